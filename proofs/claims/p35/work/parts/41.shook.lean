abbrev WX12_placeOf_q (p : Program) (l : Launch) (e : Env) (s : State) (m : MethodId) (below : List Frame) (meth : Method) (c : Code) (D : hp_D) (T : hp_T) (ap0 : Nat) (xp1 : Int32) (xp2 : Int32) (A : Nat → Nat) (Tp : Nat → Value) (gF : Nat → Int32) (H : Heap) (locs : List Loc) (g : JFrame) : Prop := W p l e (headSpec wsX12_placeOf ({ frames := 0, cells := 0, slots := 0, locals := 0 })).room s m ([.ref ap0, .int xp1, .int xp2] : List Value).toArray below meth c H locs 0 0 (MQ below (hq_p (fun v => ∃ r : Int32, v = some (.int r) ∧ (iv r (-2147483648) 2147483647 ∧ (r = gF (10 + 12 * xp1.toInt.toNat + xp2.toInt.toNat))))) ([.ref ap0, .int xp1, .int xp2] : List Value).toArray s 0 0 (fun _ => False)) g
set_option maxHeartbeats 4000000 in
set_option maxRecDepth 100000 in
theorem sX12_placeOf_q (l : Launch) (D : hp_D) (T : hp_T) (ap0 : Nat) (xp1 : Int32) (xp2 : Int32) (A : Nat → Nat) (Gm : moG) (Tp : Nat → Value) (ip0 : isMp T ap0 A Gm Tp) (gF : Nat → Int32) (bp1 : iv xp1 0 9) (bp2 : iv xp2 0 11) : Met l yX12_placeOf wsX12_placeOf ({ frames := 0, cells := 0, slots := 0, locals := 0 }) (hp_Pc D T [.ref ap0, .int xp1, .int xp2] (fun H => hp_c D H (A 9) 211 gF)) (hq_p (fun v => ∃ r : Int32, v = some (.int r) ∧ (iv r (-2147483648) 2147483647 ∧ (r = gF (10 + 12 * xp1.toInt.toNat + xp2.toInt.toNat))))) 0 0 (fun _ => False) := by
  obtain ⟨gok, tpok, hp0, hp0tape, hp0sign, hp0len, hp0clause, hp0clauses, hp0read, hp0opn, hp0stack, hp0word, hp0said, hp0was, hp0fitting, hp0sums, hp0sort, hp0sumsBy, hp0oneOf, hp0otherOf, hp0kept, hp0images, hp0acts, hp0iUnd, hp0iFor, hp0iX, hp0made⟩ := id ip0
  have hpx := gok.1
  have gsok := gok.2.2.2.2
  have ggd := gok.2.2.2.1
  refine Met.ofW (cc := cX12_placeOf) (maxL := 3) (ret := (some .int)) (by decide) rfl ?_
  intro p e s m args below meth c s₁ B hml hv
  obtain ⟨rfl, hok, hG, hB⟩ := hv
  have hx := B.exec
  have hb := B.bytes
  have hr := B.returns
  have hts := atoms_spec (ws := wsX12_placeOf) B.pre
  have hown : s.vm.findClass RX12 = some m.cls := findClass_of_methodNamed B.named
  have hlocks := B.notSynchronized
  have hK := hG.1
  have hw : hp_w D T s s.heap [] := hp_w.rf hok
  have IX12 : ∀ w ∈ wsX120, w ∈ wsX12_placeOf := by decide +kernel
  have L39 := hts (.fieldLink RX12 39 "PalmCensusModel" "said" "[I") (by decide +kernel)
  have k0 : (0 : Int32).toInt = 0 := (by decide)
  have k10 : (10 : Int32).toInt = 10 := (by decide)
  have k12 : (12 : Int32).toInt = 12 := (by decide)
  have obp1 := iv_o bp1
  have obp2 := iv_o bp2
  have hl := lv_entry ([.ref ap0, .int xp1, .int xp2]) (n := 3) (Nat.le_of_ble_eq_true rfl)
  rw [lg_entry_eq]
  generalize (lg_sl ([.ref ap0, .int xp1, .int xp2]) ++ List.replicate (3 - (lg_sl ([.ref ap0, .int xp1, .int xp2])).length) Slot.unset).toArray = ls at hl ⊢
  have hl : lv_has ls 3 [(0, .ref ap0), (1, .int xp1), (2, .int xp2)] := hl
  show WX12_placeOf_q p l e s m below meth c D T ap0 xp1 xp2 A Tp gF s.heap [] (F0 m 0 ls [])
  refine lv_aload_n hx hb dX12_placeOf_0 rfl (lv_at hl 0 rfl) ?_
  refine hp_getr hx hb hts IX12 hown hK hw.1 hp0 rfl 20 (by decide) L39 rfl dX12_placeOf_1 ?_
  refine lv_bipush (v := 10) hx hb dX12_placeOf_4 (by decide) ?_
  refine lv_bipush (v := 12) hx hb dX12_placeOf_6 (by decide) ?_
  refine lv_iload_n hx hb dX12_placeOf_8 rfl (lv_at hl 1 rfl) ?_
  refine lv_imul hx hb dX12_placeOf_9 ?_
  refine lv_topi (fun x9 ex9 => ?_)
  have bx9 : iv x9 0 108 := iv_mul (show iv 12 12 12 from ⟨by decide, by decide⟩) bp1 ex9 (by decide)
  have obx9 := iv_o bx9
  refine lv_iadd hx hb dX12_placeOf_10 ?_
  refine lv_topi (fun x10 ex10 => ?_)
  have bx10 : iv x10 10 118 := iv_add (show iv 10 10 10 from ⟨by decide, by decide⟩) bx9 ex10 (by decide)
  have obx10 := iv_o bx10
  have qx10 := iv_add_eq (show iv 10 10 10 from ⟨by decide, by decide⟩) bx9 ex10 (by decide)
  refine lv_iload_n hx hb dX12_placeOf_11 rfl (lv_at hl 2 rfl) ?_
  refine lv_iadd hx hb dX12_placeOf_12 ?_
  refine lv_topi (fun x12 ex12 => ?_)
  have bx12 : iv x12 10 129 := iv_add bx10 bp2 ex12 (by decide)
  have obx12 := iv_o bx12
  have qx12 := iv_add_eq bx10 bp2 ex12 (by decide)
  refine hp_ialdE hx hb hK hw.1 hp0said (vp_iv bx12 (by decide)) dX12_placeOf_13 (fun v13 hr13 E13 => ?_)
  have h13 := gsok _ _ hr13
  obtain ⟨x13, rfl⟩ := sP_any h13
  have m9 := iv_m12 ex9 bp1
  have n9 : x12.toNatClampNeg = 10 + 12 * xp1.toInt.toNat + xp2.toInt.toNat := by show x12.toInt.toNat = _; omega
  have u13 : x13 = gF (10 + 12 * xp1.toInt.toNat + xp2.toInt.toNat) := by rw [← n9]; exact hp_et.int E13 (hp_c.et hB (iv_ltn bx12 (by decide)))
  exact W.iret (v := x13) hx hb hr (fun t ht hW => ⟨some (.int x13), rfl, ⟨x13, rfl, ⟨iv_any _, u13⟩⟩, ht⟩) (fun q h => by cases h) dX12_placeOf_14
abbrev WX12_isPerson_q (p : Program) (l : Launch) (e : Env) (s : State) (m : MethodId) (below : List Frame) (meth : Method) (c : Code) (D : hp_D) (T : hp_T) (ap0 : Nat) (xp1 : Int32) (A : Nat → Nat) (Tp : Nat → Value) (gF : Nat → Int32) (H : Heap) (locs : List Loc) (g : JFrame) : Prop := W p l e (headSpec wsX12_isPerson ({ frames := 0, cells := 0, slots := 0, locals := 0 })).room s m ([.ref ap0, .int xp1] : List Value).toArray below meth c H locs 0 0 (MQ below (hq_p (fun v => ∃ r : Int32, v = some (.int r) ∧ (iv r 0 1 ∧ (¬ r.toInt = 0 → 0 ≤ xp1.toInt ∧ xp1.toInt < (gF 2).toInt) ∧ (¬ r = 0 → iv xp1 0 9)))) ([.ref ap0, .int xp1] : List Value).toArray s 0 0 (fun _ => False)) g
set_option maxHeartbeats 4000000 in
set_option maxRecDepth 100000 in
theorem sX12_isPerson_q (l : Launch) (D : hp_D) (T : hp_T) (ap0 : Nat) (xp1 : Int32) (A : Nat → Nat) (Gm : moG) (Tp : Nat → Value) (ip0 : isMp T ap0 A Gm Tp) (gF : Nat → Int32) : Met l yX12_isPerson wsX12_isPerson ({ frames := 0, cells := 0, slots := 0, locals := 0 }) (hp_Pc D T [.ref ap0, .int xp1] (fun H => hp_c D H (A 9) 211 gF)) (hq_p (fun v => ∃ r : Int32, v = some (.int r) ∧ (iv r 0 1 ∧ (¬ r.toInt = 0 → 0 ≤ xp1.toInt ∧ xp1.toInt < (gF 2).toInt) ∧ (¬ r = 0 → iv xp1 0 9)))) 0 0 (fun _ => False) := by
  obtain ⟨gok, tpok, hp0, hp0tape, hp0sign, hp0len, hp0clause, hp0clauses, hp0read, hp0opn, hp0stack, hp0word, hp0said, hp0was, hp0fitting, hp0sums, hp0sort, hp0sumsBy, hp0oneOf, hp0otherOf, hp0kept, hp0images, hp0acts, hp0iUnd, hp0iFor, hp0iX, hp0made⟩ := id ip0
  have hpx := gok.1
  have gsok := gok.2.2.2.2
  have ggd := gok.2.2.2.1
  refine Met.ofW (cc := cX12_isPerson) (maxL := 2) (ret := (some .boolean)) (by decide) rfl ?_
  intro p e s m args below meth c s₁ B hml hv
  obtain ⟨rfl, hok, hG, hB⟩ := hv
  have hx := B.exec
  have hb := B.bytes
  have hr := B.returns
  have hts := atoms_spec (ws := wsX12_isPerson) B.pre
  have hown : s.vm.findClass RX12 = some m.cls := findClass_of_methodNamed B.named
  have hlocks := B.notSynchronized
  have hK := hG.1
  have hw : hp_w D T s s.heap [] := hp_w.rf hok
  have IX12 : ∀ w ∈ wsX120, w ∈ wsX12_isPerson := by decide +kernel
  have L39 := hts (.fieldLink RX12 39 "PalmCensusModel" "said" "[I") (by decide +kernel)
  have k0 : (0 : Int32).toInt = 0 := (by decide)
  have k1 : (1 : Int32).toInt = 1 := (by decide)
  have k2 : (2 : Int32).toInt = 2 := (by decide)
  have hl := lv_entry ([.ref ap0, .int xp1]) (n := 2) (Nat.le_of_ble_eq_true rfl)
  rw [lg_entry_eq]
  generalize (lg_sl ([.ref ap0, .int xp1]) ++ List.replicate (2 - (lg_sl ([.ref ap0, .int xp1])).length) Slot.unset).toArray = ls at hl ⊢
  have hl : lv_has ls 2 [(0, .ref ap0), (1, .int xp1)] := hl
  show WX12_isPerson_q p l e s m below meth c D T ap0 xp1 A Tp gF s.heap [] (F0 m 0 ls [])
  refine lv_iload_n hx hb dX12_isPerson_0 rfl (lv_at hl 1 rfl) ?_
  have J18 : ∀ (ls : Array Slot), lv_has ls 2 [] → WX12_isPerson_q p l e s m below meth c D T ap0 xp1 A Tp gF s.heap [] (F0 m 18 ls []) := by
    intro ls hl
    refine lv_iconst (v := 0) hx hb dX12_isPerson_18 (by decide) ?_
    exact W.zret (v := 0) hx hb hr (iv_nz (show iv 0 0 1 from ⟨by decide, by decide⟩)) (fun t ht hW => ⟨some (.int 0), rfl, ⟨(0 : Int32), rfl, ⟨(show iv 0 0 1 from ⟨by decide, by decide⟩), (fun h9 => absurd k0 h9), (fun h9 => absurd rfl h9)⟩⟩, ht⟩) (fun q h => by cases h) dX12_isPerson_19
  refine lv_if_lt (tgt := 18) hx hb dX12_isPerson_1 (by decide) (fun c1 => ?_) (fun c1 => ?_)
  · have oc1 := Int32.lt_iff_toInt_lt.mp c1
    have r1tp : iv xp1 (-2147483648) (-1) := (iv_lt_l c1 (iv_any xp1) (show iv 0 0 0 from ⟨by decide, by decide⟩)).mono (by decide) (by decide)
    have or1tp := iv_o r1tp
    exact J18 _ (lv_sub hl [] rfl)
  · have oc1 := Int32.le_iff_toInt_le.mp (iv_nlt c1)
    have r1fq : iv xp1 0 2147483647 := (iv_le_r (iv_nlt c1) (show iv 0 0 0 from ⟨by decide, by decide⟩) (iv_any xp1)).mono (by decide) (by decide)
    have or1fq := iv_o r1fq
    refine lv_iload_n hx hb dX12_isPerson_4 rfl (lv_at hl 1 rfl) ?_
    refine lv_aload_n hx hb dX12_isPerson_5 rfl (lv_at hl 0 rfl) ?_
    refine hp_getr hx hb hts IX12 hown hK hw.1 hp0 rfl 20 (by decide) L39 rfl dX12_isPerson_6 ?_
    refine lv_iconst (v := 2) hx hb dX12_isPerson_9 (by decide) ?_
    refine hp_ialdE hx hb hK hw.1 hp0said (vp_iv (show iv 2 2 2 from ⟨by decide, by decide⟩) (by decide)) dX12_isPerson_10 (fun v10 hr10 E10 => ?_)
    have h10 := gsok _ _ hr10
    obtain ⟨x10, rfl, bx10⟩ := sP_rd2 h10 (show iv 2 2 2 from ⟨by decide, by decide⟩)
    have obx10 := iv_o bx10
    have ux10 : x10 = gF 2 := hp_et.int E10 (hp_c.et hB (show (2 : Int32).toNatClampNeg < 211 by decide))
    refine lv_icmp_ge (tgt := 18) hx hb dX12_isPerson_11 (by decide) (fun c11 => ?_) (fun c11 => ?_)
    · have oc11 := Int32.le_iff_toInt_le.mp c11
      exact J18 _ (lv_sub hl [] rfl)
    · have oc11 := Int32.lt_iff_toInt_lt.mp (iv_nle c11)
      have r11fp : iv xp1 0 9 := (iv_lt_l (iv_nle c11) r1fq bx10).mono (by decide) (by decide)
      have or11fp := iv_o r11fp
      have r11fq : iv x10 1 10 := (iv_lt_r (iv_nle c11) r1fq bx10).mono (by decide) (by decide)
      have or11fq := iv_o r11fq
      refine lv_iconst (v := 1) hx hb dX12_isPerson_14 (by decide) ?_
      refine lv_goto (tgt := 19) hx hb dX12_isPerson_15 (by decide) ?_
      exact W.zret (v := 1) hx hb hr (iv_nz (show iv 1 0 1 from ⟨by decide, by decide⟩)) (fun t ht hW => ⟨some (.int 1), rfl, ⟨(1 : Int32), rfl, ⟨(show iv 1 0 1 from ⟨by decide, by decide⟩), (fun _ => ⟨by omega, by rw [← ux10]; omega⟩), (fun _ => ⟨by omega, by omega⟩)⟩⟩, ht⟩) (fun q h => by cases h) dX12_isPerson_19
abbrev WX12_meetIn_q (p : Program) (l : Launch) (e : Env) (s : State) (m : MethodId) (below : List Frame) (meth : Method) (c : Code) (D : hp_D) (T : hp_T) (ap0 : Nat) (xp1 : Int32) (xp2 : Int32) (xp3 : Int32) (A : Nat → Nat) (Tp : Nat → Value) (gF : Nat → Int32) (H : Heap) (locs : List Loc) (g : JFrame) : Prop := W p l e (headSpec wsX12_meetIn ({ frames := 1, cells := 0, slots := 0, locals := 22 })).room s m ([.ref ap0, .int xp1, .int xp2, .int xp3] : List Value).toArray below meth c H locs 0 0 (MQ below (hq_p (fun v => ∃ r : Int32, v = some (.int r) ∧ (iv r 0 1 ∧ (¬ r.toInt = 0 → mI gF xp1.toInt.toNat xp2.toInt.toNat xp3.toInt.toNat) ∧ (r.toInt = 0 → ¬ mI gF xp1.toInt.toNat xp2.toInt.toNat xp3.toInt.toNat)))) ([.ref ap0, .int xp1, .int xp2, .int xp3] : List Value).toArray s 0 0 (fun _ => False)) g
set_option maxHeartbeats 4000000 in
set_option maxRecDepth 100000 in
theorem sX12_meetIn_q (l : Launch) (D : hp_D) (T : hp_T) (ap0 : Nat) (xp1 : Int32) (xp2 : Int32) (xp3 : Int32) (A : Nat → Nat) (Gm : moG) (Tp : Nat → Value) (ip0 : isMp T ap0 A Gm Tp) (gF : Nat → Int32) (bp1 : iv xp1 0 9) (bp2 : iv xp2 0 9) (bp3 : iv xp3 0 11) : Met l yX12_meetIn wsX12_meetIn ({ frames := 1, cells := 0, slots := 0, locals := 22 }) (hp_Pc D T [.ref ap0, .int xp1, .int xp2, .int xp3] (fun H => hp_c D H (A 9) 211 gF)) (hq_p (fun v => ∃ r : Int32, v = some (.int r) ∧ (iv r 0 1 ∧ (¬ r.toInt = 0 → mI gF xp1.toInt.toNat xp2.toInt.toNat xp3.toInt.toNat) ∧ (r.toInt = 0 → ¬ mI gF xp1.toInt.toNat xp2.toInt.toNat xp3.toInt.toNat)))) 0 0 (fun _ => False) := by
  obtain ⟨gok, tpok, hp0, hp0tape, hp0sign, hp0len, hp0clause, hp0clauses, hp0read, hp0opn, hp0stack, hp0word, hp0said, hp0was, hp0fitting, hp0sums, hp0sort, hp0sumsBy, hp0oneOf, hp0otherOf, hp0kept, hp0images, hp0acts, hp0iUnd, hp0iFor, hp0iX, hp0made⟩ := id ip0
  have hpx := gok.1
  have gsok := gok.2.2.2.2
  have ggd := gok.2.2.2.1
  refine Met.ofW (cc := cX12_meetIn) (maxL := 4) (ret := (some .boolean)) (by decide) rfl ?_
  intro p e s m args below meth c s₁ B hml hv
  obtain ⟨rfl, hok, hG, hB⟩ := hv
  have hx := B.exec
  have hb := B.bytes
  have hr := B.returns
  have hts := atoms_spec (ws := wsX12_meetIn) B.pre
  have hown : s.vm.findClass RX12 = some m.cls := findClass_of_methodNamed B.named
  have hlocks := B.notSynchronized
  have hK := hG.1
  have hw : hp_w D T s s.heap [] := hp_w.rf hok
  have k0 : (0 : Int32).toInt = 0 := (by decide)
  have k1 : (1 : Int32).toInt = 1 := (by decide)
  have k99 : (99 : Int32).toInt = 99 := (by decide)
  have obp1 := iv_o bp1
  have obp2 := iv_o bp2
  have obp3 := iv_o bp3
  have hl := lv_entry ([.ref ap0, .int xp1, .int xp2, .int xp3]) (n := 4) (Nat.le_of_ble_eq_true rfl)
  rw [lg_entry_eq]
  generalize (lg_sl ([.ref ap0, .int xp1, .int xp2, .int xp3]) ++ List.replicate (4 - (lg_sl ([.ref ap0, .int xp1, .int xp2, .int xp3])).length) Slot.unset).toArray = ls at hl ⊢
  have hl : lv_has ls 4 [(0, .ref ap0), (1, .int xp1), (2, .int xp2), (3, .int xp3)] := hl
  show WX12_meetIn_q p l e s m below meth c D T ap0 xp1 xp2 xp3 A Tp gF s.heap [] (F0 m 0 ls [])
  refine lv_aload_n hx hb dX12_meetIn_0 rfl (lv_at hl 0 rfl) ?_
  refine lv_iload_n hx hb dX12_meetIn_1 rfl (lv_at hl 1 rfl) ?_
  refine lv_iload_n hx hb dX12_meetIn_2 rfl (lv_at hl 3 rfl) ?_
  refine hp_callpi (va_runV (As := [.int xp1, .int xp3]) (rest := []) ⟨hx, hb, hml, hown, hts⟩ (sX12_placeOf_q l D T ap0 xp1 xp3 A Gm Tp ip0 gF bp1 bp3) (cwV 2 hts gX12_meetIn_X12_placeOf rfl rfl rfl (by decide +kernel) ⟨Nat.le_of_ble_eq_true rfl, Nat.le_of_ble_eq_true rfl⟩) (hp_preV hG hw hp0 rfl hB) rfl rfl hl.1 rfl (lv_room (Nat.le_of_ble_eq_true rfl)) dX12_meetIn_3 ⟨Nat.zero_le _, Nat.zero_le _⟩) (fun x3 bx3 => ?_)
  obtain ⟨cx3, R3_0⟩ := bx3
  refine lv_aload_n hx hb dX12_meetIn_6 rfl (lv_at hl 0 rfl) ?_
  refine lv_iload_n hx hb dX12_meetIn_7 rfl (lv_at hl 2 rfl) ?_
  refine lv_iload_n hx hb dX12_meetIn_8 rfl (lv_at hl 3 rfl) ?_
  refine hp_callpi (va_runV (As := [.int xp2, .int xp3]) (rest := [.int x3]) ⟨hx, hb, hml, hown, hts⟩ (sX12_placeOf_q l D T ap0 xp2 xp3 A Gm Tp ip0 gF bp2 bp3) (cwV 2 hts gX12_meetIn_X12_placeOf rfl rfl rfl (by decide +kernel) ⟨Nat.le_of_ble_eq_true rfl, Nat.le_of_ble_eq_true rfl⟩) (hp_preV hG hw hp0 rfl hB) rfl rfl hl.1 rfl (lv_room (Nat.le_of_ble_eq_true rfl)) dX12_meetIn_9 ⟨Nat.zero_le _, Nat.zero_le _⟩) (fun x9 bx9 => ?_)
  obtain ⟨cx9, R9_0⟩ := bx9
  refine lv_icmp_ne (tgt := 30) hx hb dX12_meetIn_12 (by decide) (fun c12 => ?_) (fun c12 => ?_)
  · have oc12 := iv_neq c12
    refine lv_iconst (v := 0) hx hb dX12_meetIn_30 (by decide) ?_
    exact W.zret (v := 0) hx hb hr (iv_nz (show iv 0 0 1 from ⟨by decide, by decide⟩)) (fun t ht hW => ⟨some (.int 0), rfl, ⟨(0 : Int32), rfl, ⟨(show iv 0 0 1 from ⟨by decide, by decide⟩), (fun h9 => absurd k0 h9), (fun _ h9 => c12 (by rw [R3_0, R9_0]; exact h9.1))⟩⟩, ht⟩) (fun q h => by cases h) dX12_meetIn_31
  · have oc12 := congrArg Int32.toInt c12
    refine lv_aload_n hx hb dX12_meetIn_15 rfl (lv_at hl 0 rfl) ?_
    refine lv_iload_n hx hb dX12_meetIn_16 rfl (lv_at hl 1 rfl) ?_
    refine lv_iload_n hx hb dX12_meetIn_17 rfl (lv_at hl 3 rfl) ?_
    refine hp_callpi (va_runV (As := [.int xp1, .int xp3]) (rest := []) ⟨hx, hb, hml, hown, hts⟩ (sX12_placeOf_q l D T ap0 xp1 xp3 A Gm Tp ip0 gF bp1 bp3) (cwV 2 hts gX12_meetIn_X12_placeOf rfl rfl rfl (by decide +kernel) ⟨Nat.le_of_ble_eq_true rfl, Nat.le_of_ble_eq_true rfl⟩) (hp_preV hG hw hp0 rfl hB) rfl rfl hl.1 rfl (lv_room (Nat.le_of_ble_eq_true rfl)) dX12_meetIn_18 ⟨Nat.zero_le _, Nat.zero_le _⟩) (fun x18 bx18 => ?_)
    obtain ⟨cx18, R18_0⟩ := bx18
    refine lv_bipush (v := 99) hx hb dX12_meetIn_21 (by decide) ?_
    refine lv_icmp_eq (tgt := 30) hx hb dX12_meetIn_23 (by decide) (fun c23 => ?_) (fun c23 => ?_)
    · have oc23 := congrArg Int32.toInt c23
      have r23tp : iv x18 99 99 := (iv_both (iv_any x18) (iv_eq (show iv 99 99 99 from ⟨by decide, by decide⟩) c23)).mono (by decide) (by decide)
      have or23tp := iv_o r23tp
      refine lv_iconst (v := 0) hx hb dX12_meetIn_30 (by decide) ?_
      exact W.zret (v := 0) hx hb hr (iv_nz (show iv 0 0 1 from ⟨by decide, by decide⟩)) (fun t ht hW => ⟨some (.int 0), rfl, ⟨(0 : Int32), rfl, ⟨(show iv 0 0 1 from ⟨by decide, by decide⟩), (fun h9 => absurd k0 h9), (fun _ h9 => h9.2 (by rw [← R18_0]; exact c23))⟩⟩, ht⟩) (fun q h => by cases h) dX12_meetIn_31
    · have oc23 := iv_neq c23
      refine lv_iconst (v := 1) hx hb dX12_meetIn_26 (by decide) ?_
      refine lv_goto (tgt := 31) hx hb dX12_meetIn_27 (by decide) ?_
      exact W.zret (v := 1) hx hb hr (iv_nz (show iv 1 0 1 from ⟨by decide, by decide⟩)) (fun t ht hW => ⟨some (.int 1), rfl, ⟨(1 : Int32), rfl, ⟨(show iv 1 0 1 from ⟨by decide, by decide⟩), (fun _ => ⟨by rw [← R3_0, ← R9_0]; exact c12, by rw [← R18_0]; exact c23⟩), (fun h9 => absurd h9 (by omega))⟩⟩, ht⟩) (fun q h => by cases h) dX12_meetIn_31
abbrev WX12_meet_q (p : Program) (l : Launch) (e : Env) (s : State) (m : MethodId) (below : List Frame) (meth : Method) (c : Code) (D : hp_D) (T : hp_T) (ap0 : Nat) (xp1 : Int32) (xp2 : Int32) (A : Nat → Nat) (Tp : Nat → Value) (gF : Nat → Int32) (H : Heap) (locs : List Loc) (g : JFrame) : Prop := W p l e (headSpec wsX12_meet ({ frames := 2, cells := 0, slots := 0, locals := 45 })).room s m ([.ref ap0, .int xp1, .int xp2] : List Value).toArray below meth c H locs 0 0 (MQ below (hq_p (fun v => ∃ r : Int32, v = some (.int r) ∧ (iv r 0 1 ∧ (¬ r.toInt = 0 → meP gF xp1.toInt.toNat xp2.toInt.toNat) ∧ (r.toInt = 0 → ¬ meP gF xp1.toInt.toNat xp2.toInt.toNat)))) ([.ref ap0, .int xp1, .int xp2] : List Value).toArray s 0 0 (fun _ => False)) g
set_option maxHeartbeats 4000000 in
set_option maxRecDepth 100000 in
theorem sX12_meet_q (l : Launch) (D : hp_D) (T : hp_T) (ap0 : Nat) (xp1 : Int32) (xp2 : Int32) (A : Nat → Nat) (Gm : moG) (Tp : Nat → Value) (ip0 : isMp T ap0 A Gm Tp) (gF : Nat → Int32) (bp1 : iv xp1 0 9) (bp2 : iv xp2 0 9) : Met l yX12_meet wsX12_meet ({ frames := 2, cells := 0, slots := 0, locals := 45 }) (hp_Pc D T [.ref ap0, .int xp1, .int xp2] (fun H => hp_c D H (A 9) 211 gF)) (hq_p (fun v => ∃ r : Int32, v = some (.int r) ∧ (iv r 0 1 ∧ (¬ r.toInt = 0 → meP gF xp1.toInt.toNat xp2.toInt.toNat) ∧ (r.toInt = 0 → ¬ meP gF xp1.toInt.toNat xp2.toInt.toNat)))) 0 0 (fun _ => False) := by
  obtain ⟨gok, tpok, hp0, hp0tape, hp0sign, hp0len, hp0clause, hp0clauses, hp0read, hp0opn, hp0stack, hp0word, hp0said, hp0was, hp0fitting, hp0sums, hp0sort, hp0sumsBy, hp0oneOf, hp0otherOf, hp0kept, hp0images, hp0acts, hp0iUnd, hp0iFor, hp0iX, hp0made⟩ := id ip0
  have hpx := gok.1
  have gsok := gok.2.2.2.2
  have ggd := gok.2.2.2.1
  refine Met.ofW (cc := cX12_meet) (maxL := 4) (ret := (some .boolean)) (by decide) rfl ?_
  intro p e s m args below meth c s₁ B hml hv
  obtain ⟨rfl, hok, hG, hB⟩ := hv
  have hx := B.exec
  have hb := B.bytes
  have hr := B.returns
  have hts := atoms_spec (ws := wsX12_meet) B.pre
  have hown : s.vm.findClass RX12 = some m.cls := findClass_of_methodNamed B.named
  have hlocks := B.notSynchronized
  have hK := hG.1
  have hw : hp_w D T s s.heap [] := hp_w.rf hok
  have IX12 : ∀ w ∈ wsX120, w ∈ wsX12_meet := by decide +kernel
  have L39 := hts (.fieldLink RX12 39 "PalmCensusModel" "said" "[I") (by decide +kernel)
  have k0 : (0 : Int32).toInt = 0 := (by decide)
  have k1 : (1 : Int32).toInt = 1 := (by decide)
  have obp1 := iv_o bp1
  have obp2 := iv_o bp2
  have hl := lv_entry ([.ref ap0, .int xp1, .int xp2]) (n := 4) (Nat.le_of_ble_eq_true rfl)
  rw [lg_entry_eq]
  generalize (lg_sl ([.ref ap0, .int xp1, .int xp2]) ++ List.replicate (4 - (lg_sl ([.ref ap0, .int xp1, .int xp2])).length) Slot.unset).toArray = ls at hl ⊢
  have hl : lv_has ls 4 [(0, .ref ap0), (1, .int xp1), (2, .int xp2)] := hl
  show WX12_meet_q p l e s m below meth c D T ap0 xp1 xp2 A Tp gF s.heap [] (F0 m 0 ls [])
  refine lv_iconst (v := 0) hx hb dX12_meet_0 (by decide) ?_
  refine lv_istore_n (lv' := [(3, .int 0), (0, .ref ap0), (1, .int xp1), (2, .int xp2)]) hx hb dX12_meet_1 rfl hl (by decide) rfl (fun ls hl => ?_)
  have J2 : ∀ (n : Nat) (y2_l3 : Int32), (12 - y2_l3.toInt).toNat < n → iv xp1 0 9 → iv xp2 0 9 → iv y2_l3 0 12 → (∀ j : Nat, (j : Int) < y2_l3.toInt → ¬ mI gF xp1.toInt.toNat xp2.toInt.toNat j) → ∀ (ls : Array Slot), lv_has ls 4 [(0, .ref ap0), (1, .int xp1), (2, .int xp2), (3, .int y2_l3)] → WX12_meet_q p l e s m below meth c D T ap0 xp1 xp2 A Tp gF s.heap [] (F0 m 2 ls []) := by
    intro n
    induction n with
    | zero => intro y2_l3 hmu2 c2_xp1 c2_xp2 c2_y2_l3 hv2_0 ls hl; exact absurd hmu2 (Nat.not_lt_zero _)
    | succ n ih2 =>
      intro y2_l3 hmu2 c2_xp1 c2_xp2 c2_y2_l3 hv2_0 ls hl
      have oc2_xp1 := iv_o c2_xp1
      have oc2_xp2 := iv_o c2_xp2
      have oc2_y2_l3 := iv_o c2_y2_l3
      refine lv_iload_n hx hb dX12_meet_2 rfl (lv_at hl 3 rfl) ?_
      refine lv_aload_n hx hb dX12_meet_3 rfl (lv_at hl 0 rfl) ?_
      refine hp_getr hx hb hts IX12 hown hK hw.1 hp0 rfl 20 (by decide) L39 rfl dX12_meet_4 ?_
      refine lv_iconst (v := 1) hx hb dX12_meet_7 (by decide) ?_
      refine hp_ialdE hx hb hK hw.1 hp0said (vp_iv (show iv 1 1 1 from ⟨by decide, by decide⟩) (by decide)) dX12_meet_8 (fun v8 hr8 E8 => ?_)
      have h8 := gsok _ _ hr8
      obtain ⟨x8, rfl, bx8⟩ := sP_rd1 h8 (show iv 1 1 1 from ⟨by decide, by decide⟩)
      have obx8 := iv_o bx8
      have ux8 : x8 = gF 1 := hp_et.int E8 (hp_c.et hB (show (1 : Int32).toNatClampNeg < 211 by decide))
      refine lv_icmp_ge (tgt := 30) hx hb dX12_meet_9 (by decide) (fun c9 => ?_) (fun c9 => ?_)
      · have oc9 := Int32.le_iff_toInt_le.mp c9
        refine lv_iconst (v := 0) hx hb dX12_meet_30 (by decide) ?_
        exact W.zret (v := 0) hx hb hr (iv_nz (show iv 0 0 1 from ⟨by decide, by decide⟩)) (fun t ht hW => ⟨some (.int 0), rfl, ⟨(0 : Int32), rfl, ⟨(show iv 0 0 1 from ⟨by decide, by decide⟩), (fun h9 => absurd k0 h9), (fun _ h9 => by obtain ⟨j, j1, j2⟩ := h9; rw [← ux8] at j1; exact hv2_0 j (by omega) j2)⟩⟩, ht⟩) (fun q h => by cases h) dX12_meet_31
      · have oc9 := Int32.lt_iff_toInt_lt.mp (iv_nle c9)
        have r9fp : iv y2_l3 0 11 := (iv_lt_l (iv_nle c9) c2_y2_l3 bx8).mono (by decide) (by decide)
        have or9fp := iv_o r9fp
        have r9fq : iv x8 1 12 := (iv_lt_r (iv_nle c9) c2_y2_l3 bx8).mono (by decide) (by decide)
        have or9fq := iv_o r9fq
        refine lv_aload_n hx hb dX12_meet_12 rfl (lv_at hl 0 rfl) ?_
        refine lv_iload_n hx hb dX12_meet_13 rfl (lv_at hl 1 rfl) ?_
        refine lv_iload_n hx hb dX12_meet_14 rfl (lv_at hl 2 rfl) ?_
        refine lv_iload_n hx hb dX12_meet_15 rfl (lv_at hl 3 rfl) ?_
        refine hp_callpi (va_runV (As := [.int xp1, .int xp2, .int y2_l3]) (rest := []) ⟨hx, hb, hml, hown, hts⟩ (sX12_meetIn_q l D T ap0 xp1 xp2 y2_l3 A Gm Tp ip0 gF c2_xp1 c2_xp2 r9fp) (cwV 3 hts gX12_meet_X12_meetIn rfl rfl rfl (by decide +kernel) ⟨Nat.le_of_ble_eq_true rfl, Nat.le_of_ble_eq_true rfl⟩) (hp_preV hG hw hp0 rfl hB) rfl rfl hl.1 rfl (lv_room (Nat.le_of_ble_eq_true rfl)) dX12_meet_16 ⟨Nat.zero_le _, Nat.zero_le _⟩) (fun x16 bx16 => ?_)
        obtain ⟨cx16, R16_0, R16_1⟩ := bx16
        have ocx16 := iv_o cx16
        refine lv_if_eq (tgt := 24) hx hb dX12_meet_19 (by decide) (fun c19 => ?_) (fun c19 => ?_)
        · have oc19 := congrArg Int32.toInt c19
          have r19tp : iv x16 0 0 := (iv_both cx16 (iv_eq (show iv 0 0 0 from ⟨by decide, by decide⟩) c19)).mono (by decide) (by decide)
          have or19tp := iv_o r19tp
          obtain ⟨x24, ex24⟩ : ∃ y : Int32, y = y2_l3 + 1 := ⟨_, rfl⟩
          have bx24 : iv x24 1 12 := iv_add r9fp (show iv 1 1 1 from ⟨by decide, by decide⟩) ex24 (by decide)
          have qx24 := iv_add_eq r9fp (show iv 1 1 1 from ⟨by decide, by decide⟩) ex24 (by decide)
          have obx24 := iv_o bx24
          refine lv_iinc (v := x24) (lv' := [(3, .int x24), (0, .ref ap0), (1, .int xp1), (2, .int xp2)]) hx hb dX12_meet_24 hl (k := 3) rfl (by rw [ex24]; rfl) (by decide) rfl (fun ls hl => ?_)
          refine lv_goto (tgt := 2) hx hb dX12_meet_27 (by decide) ?_
          exact ih2 x24 (mu_up 1 hmu2 (qx24) (by decide) (show iv x24 0 12 from (bx24.mono (by decide) (by decide))).2) c2_xp1 c2_xp2 (bx24.mono (by decide) (by decide)) (show ∀ j : Nat, (j : Int) < x24.toInt → ¬ mI gF xp1.toInt.toNat xp2.toInt.toNat j from (fun j h9 => by rcases (show (j : Int) < y2_l3.toInt ∨ j = y2_l3.toInt.toNat by omega) with z | z; exact hv2_0 j z; (rw [z]; exact R16_1 (by omega)))) _ (lv_sub hl [1, 2, 3, 0] rfl)
        · have oc19 := iv_neq c19
          have r19fp : iv x16 1 1 := (iv_ne_lo c19 cx16 rfl).mono (by decide) (by decide)
          have or19fp := iv_o r19fp
          refine lv_iconst (v := 1) hx hb dX12_meet_22 (by decide) ?_
          exact W.zret (v := 1) hx hb hr (iv_nz (show iv 1 0 1 from ⟨by decide, by decide⟩)) (fun t ht hW => ⟨some (.int 1), rfl, ⟨(1 : Int32), rfl, ⟨(show iv 1 0 1 from ⟨by decide, by decide⟩), (fun _ => ⟨y2_l3.toInt.toNat, by rw [← ux8]; omega, R16_0 (by omega)⟩), (fun h9 => absurd h9 (by omega))⟩⟩, ht⟩) (fun q h => by cases h) dX12_meet_23
  exact J2 _ (0 : Int32) (Nat.lt_succ_self _) bp1 bp2 (show iv 0 0 12 from ⟨by decide, by decide⟩) (show ∀ j : Nat, (j : Int) < 0 → ¬ mI gF xp1.toInt.toNat xp2.toInt.toNat j from (fun j h9 => absurd h9 (by omega))) _ (lv_sub hl [1, 2, 3, 0] rfl)
abbrev WX12_areSo_q (p : Program) (l : Launch) (e : Env) (s : State) (m : MethodId) (below : List Frame) (meth : Method) (c : Code) (D : hp_D) (T : hp_T) (ap0 : Nat) (xp1 : Int32) (A : Nat → Nat) (Tp : Nat → Value) (H : Heap) (locs : List Loc) (g : JFrame) : Prop := W p l e (headSpec wsX12_areSo ({ frames := 1, cells := 0, slots := 0, locals := 21 })).room s m ([.ref ap0, .int xp1] : List Value).toArray below meth c H locs 0 0 (MQ below (hq_p (fun v => ∃ r : Int32, v = some (.int r) ∧ (iv r 0 1))) ([.ref ap0, .int xp1] : List Value).toArray s 0 0 (fun _ => False)) g
set_option maxHeartbeats 4000000 in
set_option maxRecDepth 100000 in
theorem sX12_areSo_q (l : Launch) (D : hp_D) (T : hp_T) (ap0 : Nat) (xp1 : Int32) (A : Nat → Nat) (Gm : moG) (Tp : Nat → Value) (ip0 : isMp T ap0 A Gm Tp) : Met l yX12_areSo wsX12_areSo ({ frames := 1, cells := 0, slots := 0, locals := 21 }) (hp_Pc D T [.ref ap0, .int xp1] (fun _ => True)) (hq_p (fun v => ∃ r : Int32, v = some (.int r) ∧ (iv r 0 1))) 0 0 (fun _ => False) := by
  obtain ⟨gok, tpok, hp0, hp0tape, hp0sign, hp0len, hp0clause, hp0clauses, hp0read, hp0opn, hp0stack, hp0word, hp0said, hp0was, hp0fitting, hp0sums, hp0sort, hp0sumsBy, hp0oneOf, hp0otherOf, hp0kept, hp0images, hp0acts, hp0iUnd, hp0iFor, hp0iX, hp0made⟩ := id ip0
  have hpx := gok.1
  have gsok := gok.2.2.2.2
  have ggd := gok.2.2.2.1
  refine Met.ofW (cc := cX12_areSo) (maxL := 5) (ret := (some .boolean)) (by decide) rfl ?_
  intro p e s m args below meth c s₁ B hml hv
  obtain ⟨rfl, hok, hG, hB⟩ := hv
  have hx := B.exec
  have hb := B.bytes
  have hr := B.returns
  have hts := atoms_spec (ws := wsX12_areSo) B.pre
  have hown : s.vm.findClass RX12 = some m.cls := findClass_of_methodNamed B.named
  have hlocks := B.notSynchronized
  have hK := hG.1
  have hw : hp_w D T s s.heap [] := hp_w.rf hok
  have IX12 : ∀ w ∈ wsX120, w ∈ wsX12_areSo := by decide +kernel
  have L39 := hts (.fieldLink RX12 39 "PalmCensusModel" "said" "[I") (by decide +kernel)
  have L403 := hts (.fieldLink RX12 403 "PalmCensusModel" "twos" "I") (by decide +kernel)
  have L61 := hts (.fieldLink RX12 61 "PalmCensusModel" "oneOf" "[I") (by decide +kernel)
  have L64 := hts (.fieldLink RX12 64 "PalmCensusModel" "otherOf" "[I") (by decide +kernel)
  have k0 : (0 : Int32).toInt = 0 := (by decide)
  have k1 : (1 : Int32).toInt = 1 := (by decide)
  have k2 : (2 : Int32).toInt = 2 := (by decide)
  have k200 : (200 : Int32).toInt = 200 := (by decide)
  have hl := lv_entry ([.ref ap0, .int xp1]) (n := 5) (Nat.le_of_ble_eq_true rfl)
  rw [lg_entry_eq]
  generalize (lg_sl ([.ref ap0, .int xp1]) ++ List.replicate (5 - (lg_sl ([.ref ap0, .int xp1])).length) Slot.unset).toArray = ls at hl ⊢
  have hl : lv_has ls 5 [(0, .ref ap0), (1, .int xp1)] := hl
  show WX12_areSo_q p l e s m below meth c D T ap0 xp1 A Tp s.heap [] (F0 m 0 ls [])
  refine lv_iconst (v := 0) hx hb dX12_areSo_0 (by decide) ?_
  refine lv_istore_n (lv' := [(2, .int 0), (0, .ref ap0), (1, .int xp1)]) hx hb dX12_areSo_1 rfl hl (by decide) rfl (fun ls hl => ?_)
  have J2 : ∀ (n : Nat) (y2_l2 : Int32), (10 - y2_l2.toInt).toNat < n → iv y2_l2 0 10 → ∀ (ls : Array Slot), lv_has ls 5 [(0, .ref ap0), (1, .int xp1), (2, .int y2_l2)] → WX12_areSo_q p l e s m below meth c D T ap0 xp1 A Tp s.heap [] (F0 m 2 ls []) := by
    intro n
    induction n with
    | zero => intro y2_l2 hmu2 c2_y2_l2 ls hl; exact absurd hmu2 (Nat.not_lt_zero _)
    | succ n ih2 =>
      intro y2_l2 hmu2 c2_y2_l2 ls hl
      have oc2_y2_l2 := iv_o c2_y2_l2
      refine lv_iload_n hx hb dX12_areSo_2 rfl (lv_at hl 2 rfl) ?_
      refine lv_aload_n hx hb dX12_areSo_3 rfl (lv_at hl 0 rfl) ?_
      refine hp_getr hx hb hts IX12 hown hK hw.1 hp0 rfl 20 (by decide) L39 rfl dX12_areSo_4 ?_
      refine lv_iconst (v := 2) hx hb dX12_areSo_7 (by decide) ?_
      refine hp_iald hx hb hK hw.1 hp0said (vp_iv (show iv 2 2 2 from ⟨by decide, by decide⟩) (by decide)) dX12_areSo_8 (fun v8 hr8 => ?_)
      have h8 := gsok _ _ hr8
      obtain ⟨x8, rfl, bx8⟩ := sP_rd2 h8 (show iv 2 2 2 from ⟨by decide, by decide⟩)
      have obx8 := iv_o bx8
      refine lv_icmp_ge (tgt := 109) hx hb dX12_areSo_9 (by decide) (fun c9 => ?_) (fun c9 => ?_)
      · have oc9 := Int32.le_iff_toInt_le.mp c9
        refine lv_iconst (v := 1) hx hb dX12_areSo_109 (by decide) ?_
        exact W.zret (v := 1) hx hb hr (iv_nz (show iv 1 0 1 from ⟨by decide, by decide⟩)) (fun t ht hW => ⟨some (.int 1), rfl, ⟨(1 : Int32), rfl, (show iv 1 0 1 from ⟨by decide, by decide⟩)⟩, ht⟩) (fun q h => by cases h) dX12_areSo_110
      · have oc9 := Int32.lt_iff_toInt_lt.mp (iv_nle c9)
        have r9fp : iv y2_l2 0 9 := (iv_lt_l (iv_nle c9) c2_y2_l2 bx8).mono (by decide) (by decide)
        have or9fp := iv_o r9fp
        have r9fq : iv x8 1 10 := (iv_lt_r (iv_nle c9) c2_y2_l2 bx8).mono (by decide) (by decide)
        have or9fq := iv_o r9fq
        refine lv_aload_n hx hb dX12_areSo_12 rfl (lv_at hl 0 rfl) ?_
        refine hp_getr hx hb hts IX12 hown hK hw.1 hp0 rfl 20 (by decide) L39 rfl dX12_areSo_13 ?_
        refine lv_sipush (v := 200) hx hb dX12_areSo_16 (by decide) ?_
        refine lv_iload_n hx hb dX12_areSo_19 rfl (lv_at hl 2 rfl) ?_
        refine lv_iadd hx hb dX12_areSo_20 ?_
        refine lv_topi (fun x20 ex20 => ?_)
        have bx20 : iv x20 200 209 := iv_add (show iv 200 200 200 from ⟨by decide, by decide⟩) r9fp ex20 (by decide)
        have obx20 := iv_o bx20
        have qx20 := iv_add_eq (show iv 200 200 200 from ⟨by decide, by decide⟩) r9fp ex20 (by decide)
        refine hp_iald hx hb hK hw.1 hp0said (vp_iv bx20 (by decide)) dX12_areSo_21 (fun v21 hr21 => ?_)
        have h21 := gsok _ _ hr21
        obtain ⟨x21, rfl⟩ := sP_any h21
        have J103 : iv y2_l2 0 9 → ∀ (ls : Array Slot), lv_has ls 5 [(0, .ref ap0), (1, .int xp1), (2, .int y2_l2)] → WX12_areSo_q p l e s m below meth c D T ap0 xp1 A Tp s.heap [] (F0 m 103 ls []) := by
          intro c103_y2_l2 ls hl
          have oc103_y2_l2 := iv_o c103_y2_l2
          obtain ⟨x103, ex103⟩ : ∃ y : Int32, y = y2_l2 + 1 := ⟨_, rfl⟩
          have bx103 : iv x103 1 10 := iv_add c103_y2_l2 (show iv 1 1 1 from ⟨by decide, by decide⟩) ex103 (by decide)
          have qx103 := iv_add_eq c103_y2_l2 (show iv 1 1 1 from ⟨by decide, by decide⟩) ex103 (by decide)
          have obx103 := iv_o bx103
          refine lv_iinc (v := x103) (lv' := [(2, .int x103), (0, .ref ap0), (1, .int xp1)]) hx hb dX12_areSo_103 hl (k := 2) rfl (by rw [ex103]; rfl) (by decide) rfl (fun ls hl => ?_)
          refine lv_goto (tgt := 2) hx hb dX12_areSo_106 (by decide) ?_
          exact ih2 x103 (mu_up 1 hmu2 (qx103) (by decide) (show iv x103 0 10 from (bx103.mono (by decide) (by decide))).2) (bx103.mono (by decide) (by decide)) _ (lv_sub hl [1, 2, 0] rfl)
        refine lv_if_ge (tgt := 28) hx hb dX12_areSo_22 (by decide) (fun c22 => ?_) (fun c22 => ?_)
        · have oc22 := Int32.le_iff_toInt_le.mp c22
          have r22tq : iv x21 0 2147483647 := (iv_le_r c22 (show iv 0 0 0 from ⟨by decide, by decide⟩) (iv_any x21)).mono (by decide) (by decide)
          have or22tq := iv_o r22tq
          refine lv_iconst (v := 0) hx hb dX12_areSo_28 (by decide) ?_
          refine lv_istore_n (lv' := [(3, .int 0), (0, .ref ap0), (1, .int xp1), (2, .int y2_l2)]) hx hb dX12_areSo_29 rfl hl (by decide) rfl (fun ls hl => ?_)
          refine lv_iconst (v := 0) hx hb dX12_areSo_30 (by decide) ?_
          refine lv_istore (lv' := [(4, .int 0), (3, .int 0), (0, .ref ap0), (1, .int xp1), (2, .int y2_l2)]) hx hb dX12_areSo_31 hl (by decide) rfl (fun ls hl => ?_)
          have J33 : ∀ (n : Nat) (y33_l3 y33_l4 : Int32), (45 - y33_l4.toInt).toNat < n → iv y2_l2 0 9 → iv y33_l4 0 45 → ∀ (ls : Array Slot), lv_has ls 5 [(0, .ref ap0), (1, .int xp1), (2, .int y2_l2), (3, .int y33_l3), (4, .int y33_l4)] → WX12_areSo_q p l e s m below meth c D T ap0 xp1 A Tp s.heap [] (F0 m 33 ls []) := by
            intro n
            induction n with
            | zero => intro y33_l3 y33_l4 hmu33 c33_y2_l2 c33_y33_l4 ls hl; exact absurd hmu33 (Nat.not_lt_zero _)
            | succ n ih33 =>
              intro y33_l3 y33_l4 hmu33 c33_y2_l2 c33_y33_l4 ls hl
              have oc33_y2_l2 := iv_o c33_y2_l2
              have oc33_y33_l4 := iv_o c33_y33_l4
              refine lv_iload hx hb dX12_areSo_33 (lv_at hl 4 rfl) ?_
              refine lv_aload_n hx hb dX12_areSo_35 rfl (lv_at hl 0 rfl) ?_
              refine hp_geti hx hb hts IX12 hown hK hw.1 hp0 rfl 32 (by decide) L403 rfl dX12_areSo_36 (fun x36 bx36 fx36 => ?_)
              have obx36 := iv_o bx36
              refine lv_icmp_ge (tgt := 87) hx hb dX12_areSo_39 (by decide) (fun c39 => ?_) (fun c39 => ?_)
              · have oc39 := Int32.le_iff_toInt_le.mp c39
                refine lv_iload_n hx hb dX12_areSo_87 rfl (lv_at hl 3 rfl) ?_
                refine lv_aload_n hx hb dX12_areSo_88 rfl (lv_at hl 0 rfl) ?_
                refine hp_getr hx hb hts IX12 hown hK hw.1 hp0 rfl 20 (by decide) L39 rfl dX12_areSo_89 ?_
                refine lv_sipush (v := 200) hx hb dX12_areSo_92 (by decide) ?_
                refine lv_iload_n hx hb dX12_areSo_95 rfl (lv_at hl 2 rfl) ?_
                refine lv_iadd hx hb dX12_areSo_96 ?_
                refine lv_topi (fun x96 ex96 => ?_)
                have bx96 : iv x96 200 209 := iv_add (show iv 200 200 200 from ⟨by decide, by decide⟩) c33_y2_l2 ex96 (by decide)
                have obx96 := iv_o bx96
                have qx96 := iv_add_eq (show iv 200 200 200 from ⟨by decide, by decide⟩) c33_y2_l2 ex96 (by decide)
                refine hp_iald hx hb hK hw.1 hp0said (vp_iv bx96 (by decide)) dX12_areSo_97 (fun v97 hr97 => ?_)
                have h97 := gsok _ _ hr97
                obtain ⟨x97, rfl⟩ := sP_any h97
                refine lv_icmp_eq (tgt := 103) hx hb dX12_areSo_98 (by decide) (fun c98 => ?_) (fun c98 => ?_)
                · have oc98 := congrArg Int32.toInt c98
                  exact J103 c33_y2_l2 _ (lv_sub hl [0, 1, 2] rfl)
                · have oc98 := iv_neq c98
                  refine lv_iconst (v := 0) hx hb dX12_areSo_101 (by decide) ?_
                  exact W.zret (v := 0) hx hb hr (iv_nz (show iv 0 0 1 from ⟨by decide, by decide⟩)) (fun t ht hW => ⟨some (.int 0), rfl, ⟨(0 : Int32), rfl, (show iv 0 0 1 from ⟨by decide, by decide⟩)⟩, ht⟩) (fun q h => by cases h) dX12_areSo_102
              · have oc39 := Int32.lt_iff_toInt_lt.mp (iv_nle c39)
                have r39fp : iv y33_l4 0 44 := (iv_lt_l (iv_nle c39) c33_y33_l4 bx36).mono (by decide) (by decide)
                have or39fp := iv_o r39fp
                have r39fq : iv x36 1 45 := (iv_lt_r (iv_nle c39) c33_y33_l4 bx36).mono (by decide) (by decide)
                have or39fq := iv_o r39fq
                refine lv_iload_n hx hb dX12_areSo_42 rfl (lv_at hl 3 rfl) ?_
                refine lv_iload_n hx hb dX12_areSo_43 rfl (lv_at hl 1 rfl) ?_
                refine lv_iload hx hb dX12_areSo_44 (lv_at hl 4 rfl) ?_
                refine hp_callpi (va_runS (As := [.int xp1, .int y33_l4]) (rest := [.int y33_l3]) ⟨hx, hb, hml, hown, hts⟩ (sX12_isOf l D T xp1 y33_l4) (va_cwS 2 hts gX12_areSo_X12_isOf rfl rfl rfl (by decide +kernel) ⟨Nat.le_of_ble_eq_true rfl, Nat.le_of_ble_eq_true rfl⟩) (hp_preS hG hw trivial) rfl rfl hl.1 rfl (lv_room (Nat.le_of_ble_eq_true rfl)) dX12_areSo_46 ⟨Nat.zero_le _, Nat.zero_le _⟩) (fun x46 bx46 => ?_)
                have obx46 := iv_o bx46
                have J79 : ∀ (y79_s1 : Int32), iv y2_l2 0 9 → iv y33_l4 0 44 → iv y79_s1 0 1 → iv x36 1 45 → ∀ (ls : Array Slot), lv_has ls 5 [(0, .ref ap0), (1, .int xp1), (2, .int y2_l2), (4, .int y33_l4)] → WX12_areSo_q p l e s m below meth c D T ap0 xp1 A Tp s.heap [] (F0 m 79 ls [.int y79_s1, .int y33_l3]) := by
                  intro y79_s1 c79_y2_l2 c79_y33_l4 c79_y79_s1 c79_x36 ls hl
                  have oc79_y2_l2 := iv_o c79_y2_l2
                  have oc79_y33_l4 := iv_o c79_y33_l4
                  have oc79_y79_s1 := iv_o c79_y79_s1
                  have oc79_x36 := iv_o c79_x36
                  refine lv_iadd hx hb dX12_areSo_79 ?_
                  refine lv_topi (fun x79 ex79 => ?_)
                  refine lv_istore_n (lv' := [(3, .int x79), (0, .ref ap0), (1, .int xp1), (2, .int y2_l2), (4, .int y33_l4)]) hx hb dX12_areSo_80 rfl hl (by decide) rfl (fun ls hl => ?_)
                  obtain ⟨x81, ex81⟩ : ∃ y : Int32, y = y33_l4 + 1 := ⟨_, rfl⟩
                  have bx81 : iv x81 1 45 := iv_add c79_y33_l4 (show iv 1 1 1 from ⟨by decide, by decide⟩) ex81 (by decide)
                  have qx81 := iv_add_eq c79_y33_l4 (show iv 1 1 1 from ⟨by decide, by decide⟩) ex81 (by decide)
                  have obx81 := iv_o bx81
                  refine lv_iinc (v := x81) (lv' := [(4, .int x81), (3, .int x79), (0, .ref ap0), (1, .int xp1), (2, .int y2_l2)]) hx hb dX12_areSo_81 hl (k := 4) rfl (by rw [ex81]; rfl) (by decide) rfl (fun ls hl => ?_)
                  refine lv_goto (tgt := 33) hx hb dX12_areSo_84 (by decide) ?_
                  exact ih33 x79 x81 (mu_up 1 hmu33 (qx81) (by decide) (show iv x81 0 45 from (bx81.mono (by decide) (by decide))).2) c79_y2_l2 (bx81.mono (by decide) (by decide)) _ (lv_sub hl [2, 3, 4, 1, 0] rfl)
                have J78 : iv y2_l2 0 9 → iv y33_l4 0 44 → iv x36 1 45 → ∀ (ls : Array Slot), lv_has ls 5 [(0, .ref ap0), (1, .int xp1), (2, .int y2_l2), (4, .int y33_l4)] → WX12_areSo_q p l e s m below meth c D T ap0 xp1 A Tp s.heap [] (F0 m 78 ls [.int y33_l3]) := by
                  intro c78_y2_l2 c78_y33_l4 c78_x36 ls hl
                  have oc78_y2_l2 := iv_o c78_y2_l2
                  have oc78_y33_l4 := iv_o c78_y33_l4
                  have oc78_x36 := iv_o c78_x36
                  refine lv_iconst (v := 0) hx hb dX12_areSo_78 (by decide) ?_
                  exact J79 (0 : Int32) c78_y2_l2 c78_y33_l4 (show iv 0 0 1 from ⟨by decide, by decide⟩) c78_x36 _ (lv_sub hl [0, 1, 2, 3] rfl)
                refine lv_if_eq (tgt := 78) hx hb dX12_areSo_49 (by decide) (fun c49 => ?_) (fun c49 => ?_)
                · have oc49 := congrArg Int32.toInt c49
                  have r49tp : iv x46 0 0 := (iv_both bx46 (iv_eq (show iv 0 0 0 from ⟨by decide, by decide⟩) c49)).mono (by decide) (by decide)
                  have or49tp := iv_o r49tp
                  exact J78 c33_y2_l2 r39fp r39fq _ (lv_sub hl [0, 1, 2, 4] rfl)
                · have oc49 := iv_neq c49
                  have r49fp : iv x46 1 1 := (iv_ne_lo c49 bx46 rfl).mono (by decide) (by decide)
                  have or49fp := iv_o r49fp
                  refine lv_aload_n hx hb dX12_areSo_52 rfl (lv_at hl 0 rfl) ?_
                  refine hp_getr hx hb hts IX12 hown hK hw.1 hp0 rfl 30 (by decide) L61 rfl dX12_areSo_53 ?_
                  refine lv_iload hx hb dX12_areSo_56 (lv_at hl 4 rfl) ?_
                  refine hp_ialdA hx hb hK hw.1 hp0oneOf (vp_iv r39fp (by decide)) dX12_areSo_58 (fun x58 => ?_)
                  refine lv_iload_n hx hb dX12_areSo_59 rfl (lv_at hl 2 rfl) ?_
                  have J74 : iv y2_l2 0 9 → iv y33_l4 0 44 → iv x36 1 45 → ∀ (ls : Array Slot), lv_has ls 5 [(0, .ref ap0), (1, .int xp1), (2, .int y2_l2), (4, .int y33_l4)] → WX12_areSo_q p l e s m below meth c D T ap0 xp1 A Tp s.heap [] (F0 m 74 ls [.int y33_l3]) := by
                    intro c74_y2_l2 c74_y33_l4 c74_x36 ls hl
                    have oc74_y2_l2 := iv_o c74_y2_l2
                    have oc74_y33_l4 := iv_o c74_y33_l4
                    have oc74_x36 := iv_o c74_x36
                    refine lv_iconst (v := 1) hx hb dX12_areSo_74 (by decide) ?_
                    refine lv_goto (tgt := 79) hx hb dX12_areSo_75 (by decide) ?_
                    exact J79 (1 : Int32) c74_y2_l2 c74_y33_l4 (show iv 1 0 1 from ⟨by decide, by decide⟩) c74_x36 _ (lv_sub hl [0, 1, 2, 3] rfl)
                  refine lv_icmp_eq (tgt := 74) hx hb dX12_areSo_60 (by decide) (fun c60 => ?_) (fun c60 => ?_)
                  · have oc60 := congrArg Int32.toInt c60
                    have r60tp : iv x58 0 9 := (iv_both (iv_any x58) (iv_eq c33_y2_l2 c60)).mono (by decide) (by decide)
                    have or60tp := iv_o r60tp
                    exact J74 c33_y2_l2 r39fp r39fq _ (lv_sub hl [0, 1, 2, 4] rfl)
                  · have oc60 := iv_neq c60
                    refine lv_aload_n hx hb dX12_areSo_63 rfl (lv_at hl 0 rfl) ?_
                    refine hp_getr hx hb hts IX12 hown hK hw.1 hp0 rfl 31 (by decide) L64 rfl dX12_areSo_64 ?_
                    refine lv_iload hx hb dX12_areSo_67 (lv_at hl 4 rfl) ?_
                    refine hp_ialdA hx hb hK hw.1 hp0otherOf (vp_iv r39fp (by decide)) dX12_areSo_69 (fun x69 => ?_)
                    refine lv_iload_n hx hb dX12_areSo_70 rfl (lv_at hl 2 rfl) ?_
                    refine lv_icmp_ne (tgt := 78) hx hb dX12_areSo_71 (by decide) (fun c71 => ?_) (fun c71 => ?_)
                    · have oc71 := iv_neq c71
                      exact J78 c33_y2_l2 r39fp r39fq _ (lv_sub hl [0, 1, 2, 4] rfl)
                    · have oc71 := congrArg Int32.toInt c71
                      have r71fp : iv x69 0 9 := (iv_both (iv_any x69) (iv_eq c33_y2_l2 c71)).mono (by decide) (by decide)
                      have or71fp := iv_o r71fp
                      exact J74 c33_y2_l2 r39fp r39fq _ (lv_sub hl [0, 1, 2, 4] rfl)
          exact J33 _ (0 : Int32) (0 : Int32) (Nat.lt_succ_self _) r9fp (show iv 0 0 45 from ⟨by decide, by decide⟩) _ (lv_sub hl [2, 3, 4, 1, 0] rfl)
        · have oc22 := Int32.lt_iff_toInt_lt.mp (iv_nle c22)
          have r22fp : iv x21 (-2147483648) (-1) := (iv_lt_l (iv_nle c22) (iv_any x21) (show iv 0 0 0 from ⟨by decide, by decide⟩)).mono (by decide) (by decide)
          have or22fp := iv_o r22fp
          refine lv_goto (tgt := 103) hx hb dX12_areSo_25 (by decide) ?_
          exact J103 r9fp _ (lv_sub hl [0, 1, 2] rfl)
  exact J2 _ (0 : Int32) (Nat.lt_succ_self _) (show iv 0 0 10 from ⟨by decide, by decide⟩) _ (lv_sub hl [1, 2, 0] rfl)
abbrev WX12_gathersTwos_q (p : Program) (l : Launch) (e : Env) (s : State) (m : MethodId) (below : List Frame) (meth : Method) (c : Code) (D : hp_D) (T : hp_T) (ap0 : Nat) (A : Nat → Nat) (Tp : Nat → Value) (gF : Nat → Int32) (H : Heap) (locs : List Loc) (g : JFrame) : Prop := W p l e (headSpec wsX12_gathersTwos ({ frames := 3, cells := 0, slots := 0, locals := 68 })).room s m ([.ref ap0] : List Value).toArray below meth c H locs 0 0 (MQ below (hq_e D T (fun v st t => v = none ∧ ((∃ y0 : Int32, hp_km D [(12, 32)] st.heap t.heap ∧ hp_on (fun q => q = ap0 ∨ q = A 15 ∨ q = A 16) st.heap t.heap ∧ hp_f D t.heap ap0 12 32 (.int y0) ∧ iv y0 0 45 ∧ (gt D t.heap A gF y0.toInt (gF 2).toInt 0))))) ([.ref ap0] : List Value).toArray s 0 0 (hp_F T)) g
set_option maxHeartbeats 4000000 in
set_option maxRecDepth 100000 in
theorem sX12_gathersTwos_q (l : Launch) (D : hp_D) (T : hp_T) (ap0 : Nat) (A : Nat → Nat) (Gm : moG) (Tp : Nat → Value) (ip0 : isMp T ap0 A Gm Tp) (gF : Nat → Int32) (hAB : A 15 ≠ A 16) : Met l yX12_gathersTwos wsX12_gathersTwos ({ frames := 3, cells := 0, slots := 0, locals := 68 }) (hp_Pc D T [.ref ap0] (fun H => hp_c D H (A 9) 211 gF)) (hq_e D T (fun v st t => v = none ∧ ((∃ y0 : Int32, hp_km D [(12, 32)] st.heap t.heap ∧ hp_on (fun q => q = ap0 ∨ q = A 15 ∨ q = A 16) st.heap t.heap ∧ hp_f D t.heap ap0 12 32 (.int y0) ∧ iv y0 0 45 ∧ (gt D t.heap A gF y0.toInt (gF 2).toInt 0))))) 0 0 (hp_F T) := by
  obtain ⟨gok, tpok, hp0, hp0tape, hp0sign, hp0len, hp0clause, hp0clauses, hp0read, hp0opn, hp0stack, hp0word, hp0said, hp0was, hp0fitting, hp0sums, hp0sort, hp0sumsBy, hp0oneOf, hp0otherOf, hp0kept, hp0images, hp0acts, hp0iUnd, hp0iFor, hp0iX, hp0made⟩ := id ip0
  have hpx := gok.1
  have gsok := gok.2.2.2.2
  have ggd := gok.2.2.2.1
  refine Met.ofW (cc := cX12_gathersTwos) (maxL := 3) (ret := none) (by decide) rfl ?_
  intro p e s m args below meth c s₁ B hml hv
  obtain ⟨rfl, hok, hG, hB⟩ := hv
  have hx := B.exec
  have hb := B.bytes
  have hr := B.returns
  have hts := atoms_spec (ws := wsX12_gathersTwos) B.pre
  have hown : s.vm.findClass RX12 = some m.cls := findClass_of_methodNamed B.named
  have hlocks := B.notSynchronized
  have hK := hG.1
  have hw : hp_w D T s s.heap [] := hp_w.rf hok
  have IX12 : ∀ w ∈ wsX120, w ∈ wsX12_gathersTwos := by decide +kernel
  have L403 := hts (.fieldLink RX12 403 "PalmCensusModel" "twos" "I") (by decide +kernel)
  have L39 := hts (.fieldLink RX12 39 "PalmCensusModel" "said" "[I") (by decide +kernel)
  have L61 := hts (.fieldLink RX12 61 "PalmCensusModel" "oneOf" "[I") (by decide +kernel)
  have L64 := hts (.fieldLink RX12 64 "PalmCensusModel" "otherOf" "[I") (by decide +kernel)
  have hon : hp_on (fun q => q = ap0 ∨ q = A 15 ∨ q = A 16) s.heap s.heap := fun _ _ => rfl
  have k0 : (0 : Int32).toInt = 0 := (by decide)
  have k1 : (1 : Int32).toInt = 1 := (by decide)
  have k2 : (2 : Int32).toInt = 2 := (by decide)
  obtain ⟨f0, hcA⟩ := hp_c.ex hok hp0oneOf (fun j v h9 => h9)
  obtain ⟨g0_, hcB⟩ := hp_c.ex hok hp0otherOf (fun j v h9 => h9)
  have hkm : hp_km D [(12, 32)] s.heap s.heap := fun _ _ _ _ h _ => h
  have hl := lv_entry ([.ref ap0]) (n := 3) (Nat.le_of_ble_eq_true rfl)
  rw [lg_entry_eq]
  generalize (lg_sl ([.ref ap0]) ++ List.replicate (3 - (lg_sl ([.ref ap0])).length) Slot.unset).toArray = ls at hl ⊢
  have hl : lv_has ls 3 [(0, .ref ap0)] := hl
  show WX12_gathersTwos_q p l e s m below meth c D T ap0 A Tp gF s.heap [] (F0 m 0 ls [])
  obtain ⟨x9000op0_32, bx9000op0_32, fx9000op0_32⟩ := hp_opI hw.1 hp0 32 rfl
  have obx9000op0_32 := iv_o bx9000op0_32
  refine lv_aload_n hx hb dX12_gathersTwos_0 rfl (lv_at hl 0 rfl) ?_
  refine lv_iconst (v := 0) hx hb dX12_gathersTwos_1 (by decide) ?_
  refine hp_putE hx hb hts IX12 tyX12 tyX12_ok nmX12 hown hK hw hp0 rfl 32 (by decide) L403 rfl rfl ⟨_, rfl, (show iv 0 0 45 from ⟨by decide, by decide⟩)⟩ rfl rfl dX12_gathersTwos_2 (fun H2 locs2 hw f2n g2 on2 => ?_)
  have hon := hon.trans (hp_on.mono (show hp_on (fun q => q = ap0) _ _ from on2) (fun q h9 => by rcases h9 with rfl; exact Or.inl rfl))
  have hcF := hp_c.kept hB (on2 _ (fun h9 => hp_ne_ao hp0said hp0 h9))
  have hcA := hp_c.kept hcA (on2 _ (fun h9 => hp_ne_ao hp0oneOf hp0 h9))
  have hcB := hp_c.kept hcB (on2 _ (fun h9 => hp_ne_ao hp0otherOf hp0 h9))
  have hkm := hkm.put g2 (by decide)
  refine lv_iconst (v := 0) hx hb dX12_gathersTwos_5 (by decide) ?_
  refine lv_istore_n (lv' := [(1, .int 0), (0, .ref ap0)]) hx hb dX12_gathersTwos_6 rfl hl (by decide) rfl (fun ls hl => ?_)
  have J7 : ∀ (n : Nat) (y7_l1 y7_fp0_32 : Int32), (10 - y7_l1.toInt).toNat < n → iv y7_l1 0 10 → iv y7_fp0_32 0 45 → (y7_fp0_32.toInt ≤ tw_b y7_l1.toInt) → ∀ (H : Heap) (locs : List Loc), hp_w D T s H locs → hp_km D [(12, 32)] s.heap H → hp_on (fun q => q = ap0 ∨ q = A 15 ∨ q = A 16) s.heap H → hp_f D H ap0 12 32 (.int y7_fp0_32) → hp_c D H (A 9) 211 gF → (gt D H A gF (y7_fp0_32.toInt) (y7_l1.toInt) (0)) → ∀ (ls : Array Slot), lv_has ls 3 [(0, .ref ap0), (1, .int y7_l1)] → WX12_gathersTwos_q p l e s m below meth c D T ap0 A Tp gF H locs (F0 m 7 ls []) := by
    intro n
    induction n with
    | zero => intro y7_l1 y7_fp0_32 hmu7 c7_y7_l1 c7_y7_fp0_32 hv7_0 H7 locs7 hw hkm hon f_p0_32 hcF hgt ls hl; exact absurd hmu7 (Nat.not_lt_zero _)
    | succ n ih7 =>
      intro y7_l1 y7_fp0_32 hmu7 c7_y7_l1 c7_y7_fp0_32 hv7_0 H7 locs7 hw hkm hon f_p0_32 hcF hgt ls hl
      have oc7_y7_l1 := iv_o c7_y7_l1
      have oc7_y7_fp0_32 := iv_o c7_y7_fp0_32
      obtain ⟨f7, g7_, hcA, hcB, hgp⟩ := hgt
      refine lv_iload_n hx hb dX12_gathersTwos_7 rfl (lv_at hl 1 rfl) ?_
      refine lv_aload_n hx hb dX12_gathersTwos_8 rfl (lv_at hl 0 rfl) ?_
      refine hp_getr hx hb hts IX12 hown hK hw.1 hp0 rfl 20 (by decide) L39 rfl dX12_gathersTwos_9 ?_
      refine lv_iconst (v := 2) hx hb dX12_gathersTwos_12 (by decide) ?_
      refine hp_ialdE hx hb hK hw.1 hp0said (vp_iv (show iv 2 2 2 from ⟨by decide, by decide⟩) (by decide)) dX12_gathersTwos_13 (fun v13 hr13 E13 => ?_)
      have h13 := gsok _ _ hr13
      obtain ⟨x13, rfl, bx13⟩ := sP_rd2 h13 (show iv 2 2 2 from ⟨by decide, by decide⟩)
      have obx13 := iv_o bx13
      have ux13 : x13 = gF 2 := hp_et.int E13 (hp_c.et hcF (show (2 : Int32).toNatClampNeg < 211 by decide))
      refine lv_icmp_ge (tgt := 85) hx hb dX12_gathersTwos_14 (by decide) (fun c14 => ?_) (fun c14 => ?_)
      · have oc14 := Int32.le_iff_toInt_le.mp c14
        exact W.vret hx hb hr (fun t ht hW => ⟨none, rfl, ⟨rfl, ⟨y7_fp0_32, by rw [ht]; exact hkm, by rw [ht]; exact hon, by rw [ht]; exact f_p0_32, c7_y7_fp0_32, (by rw [ht]; exact ⟨_, _, hcA, hcB, gp_all hgp (by rw [← ux13]; omega)⟩)⟩⟩, by rw [ht]; exact hw.1, hw.2.F ht⟩) hw.2.2.2 dX12_gathersTwos_85
      · have oc14 := Int32.lt_iff_toInt_lt.mp (iv_nle c14)
        have r14fp : iv y7_l1 0 9 := (iv_lt_l (iv_nle c14) c7_y7_l1 bx13).mono (by decide) (by decide)
        have or14fp := iv_o r14fp
        have r14fq : iv x13 1 10 := (iv_lt_r (iv_nle c14) c7_y7_l1 bx13).mono (by decide) (by decide)
        have or14fq := iv_o r14fq
        refine lv_iload_n hx hb dX12_gathersTwos_17 rfl (lv_at hl 1 rfl) ?_
        refine lv_iconst (v := 1) hx hb dX12_gathersTwos_18 (by decide) ?_
        refine lv_iadd hx hb dX12_gathersTwos_19 ?_
        refine lv_topi (fun x19 ex19 => ?_)
        have bx19 : iv x19 1 10 := iv_add r14fp (show iv 1 1 1 from ⟨by decide, by decide⟩) ex19 (by decide)
        have obx19 := iv_o bx19
        have qx19 := iv_add_eq r14fp (show iv 1 1 1 from ⟨by decide, by decide⟩) ex19 (by decide)
        refine lv_istore_n (lv' := [(2, .int x19), (0, .ref ap0), (1, .int y7_l1)]) hx hb dX12_gathersTwos_20 rfl hl (by decide) rfl (fun ls hl => ?_)
        have J21 : ∀ (n : Nat) (y21_l2 y21_fp0_32 : Int32), (10 - y21_l2.toInt).toNat < n → iv y7_l1 0 9 → iv y21_l2 1 10 → iv y21_fp0_32 0 45 → (y21_fp0_32.toInt ≤ tw_b y7_l1.toInt + (y21_l2.toInt - y7_l1.toInt - 1)) → (y7_l1.toInt + 1 ≤ y21_l2.toInt) → ∀ (H : Heap) (locs : List Loc), hp_w D T s H locs → hp_km D [(12, 32)] s.heap H → hp_on (fun q => q = ap0 ∨ q = A 15 ∨ q = A 16) s.heap H → hp_f D H ap0 12 32 (.int y21_fp0_32) → hp_c D H (A 9) 211 gF → (gt D H A gF (y21_fp0_32.toInt) (y7_l1.toInt) (y21_l2.toInt)) → ∀ (ls : Array Slot), lv_has ls 3 [(0, .ref ap0), (1, .int y7_l1), (2, .int y21_l2)] → WX12_gathersTwos_q p l e s m below meth c D T ap0 A Tp gF H locs (F0 m 21 ls []) := by
          intro n
          induction n with
          | zero => intro y21_l2 y21_fp0_32 hmu21 c21_y7_l1 c21_y21_l2 c21_y21_fp0_32 hv21_0 hv21_1 H21 locs21 hw hkm hon f_p0_32 hcF hgt ls hl; exact absurd hmu21 (Nat.not_lt_zero _)
          | succ n ih21 =>
            intro y21_l2 y21_fp0_32 hmu21 c21_y7_l1 c21_y21_l2 c21_y21_fp0_32 hv21_0 hv21_1 H21 locs21 hw hkm hon f_p0_32 hcF hgt ls hl
            have oc21_y7_l1 := iv_o c21_y7_l1
            have oc21_y21_l2 := iv_o c21_y21_l2
            have oc21_y21_fp0_32 := iv_o c21_y21_fp0_32
            obtain ⟨f21, g21_, hcA, hcB, hgp⟩ := hgt
            refine lv_iload_n hx hb dX12_gathersTwos_21 rfl (lv_at hl 2 rfl) ?_
            refine lv_aload_n hx hb dX12_gathersTwos_22 rfl (lv_at hl 0 rfl) ?_
            refine hp_getr hx hb hts IX12 hown hK hw.1 hp0 rfl 20 (by decide) L39 rfl dX12_gathersTwos_23 ?_
            refine lv_iconst (v := 2) hx hb dX12_gathersTwos_26 (by decide) ?_
            refine hp_ialdE hx hb hK hw.1 hp0said (vp_iv (show iv 2 2 2 from ⟨by decide, by decide⟩) (by decide)) dX12_gathersTwos_27 (fun v27 hr27 E27 => ?_)
            have h27 := gsok _ _ hr27
            obtain ⟨x27, rfl, bx27⟩ := sP_rd2 h27 (show iv 2 2 2 from ⟨by decide, by decide⟩)
            have obx27 := iv_o bx27
            have ux27 : x27 = gF 2 := hp_et.int E27 (hp_c.et hcF (show (2 : Int32).toNatClampNeg < 211 by decide))
            refine lv_icmp_ge (tgt := 79) hx hb dX12_gathersTwos_28 (by decide) (fun c28 => ?_) (fun c28 => ?_)
            · have oc28 := Int32.le_iff_toInt_le.mp c28
              obtain ⟨x79, ex79⟩ : ∃ y : Int32, y = y7_l1 + 1 := ⟨_, rfl⟩
              have bx79 : iv x79 1 10 := iv_add c21_y7_l1 (show iv 1 1 1 from ⟨by decide, by decide⟩) ex79 (by decide)
              have qx79 := iv_add_eq c21_y7_l1 (show iv 1 1 1 from ⟨by decide, by decide⟩) ex79 (by decide)
              have obx79 := iv_o bx79
              refine lv_iinc (v := x79) (lv' := [(1, .int x79), (0, .ref ap0), (2, .int y21_l2)]) hx hb dX12_gathersTwos_79 hl (k := 1) rfl (by rw [ex79]; rfl) (by decide) rfl (fun ls hl => ?_)
              refine lv_goto (tgt := 7) hx hb dX12_gathersTwos_82 (by decide) ?_
              exact ih7 x79 y21_fp0_32 (mu_up 1 hmu7 (qx79) (by decide) (show iv x79 0 10 from (bx79.mono (by decide) (by decide))).2) (bx79.mono (by decide) (by decide)) c21_y21_fp0_32 (show y21_fp0_32.toInt ≤ tw_b x79.toInt from by have := (c21_y21_fp0_32).1; have := (c21_y21_fp0_32).2; have := (bx79).1; have := (bx79).2; have := (bx27).1; have := (bx27).2; have := (c21_y21_l2).1; have := (c21_y21_l2).2; have := (c21_y7_l1).1; have := (c21_y7_l1).2; have := (Int32.le_iff_toInt_le.mp c28); have : (1 : Int32).toInt = 1 := (by decide); have t9 := tw_step y7_l1.toInt (by omega) (by omega); rw [show x79.toInt = y7_l1.toInt + 1 by omega]; omega) H21 locs21 hw hkm hon f_p0_32 hcF (⟨_, _, hcA, hcB, gp_next hgp (by rw [← ux27]; omega) (by omega)⟩) _ (lv_sub hl [1, 0] rfl)
            · have oc28 := Int32.lt_iff_toInt_lt.mp (iv_nle c28)
              have r28fp : iv y21_l2 1 9 := (iv_lt_l (iv_nle c28) c21_y21_l2 bx27).mono (by decide) (by decide)
              have or28fp := iv_o r28fp
              have r28fq : iv x27 2 10 := (iv_lt_r (iv_nle c28) c21_y21_l2 bx27).mono (by decide) (by decide)
              have or28fq := iv_o r28fq
              refine lv_aload_n hx hb dX12_gathersTwos_31 rfl (lv_at hl 0 rfl) ?_
              refine lv_iload_n hx hb dX12_gathersTwos_32 rfl (lv_at hl 1 rfl) ?_
              refine lv_iload_n hx hb dX12_gathersTwos_33 rfl (lv_at hl 2 rfl) ?_
              refine hp_callpi (va_runV (As := [.int y7_l1, .int y21_l2]) (rest := []) ⟨hx, hb, hml, hown, hts⟩ (sX12_meet_q l D T ap0 y7_l1 y21_l2 A Gm Tp ip0 gF c21_y7_l1 (r28fp.mono (by decide) (by decide))) (cwV 2 hts gX12_gathersTwos_X12_meet rfl rfl rfl (by decide +kernel) ⟨Nat.le_of_ble_eq_true rfl, Nat.le_of_ble_eq_true rfl⟩) (hp_preV hG hw hp0 rfl hcF) rfl rfl hl.1 rfl (lv_room (Nat.le_of_ble_eq_true rfl)) dX12_gathersTwos_34 ⟨Nat.zero_le _, Nat.zero_le _⟩) (fun x34 bx34 => ?_)
              obtain ⟨cx34, R34_0, R34_1⟩ := bx34
              have ocx34 := iv_o cx34
              have J73 : ∀ (y73_fp0_32 : Int32), iv y7_l1 0 9 → iv y21_l2 1 9 → iv y73_fp0_32 0 45 → (y73_fp0_32.toInt ≤ tw_b y7_l1.toInt + (y21_l2.toInt - y7_l1.toInt)) → (y7_l1.toInt + 1 ≤ y21_l2.toInt) → ∀ (H : Heap) (locs : List Loc), hp_w D T s H locs → hp_km D [(12, 32)] s.heap H → hp_on (fun q => q = ap0 ∨ q = A 15 ∨ q = A 16) s.heap H → hp_f D H ap0 12 32 (.int y73_fp0_32) → hp_c D H (A 9) 211 gF → (gt D H A gF (y73_fp0_32.toInt) (y7_l1.toInt) (y21_l2.toInt + 1)) → ∀ (ls : Array Slot), lv_has ls 3 [(0, .ref ap0), (1, .int y7_l1), (2, .int y21_l2)] → WX12_gathersTwos_q p l e s m below meth c D T ap0 A Tp gF H locs (F0 m 73 ls []) := by
                intro y73_fp0_32 c73_y7_l1 c73_y21_l2 c73_y73_fp0_32 hv73_0 hv73_1 H73 locs73 hw hkm hon f_p0_32 hcF hgt ls hl
                have oc73_y7_l1 := iv_o c73_y7_l1
                have oc73_y21_l2 := iv_o c73_y21_l2
                have oc73_y73_fp0_32 := iv_o c73_y73_fp0_32
                obtain ⟨f73, g73_, hcA, hcB, hgp⟩ := hgt
                obtain ⟨x73, ex73⟩ : ∃ y : Int32, y = y21_l2 + 1 := ⟨_, rfl⟩
                have bx73 : iv x73 2 10 := iv_add c73_y21_l2 (show iv 1 1 1 from ⟨by decide, by decide⟩) ex73 (by decide)
                have qx73 := iv_add_eq c73_y21_l2 (show iv 1 1 1 from ⟨by decide, by decide⟩) ex73 (by decide)
                have obx73 := iv_o bx73
                refine lv_iinc (v := x73) (lv' := [(2, .int x73), (0, .ref ap0), (1, .int y7_l1)]) hx hb dX12_gathersTwos_73 hl (k := 2) rfl (by rw [ex73]; rfl) (by decide) rfl (fun ls hl => ?_)
                refine lv_goto (tgt := 21) hx hb dX12_gathersTwos_76 (by decide) ?_
                exact ih21 x73 y73_fp0_32 (mu_up 1 hmu21 (qx73) (by decide) (show iv x73 1 10 from (bx73.mono (by decide) (by decide))).2) c73_y7_l1 (bx73.mono (by decide) (by decide)) c73_y73_fp0_32 (show y73_fp0_32.toInt ≤ tw_b y7_l1.toInt + (x73.toInt - y7_l1.toInt - 1) from by have := (c73_y73_fp0_32).1; have := (c73_y73_fp0_32).2; have := (c73_y7_l1).1; have := (c73_y7_l1).2; have := (bx73).1; have := (bx73).2; have := (c73_y21_l2).1; have := (c73_y21_l2).2; have : (1 : Int32).toInt = 1 := (by decide); omega) (show y7_l1.toInt + 1 ≤ x73.toInt from by have := (c73_y7_l1).1; have := (c73_y7_l1).2; have := (bx73).1; have := (bx73).2; have := (c73_y21_l2).1; have := (c73_y21_l2).2; have : (1 : Int32).toInt = 1 := (by decide); omega) H73 locs73 hw hkm hon f_p0_32 hcF (⟨_, _, hcA, hcB, (show gp gF f73 g73_ _ _ _ from by rw [show x73.toInt = y21_l2.toInt + 1 by omega]; exact hgp)⟩) _ (lv_sub hl [1, 2, 0] rfl)
              refine lv_if_ne (tgt := 43) hx hb dX12_gathersTwos_37 (by decide) (fun c37 => ?_) (fun c37 => ?_)
              · have oc37 := iv_neq c37
                have r37tp : iv x34 1 1 := (iv_ne_lo c37 cx34 rfl).mono (by decide) (by decide)
                have or37tp := iv_o r37tp
                have w43 : iv y21_fp0_32 0 44 := ⟨c21_y21_fp0_32.1, by have := (c21_y21_fp0_32).1; have := (c21_y21_fp0_32).2; have := (c21_y7_l1).1; have := (c21_y7_l1).2; have := (r28fp).1; have := (r28fp).2; have := (r28fq).1; have := (r28fq).2; have := (Int32.lt_iff_toInt_lt.mp (iv_nle c28)); have : (0 : Int32).toInt = 0 := (by decide); have t9 := tw_step y7_l1.toInt (by omega) (by omega); have t8 := tw_top (y7_l1.toInt + 1) (by omega) (by omega); omega⟩
                have ow43 := iv_o w43
                refine lv_aload_n hx hb dX12_gathersTwos_43 rfl (lv_at hl 0 rfl) ?_
                refine hp_getr hx hb hts IX12 hown hK hw.1 hp0 rfl 30 (by decide) L61 rfl dX12_gathersTwos_44 ?_
                refine lv_aload_n hx hb dX12_gathersTwos_47 rfl (lv_at hl 0 rfl) ?_
                refine hp_getf hx hb hts IX12 hown hK f_p0_32 rfl (by decide) L403 dX12_gathersTwos_48 ?_
                refine lv_iload_n hx hb dX12_gathersTwos_51 rfl (lv_at hl 1 rfl) ?_
                refine hp_iastC hx hb hK hw hp0oneOf (vp_iv w43 (by decide)) ⟨_, rfl⟩ hcA dX12_gathersTwos_52 (fun H52 locs52 hw g52 o52 hcA => ?_)
                have hon := hon.trans (hp_on.mono (show hp_on (fun q => q = A 15) _ _ from o52) (fun q h9 => by subst h9; exact Or.inr (Or.inl rfl)))
                have hcB := hp_c.kept hcB (o52 _ hAB.symm)
                have hcF := hp_c.kept hcF (o52 _ (hp_ne_len hp0said hp0oneOf (by decide)))
                have hkm := hkm.ar g52
                have f_p0_32 := g52 _ _ _ _ f_p0_32
                refine lv_aload_n hx hb dX12_gathersTwos_53 rfl (lv_at hl 0 rfl) ?_
                refine hp_getr hx hb hts IX12 hown hK hw.1 hp0 rfl 31 (by decide) L64 rfl dX12_gathersTwos_54 ?_
                refine lv_aload_n hx hb dX12_gathersTwos_57 rfl (lv_at hl 0 rfl) ?_
                refine hp_getf hx hb hts IX12 hown hK f_p0_32 rfl (by decide) L403 dX12_gathersTwos_58 ?_
                refine lv_iload_n hx hb dX12_gathersTwos_61 rfl (lv_at hl 2 rfl) ?_
                refine hp_iastC hx hb hK hw hp0otherOf (vp_iv w43 (by decide)) ⟨_, rfl⟩ hcB dX12_gathersTwos_62 (fun H62 locs62 hw g62 o62 hcB => ?_)
                have hon := hon.trans (hp_on.mono (show hp_on (fun q => q = A 16) _ _ from o62) (fun q h9 => by subst h9; exact Or.inr (Or.inr (rfl))))
                have hcA := hp_c.kept hcA (o62 _ hAB)
                have hcF := hp_c.kept hcF (o62 _ (hp_ne_len hp0said hp0otherOf (by decide)))
                have hkm := hkm.ar g62
                have f_p0_32 := g62 _ _ _ _ f_p0_32
                refine lv_aload_n hx hb dX12_gathersTwos_63 rfl (lv_at hl 0 rfl) ?_
                refine lv_dup hx hb dX12_gathersTwos_64 rfl ?_
                refine hp_getf hx hb hts IX12 hown hK f_p0_32 rfl (by decide) L403 dX12_gathersTwos_65 ?_
                refine lv_iconst (v := 1) hx hb dX12_gathersTwos_68 (by decide) ?_
                refine lv_iadd hx hb dX12_gathersTwos_69 ?_
                refine lv_topi (fun x69 ex69 => ?_)
                have bx69 : iv x69 1 45 := iv_add w43 (show iv 1 1 1 from ⟨by decide, by decide⟩) ex69 (by decide)
                have obx69 := iv_o bx69
                have qx69 := iv_add_eq w43 (show iv 1 1 1 from ⟨by decide, by decide⟩) ex69 (by decide)
                refine hp_putE hx hb hts IX12 tyX12 tyX12_ok nmX12 hown hK hw hp0 rfl 32 (by decide) L403 rfl rfl ⟨_, rfl, (bx69.mono (by decide) (by decide))⟩ rfl rfl dX12_gathersTwos_70 (fun H70 locs70 hw f70n g70 on70 => ?_)
                have hon := hon.trans (hp_on.mono (show hp_on (fun q => q = ap0) _ _ from on70) (fun q h9 => by rcases h9 with rfl; exact Or.inl rfl))
                have hcF := hp_c.kept hcF (on70 _ (fun h9 => hp_ne_ao hp0said hp0 h9))
                have hcA := hp_c.kept hcA (on70 _ (fun h9 => hp_ne_ao hp0oneOf hp0 h9))
                have hcB := hp_c.kept hcB (on70 _ (fun h9 => hp_ne_ao hp0otherOf hp0 h9))
                have hkm := hkm.put g70 (by decide)
                exact J73 x69 c21_y7_l1 r28fp (bx69.mono (by decide) (by decide)) (show x69.toInt ≤ tw_b y7_l1.toInt + (y21_l2.toInt - y7_l1.toInt) from by have := (bx69).1; have := (bx69).2; have := (c21_y7_l1).1; have := (c21_y7_l1).2; have := (r28fp).1; have := (r28fp).2; have := (r28fq).1; have := (r28fq).2; have := (w43).1; have := (w43).2; have := (Int32.lt_iff_toInt_lt.mp (iv_nle c28)); have : (0 : Int32).toInt = 0 := (by decide); have : (1 : Int32).toInt = 1 := (by decide); omega) (show y7_l1.toInt + 1 ≤ y21_l2.toInt from by have := (c21_y7_l1).1; have := (c21_y7_l1).2; have := (r28fp).1; have := (r28fp).2; have := (r28fq).1; have := (r28fq).2; have := (Int32.lt_iff_toInt_lt.mp (iv_nle c28)); have : (0 : Int32).toInt = 0 := (by decide); omega) H70 locs70 hw hkm hon f70n hcF (⟨_, _, hcA, hcB, gp_yes hgp (show y21_fp0_32.toInt = y21_fp0_32.toInt from rfl) (by omega) (by omega) rfl rfl rfl⟩) _ (lv_sub hl [0, 1, 2] rfl)
              · have oc37 := congrArg Int32.toInt c37
                have r37fp : iv x34 0 0 := (iv_both cx34 (iv_eq (show iv 0 0 0 from ⟨by decide, by decide⟩) c37)).mono (by decide) (by decide)
                have or37fp := iv_o r37fp
                refine lv_goto (tgt := 73) hx hb dX12_gathersTwos_40 (by decide) ?_
                exact J73 y21_fp0_32 c21_y7_l1 r28fp c21_y21_fp0_32 (show y21_fp0_32.toInt ≤ tw_b y7_l1.toInt + (y21_l2.toInt - y7_l1.toInt) from by have := (c21_y21_fp0_32).1; have := (c21_y21_fp0_32).2; have := (c21_y7_l1).1; have := (c21_y7_l1).2; have := (r28fp).1; have := (r28fp).2; have := (r28fq).1; have := (r28fq).2; have := (Int32.lt_iff_toInt_lt.mp (iv_nle c28)); omega) (show y7_l1.toInt + 1 ≤ y21_l2.toInt from by have := (c21_y7_l1).1; have := (c21_y7_l1).2; have := (r28fp).1; have := (r28fp).2; have := (r28fq).1; have := (r28fq).2; have := (Int32.lt_iff_toInt_lt.mp (iv_nle c28)); omega) H21 locs21 hw hkm hon f_p0_32 hcF (⟨_, _, hcA, hcB, gp_no hgp (by omega) (by omega) rfl (R34_1 (by omega))⟩) _ (lv_sub hl [0, 1, 2] rfl)
        exact J21 _ x19 y7_fp0_32 (Nat.lt_succ_self _) r14fp bx19 c7_y7_fp0_32 (show y7_fp0_32.toInt ≤ tw_b y7_l1.toInt + (x19.toInt - y7_l1.toInt - 1) from by have := (c7_y7_fp0_32).1; have := (c7_y7_fp0_32).2; have := (r14fp).1; have := (r14fp).2; have := (bx19).1; have := (bx19).2; have := (r14fq).1; have := (r14fq).2; have := (Int32.lt_iff_toInt_lt.mp (iv_nle c14)); have : (1 : Int32).toInt = 1 := (by decide); omega) (show y7_l1.toInt + 1 ≤ x19.toInt from by have := (r14fp).1; have := (r14fp).2; have := (bx19).1; have := (bx19).2; have := (r14fq).1; have := (r14fq).2; have := (Int32.lt_iff_toInt_lt.mp (iv_nle c14)); have : (1 : Int32).toInt = 1 := (by decide); omega) H7 locs7 hw hkm hon f_p0_32 hcF (⟨_, _, hcA, hcB, gp_row hgp (by omega)⟩) _ (lv_sub hl [1, 2, 0] rfl)
  exact J7 _ (0 : Int32) (0 : Int32) (Nat.lt_succ_self _) (show iv 0 0 10 from ⟨by decide, by decide⟩) (show iv 0 0 45 from ⟨by decide, by decide⟩) (show 0 ≤ tw_b 0 from (by decide)) H2 locs2 hw hkm hon f2n hcF (⟨_, _, hcA, hcB, gp_0⟩) _ (lv_sub hl [1, 0] rfl)
abbrev WX12_goesThrough_q (p : Program) (l : Launch) (e : Env) (s : State) (m : MethodId) (below : List Frame) (meth : Method) (c : Code) (D : hp_D) (T : hp_T) (ap0 : Nat) (A : Nat → Nat) (Tp : Nat → Value) (gF : Nat → Int32) (H : Heap) (locs : List Loc) (g : JFrame) : Prop := W p l e (headSpec wsX12_goesThrough ({ frames := 4, cells := 0, slots := 0, locals := 90 })).room s m ([.ref ap0] : List Value).toArray below meth c H locs 0 0 (MQ below (hq_e D T (fun v st t => ∃ r : Int32, v = some (.int r) ∧ ((∃ y0 : Int32, hp_km D [(12, 32), (12, 33), (12, 34), (12, 35)] st.heap t.heap ∧ hp_on (fun q => q = ap0 ∨ q = A 15 ∨ q = A 16) st.heap t.heap ∧ hp_f D t.heap ap0 12 32 (.int y0) ∧ iv r 0 1 ∧ iv y0 0 45 ∧ (¬ r.toInt = 0 → gt D t.heap A gF y0.toInt (gF 2).toInt 0))))) ([.ref ap0] : List Value).toArray s 0 0 (hp_F T)) g
set_option maxHeartbeats 4000000 in
set_option maxRecDepth 100000 in
theorem sX12_goesThrough_q (l : Launch) (D : hp_D) (T : hp_T) (ap0 : Nat) (A : Nat → Nat) (Gm : moG) (Tp : Nat → Value) (ip0 : isMp T ap0 A Gm Tp) (gF : Nat → Int32) (hAB : A 15 ≠ A 16) : Met l yX12_goesThrough wsX12_goesThrough ({ frames := 4, cells := 0, slots := 0, locals := 90 }) (hp_Pc D T [.ref ap0] (fun H => hp_c D H (A 9) 211 gF)) (hq_e D T (fun v st t => ∃ r : Int32, v = some (.int r) ∧ ((∃ y0 : Int32, hp_km D [(12, 32), (12, 33), (12, 34), (12, 35)] st.heap t.heap ∧ hp_on (fun q => q = ap0 ∨ q = A 15 ∨ q = A 16) st.heap t.heap ∧ hp_f D t.heap ap0 12 32 (.int y0) ∧ iv r 0 1 ∧ iv y0 0 45 ∧ (¬ r.toInt = 0 → gt D t.heap A gF y0.toInt (gF 2).toInt 0))))) 0 0 (hp_F T) := by
  obtain ⟨gok, tpok, hp0, hp0tape, hp0sign, hp0len, hp0clause, hp0clauses, hp0read, hp0opn, hp0stack, hp0word, hp0said, hp0was, hp0fitting, hp0sums, hp0sort, hp0sumsBy, hp0oneOf, hp0otherOf, hp0kept, hp0images, hp0acts, hp0iUnd, hp0iFor, hp0iX, hp0made⟩ := id ip0
  have hpx := gok.1
  have gsok := gok.2.2.2.2
  have ggd := gok.2.2.2.1
  refine Met.ofW (cc := cX12_goesThrough) (maxL := 2) (ret := (some .boolean)) (by decide) rfl ?_
  intro p e s m args below meth c s₁ B hml hv
  obtain ⟨rfl, hok, hG, hB⟩ := hv
  have hx := B.exec
  have hb := B.bytes
  have hr := B.returns
  have hts := atoms_spec (ws := wsX12_goesThrough) B.pre
  have hown : s.vm.findClass RX12 = some m.cls := findClass_of_methodNamed B.named
  have hlocks := B.notSynchronized
  have hK := hG.1
  have hw : hp_w D T s s.heap [] := hp_w.rf hok
  have IX12 : ∀ w ∈ wsX120, w ∈ wsX12_goesThrough := by decide +kernel
  have L403 := hts (.fieldLink RX12 403 "PalmCensusModel" "twos" "I") (by decide +kernel)
  have L409 := hts (.fieldLink RX12 409 "PalmCensusModel" "sets" "I") (by decide +kernel)
  have L412 := hts (.fieldLink RX12 412 "PalmCensusModel" "inAll" "I") (by decide +kernel)
  have L415 := hts (.fieldLink RX12 415 "PalmCensusModel" "inSome" "I") (by decide +kernel)
  have hon : hp_on (fun q => q = ap0 ∨ q = A 15 ∨ q = A 16) s.heap s.heap := fun _ _ => rfl
  have k0 : (0 : Int32).toInt = 0 := (by decide)
  have k1 : (1 : Int32).toInt = 1 := (by decide)
  have k16 : (16 : Int32).toInt = 16 := (by decide)
  have hkm : hp_km D [(12, 32), (12, 33), (12, 34), (12, 35)] s.heap s.heap := fun _ _ _ _ h _ => h
  have hl := lv_entry ([.ref ap0]) (n := 2) (Nat.le_of_ble_eq_true rfl)
  rw [lg_entry_eq]
  generalize (lg_sl ([.ref ap0]) ++ List.replicate (2 - (lg_sl ([.ref ap0])).length) Slot.unset).toArray = ls at hl ⊢
  have hl : lv_has ls 2 [(0, .ref ap0)] := hl
  show WX12_goesThrough_q p l e s m below meth c D T ap0 A Tp gF s.heap [] (F0 m 0 ls [])
  refine lv_aload_n hx hb dX12_goesThrough_0 rfl (lv_at hl 0 rfl) ?_
  refine hp_callev (va_runV (As := []) (rest := []) ⟨hx, hb, hml, hown, hts⟩ (sX12_gathersTwos_q l D T ap0 A Gm Tp ip0 gF hAB) (cwV 0 hts gX12_goesThrough_X12_gathersTwos rfl rfl rfl (by decide +kernel) ⟨Nat.le_of_ble_eq_true rfl, Nat.le_of_ble_eq_true rfl⟩) (hp_preV hG hw hp0 rfl hB) rfl rfl hl.1 rfl (lv_room (Nat.le_of_ble_eq_true rfl)) dX12_goesThrough_1 ⟨Nat.zero_le _, Nat.zero_le _⟩) hw (fun st1 t1 H1 locs1 eh1 eg1 bx1 hw => ?_)
  obtain ⟨x1p0, g1, on1, fx1p0, bx1p0, R1_0⟩ := bx1
  rw [eh1, eg1] at g1 on1
  have hcF := hp_c.kept hB (on1 _ (fun h9 => by rcases h9 with h9 | h9 | h9; (exact hp_ne_ao hp0said hp0 h9); (exact hp_ne_len hp0said hp0oneOf (by decide) h9); (exact hp_ne_len hp0said hp0otherOf (by decide) h9)))
  rw [eg1] at fx1p0
  have hkm := hkm.call g1 (by decide)
  have hon := hon.trans on1
  have obx1p0 := iv_o bx1p0
  have hgt := R1_0
  rw [eg1] at hgt
  obtain ⟨f1, g1_, hcA, hcB, hgp⟩ := hgt
  refine lv_aload_n hx hb dX12_goesThrough_4 rfl (lv_at hl 0 rfl) ?_
  refine hp_getf hx hb hts IX12 hown hK fx1p0 rfl (by decide) L403 dX12_goesThrough_5 ?_
  refine lv_bipush (v := 16) hx hb dX12_goesThrough_8 (by decide) ?_
  refine lv_icmp_le (tgt := 15) hx hb dX12_goesThrough_10 (by decide) (fun c10 => ?_) (fun c10 => ?_)
  · have oc10 := Int32.le_iff_toInt_le.mp c10
    have r10tp : iv x1p0 0 16 := (iv_le_l c10 bx1p0 (show iv 16 16 16 from ⟨by decide, by decide⟩)).mono (by decide) (by decide)
    have or10tp := iv_o r10tp
    refine lv_aload_n hx hb dX12_goesThrough_15 rfl (lv_at hl 0 rfl) ?_
    refine lv_iconst (v := 0) hx hb dX12_goesThrough_16 (by decide) ?_
    refine hp_putE hx hb hts IX12 tyX12 tyX12_ok nmX12 hown hK hw hp0 rfl 35 (by decide) L409 rfl rfl ⟨_, rfl⟩ rfl rfl dX12_goesThrough_17 (fun H17 locs17 hw f17n g17 on17 => ?_)
    have hon := hon.trans (hp_on.mono (show hp_on (fun q => q = ap0) _ _ from on17) (fun q h9 => by rcases h9 with rfl; exact Or.inl rfl))
    have hcF := hp_c.kept hcF (on17 _ (fun h9 => hp_ne_ao hp0said hp0 h9))
    have hcA := hp_c.kept hcA (on17 _ (fun h9 => hp_ne_ao hp0oneOf hp0 h9))
    have hcB := hp_c.kept hcB (on17 _ (fun h9 => hp_ne_ao hp0otherOf hp0 h9))
    have hkm := hkm.put g17 (by decide)
    have f_p0_32 := g17 _ _ _ _ fx1p0 (Or.inr ⟨rfl, by decide⟩)
    refine lv_aload_n hx hb dX12_goesThrough_20 rfl (lv_at hl 0 rfl) ?_
    refine lv_iconst (v := 1) hx hb dX12_goesThrough_21 (by decide) ?_
    refine lv_aload_n hx hb dX12_goesThrough_22 rfl (lv_at hl 0 rfl) ?_
    refine hp_getf hx hb hts IX12 hown hK f_p0_32 rfl (by decide) L403 dX12_goesThrough_23 ?_
    refine lv_ishl hx hb dX12_goesThrough_26 ?_
    refine lv_topi (fun x26 ex26 => ?_)
    have bx26 : iv x26 1 65536 := iv_shl 16 (show iv 1 1 1 from ⟨by decide, by decide⟩) r10tp ex26 (by decide)
    have obx26 := iv_o bx26
    refine lv_iconst (v := 1) hx hb dX12_goesThrough_27 (by decide) ?_
    refine lv_isub hx hb dX12_goesThrough_28 ?_
    refine lv_topi (fun x28 ex28 => ?_)
    have bx28 : iv x28 0 65535 := iv_sub bx26 (show iv 1 1 1 from ⟨by decide, by decide⟩) ex28 (by decide)
    have obx28 := iv_o bx28
    have qx28 := iv_sub_eq bx26 (show iv 1 1 1 from ⟨by decide, by decide⟩) ex28 (by decide)
    refine hp_putE hx hb hts IX12 tyX12 tyX12_ok nmX12 hown hK hw hp0 rfl 33 (by decide) L412 rfl rfl ⟨_, rfl⟩ rfl rfl dX12_goesThrough_29 (fun H29 locs29 hw f29n g29 on29 => ?_)
    have hon := hon.trans (hp_on.mono (show hp_on (fun q => q = ap0) _ _ from on29) (fun q h9 => by rcases h9 with rfl; exact Or.inl rfl))
    have hcF := hp_c.kept hcF (on29 _ (fun h9 => hp_ne_ao hp0said hp0 h9))
    have hcA := hp_c.kept hcA (on29 _ (fun h9 => hp_ne_ao hp0oneOf hp0 h9))
    have hcB := hp_c.kept hcB (on29 _ (fun h9 => hp_ne_ao hp0otherOf hp0 h9))
    have hkm := hkm.put g29 (by decide)
    have f_p0_32 := g29 _ _ _ _ f_p0_32 (Or.inr ⟨rfl, by decide⟩)
    refine lv_aload_n hx hb dX12_goesThrough_32 rfl (lv_at hl 0 rfl) ?_
    refine lv_iconst (v := 0) hx hb dX12_goesThrough_33 (by decide) ?_
    refine hp_putE hx hb hts IX12 tyX12 tyX12_ok nmX12 hown hK hw hp0 rfl 34 (by decide) L415 rfl rfl ⟨_, rfl⟩ rfl rfl dX12_goesThrough_34 (fun H34 locs34 hw f34n g34 on34 => ?_)
    have hon := hon.trans (hp_on.mono (show hp_on (fun q => q = ap0) _ _ from on34) (fun q h9 => by rcases h9 with rfl; exact Or.inl rfl))
    have hcF := hp_c.kept hcF (on34 _ (fun h9 => hp_ne_ao hp0said hp0 h9))
    have hcA := hp_c.kept hcA (on34 _ (fun h9 => hp_ne_ao hp0oneOf hp0 h9))
    have hcB := hp_c.kept hcB (on34 _ (fun h9 => hp_ne_ao hp0otherOf hp0 h9))
    have hkm := hkm.put g34 (by decide)
    have f_p0_32 := g34 _ _ _ _ f_p0_32 (Or.inr ⟨rfl, by decide⟩)
    refine lv_iconst (v := 0) hx hb dX12_goesThrough_37 (by decide) ?_
    refine lv_istore_n (lv' := [(1, .int 0), (0, .ref ap0)]) hx hb dX12_goesThrough_38 rfl hl (by decide) rfl (fun ls hl => ?_)
    have J39 : ∀ (n : Nat) (y39_l1 : Int32), (99999 - y39_l1.toInt).toNat < n → iv y39_l1 0 99999 → iv x1p0 0 16 → ∀ (H : Heap) (locs : List Loc), hp_w D T s H locs → hp_km D [(12, 32), (12, 33), (12, 34), (12, 35)] s.heap H → hp_on (fun q => q = ap0 ∨ q = A 15 ∨ q = A 16) s.heap H → hp_f D H ap0 12 32 (.int x1p0) → hp_c D H (A 9) 211 gF → hp_c D H (A 15) 45 f1 → hp_c D H (A 16) 45 g1_ → ∀ (ls : Array Slot), lv_has ls 2 [(0, .ref ap0), (1, .int y39_l1)] → WX12_goesThrough_q p l e s m below meth c D T ap0 A Tp gF H locs (F0 m 39 ls []) := by
      intro n
      induction n with
      | zero => intro y39_l1 hmu39 c39_y39_l1 c39_x1p0 H39 locs39 hw hkm hon f_p0_32 hcF hcA hcB ls hl; exact absurd hmu39 (Nat.not_lt_zero _)
      | succ n ih39 =>
        intro y39_l1 hmu39 c39_y39_l1 c39_x1p0 H39 locs39 hw hkm hon f_p0_32 hcF hcA hcB ls hl
        have oc39_y39_l1 := iv_o c39_y39_l1
        have oc39_x1p0 := iv_o c39_x1p0
        refine lv_iload_n hx hb dX12_goesThrough_39 rfl (lv_at hl 1 rfl) ?_
        refine lv_iconst (v := 1) hx hb dX12_goesThrough_40 (by decide) ?_
        refine lv_aload_n hx hb dX12_goesThrough_41 rfl (lv_at hl 0 rfl) ?_
        refine hp_getf hx hb hts IX12 hown hK f_p0_32 rfl (by decide) L403 dX12_goesThrough_42 ?_
        refine lv_ishl hx hb dX12_goesThrough_45 ?_
        refine lv_topi (fun x45 ex45 => ?_)
        have bx45 : iv x45 1 65536 := iv_shl 16 (show iv 1 1 1 from ⟨by decide, by decide⟩) c39_x1p0 ex45 (by decide)
        have obx45 := iv_o bx45
        refine lv_icmp_ge (tgt := 96) hx hb dX12_goesThrough_46 (by decide) (fun c46 => ?_) (fun c46 => ?_)
        · have oc46 := Int32.le_iff_toInt_le.mp c46
          have r46tq : iv y39_l1 1 99999 := (iv_le_r c46 bx45 c39_y39_l1).mono (by decide) (by decide)
          have or46tq := iv_o r46tq
          refine lv_iconst (v := 1) hx hb dX12_goesThrough_96 (by decide) ?_
          exact W.zret (v := 1) hx hb hr (iv_nz (show iv 1 0 1 from ⟨by decide, by decide⟩)) (fun t ht hW => ⟨some (.int 1), rfl, ⟨(1 : Int32), rfl, ⟨x1p0, by rw [ht]; exact hkm, by rw [ht]; exact hon, by rw [ht]; exact f_p0_32, (show iv 1 0 1 from ⟨by decide, by decide⟩), (c39_x1p0.mono (by decide) (by decide)), (fun _ => by rw [ht]; exact ⟨_, _, hcA, hcB, hgp⟩)⟩⟩, by rw [ht]; exact hw.1, hw.2.F ht⟩) hw.2.2.2 dX12_goesThrough_97
        · have oc46 := Int32.lt_iff_toInt_lt.mp (iv_nle c46)
          have r46fp : iv y39_l1 0 65535 := (iv_lt_l (iv_nle c46) c39_y39_l1 bx45).mono (by decide) (by decide)
          have or46fp := iv_o r46fp
          refine lv_aload_n hx hb dX12_goesThrough_49 rfl (lv_at hl 0 rfl) ?_
          refine lv_iload_n hx hb dX12_goesThrough_50 rfl (lv_at hl 1 rfl) ?_
          refine hp_callpi (va_runV (As := [.int y39_l1]) (rest := []) ⟨hx, hb, hml, hown, hts⟩ (sX12_areSo_q l D T ap0 y39_l1 A Gm Tp ip0) (cwV 1 hts gX12_goesThrough_X12_areSo rfl rfl rfl (by decide +kernel) ⟨Nat.le_of_ble_eq_true rfl, Nat.le_of_ble_eq_true rfl⟩) (hp_preV hG hw hp0 rfl trivial) rfl rfl hl.1 rfl (lv_room (Nat.le_of_ble_eq_true rfl)) dX12_goesThrough_51 ⟨Nat.zero_le _, Nat.zero_le _⟩) (fun x51 bx51 => ?_)
          have cx51 := bx51
          have ocx51 := iv_o cx51
          have J90 : iv y39_l1 0 65535 → iv x1p0 0 16 → ∀ (H : Heap) (locs : List Loc), hp_w D T s H locs → hp_km D [(12, 32), (12, 33), (12, 34), (12, 35)] s.heap H → hp_on (fun q => q = ap0 ∨ q = A 15 ∨ q = A 16) s.heap H → hp_f D H ap0 12 32 (.int x1p0) → hp_c D H (A 9) 211 gF → hp_c D H (A 15) 45 f1 → hp_c D H (A 16) 45 g1_ → ∀ (ls : Array Slot), lv_has ls 2 [(0, .ref ap0), (1, .int y39_l1)] → WX12_goesThrough_q p l e s m below meth c D T ap0 A Tp gF H locs (F0 m 90 ls []) := by
            intro c90_y39_l1 c90_x1p0 H90 locs90 hw hkm hon f_p0_32 hcF hcA hcB ls hl
            have oc90_y39_l1 := iv_o c90_y39_l1
            have oc90_x1p0 := iv_o c90_x1p0
            obtain ⟨x90, ex90⟩ : ∃ y : Int32, y = y39_l1 + 1 := ⟨_, rfl⟩
            have bx90 : iv x90 1 65536 := iv_add c90_y39_l1 (show iv 1 1 1 from ⟨by decide, by decide⟩) ex90 (by decide)
            have qx90 := iv_add_eq c90_y39_l1 (show iv 1 1 1 from ⟨by decide, by decide⟩) ex90 (by decide)
            have obx90 := iv_o bx90
            refine lv_iinc (v := x90) (lv' := [(1, .int x90), (0, .ref ap0)]) hx hb dX12_goesThrough_90 hl (k := 1) rfl (by rw [ex90]; rfl) (by decide) rfl (fun ls hl => ?_)
            refine lv_goto (tgt := 39) hx hb dX12_goesThrough_93 (by decide) ?_
            exact ih39 x90 (mu_up 1 hmu39 (qx90) (by decide) (show iv x90 0 99999 from (bx90.mono (by decide) (by decide))).2) (bx90.mono (by decide) (by decide)) c90_x1p0 H90 locs90 hw hkm hon f_p0_32 hcF hcA hcB _ (lv_sub hl [1, 0] rfl)
          refine lv_if_ne (tgt := 60) hx hb dX12_goesThrough_54 (by decide) (fun c54 => ?_) (fun c54 => ?_)
          · have oc54 := iv_neq c54
            have r54tp : iv x51 1 1 := (iv_ne_lo c54 cx51 rfl).mono (by decide) (by decide)
            have or54tp := iv_o r54tp
            refine lv_aload_n hx hb dX12_goesThrough_60 rfl (lv_at hl 0 rfl) ?_
            refine lv_dup hx hb dX12_goesThrough_61 rfl ?_
            refine hp_getA hx hb hts IX12 hown hK hw.1 hp0 rfl 35 (by decide) L409 rfl dX12_goesThrough_62 (fun x62 fx62 => ?_)
            refine lv_iconst (v := 1) hx hb dX12_goesThrough_65 (by decide) ?_
            refine lv_iadd hx hb dX12_goesThrough_66 ?_
            refine lv_topi (fun x66 ex66 => ?_)
            refine hp_putE hx hb hts IX12 tyX12 tyX12_ok nmX12 hown hK hw hp0 rfl 35 (by decide) L409 rfl rfl ⟨_, rfl⟩ rfl rfl dX12_goesThrough_67 (fun H67 locs67 hw f67n g67 on67 => ?_)
            have hon := hon.trans (hp_on.mono (show hp_on (fun q => q = ap0) _ _ from on67) (fun q h9 => by rcases h9 with rfl; exact Or.inl rfl))
            have hcF := hp_c.kept hcF (on67 _ (fun h9 => hp_ne_ao hp0said hp0 h9))
            have hcA := hp_c.kept hcA (on67 _ (fun h9 => hp_ne_ao hp0oneOf hp0 h9))
            have hcB := hp_c.kept hcB (on67 _ (fun h9 => hp_ne_ao hp0otherOf hp0 h9))
            have hkm := hkm.put g67 (by decide)
            have f_p0_32 := g67 _ _ _ _ f_p0_32 (Or.inr ⟨rfl, by decide⟩)
            refine lv_aload_n hx hb dX12_goesThrough_70 rfl (lv_at hl 0 rfl) ?_
            refine lv_dup hx hb dX12_goesThrough_71 rfl ?_
            refine hp_getA hx hb hts IX12 hown hK hw.1 hp0 rfl 33 (by decide) L412 rfl dX12_goesThrough_72 (fun x72 fx72 => ?_)
            refine lv_iload_n hx hb dX12_goesThrough_75 rfl (lv_at hl 1 rfl) ?_
            refine lv_iand hx hb dX12_goesThrough_76 ?_
            refine lv_topi (fun x76 ex76 => ?_)
            have bx76 : iv x76 0 65535 := iv_and_r r46fp ex76
            have obx76 := iv_o bx76
            refine hp_putE hx hb hts IX12 tyX12 tyX12_ok nmX12 hown hK hw hp0 rfl 33 (by decide) L412 rfl rfl ⟨_, rfl⟩ rfl rfl dX12_goesThrough_77 (fun H77 locs77 hw f77n g77 on77 => ?_)
            have hon := hon.trans (hp_on.mono (show hp_on (fun q => q = ap0) _ _ from on77) (fun q h9 => by rcases h9 with rfl; exact Or.inl rfl))
            have hcF := hp_c.kept hcF (on77 _ (fun h9 => hp_ne_ao hp0said hp0 h9))
            have hcA := hp_c.kept hcA (on77 _ (fun h9 => hp_ne_ao hp0oneOf hp0 h9))
            have hcB := hp_c.kept hcB (on77 _ (fun h9 => hp_ne_ao hp0otherOf hp0 h9))
            have hkm := hkm.put g77 (by decide)
            have f_p0_32 := g77 _ _ _ _ f_p0_32 (Or.inr ⟨rfl, by decide⟩)
            refine lv_aload_n hx hb dX12_goesThrough_80 rfl (lv_at hl 0 rfl) ?_
            refine lv_dup hx hb dX12_goesThrough_81 rfl ?_
            refine hp_getA hx hb hts IX12 hown hK hw.1 hp0 rfl 34 (by decide) L415 rfl dX12_goesThrough_82 (fun x82 fx82 => ?_)
            refine lv_iload_n hx hb dX12_goesThrough_85 rfl (lv_at hl 1 rfl) ?_
            refine lv_ior hx hb dX12_goesThrough_86 ?_
            refine lv_topi (fun x86 ex86 => ?_)
            refine hp_putE hx hb hts IX12 tyX12 tyX12_ok nmX12 hown hK hw hp0 rfl 34 (by decide) L415 rfl rfl ⟨_, rfl⟩ rfl rfl dX12_goesThrough_87 (fun H87 locs87 hw f87n g87 on87 => ?_)
            have hon := hon.trans (hp_on.mono (show hp_on (fun q => q = ap0) _ _ from on87) (fun q h9 => by rcases h9 with rfl; exact Or.inl rfl))
            have hcF := hp_c.kept hcF (on87 _ (fun h9 => hp_ne_ao hp0said hp0 h9))
            have hcA := hp_c.kept hcA (on87 _ (fun h9 => hp_ne_ao hp0oneOf hp0 h9))
            have hcB := hp_c.kept hcB (on87 _ (fun h9 => hp_ne_ao hp0otherOf hp0 h9))
            have hkm := hkm.put g87 (by decide)
            have f_p0_32 := g87 _ _ _ _ f_p0_32 (Or.inr ⟨rfl, by decide⟩)
            exact J90 r46fp c39_x1p0 H87 locs87 hw hkm hon f_p0_32 hcF hcA hcB _ (lv_sub hl [0, 1] rfl)
          · have oc54 := congrArg Int32.toInt c54
            have r54fp : iv x51 0 0 := (iv_both cx51 (iv_eq (show iv 0 0 0 from ⟨by decide, by decide⟩) c54)).mono (by decide) (by decide)
            have or54fp := iv_o r54fp
            refine lv_goto (tgt := 90) hx hb dX12_goesThrough_57 (by decide) ?_
            exact J90 r46fp c39_x1p0 H39 locs39 hw hkm hon f_p0_32 hcF hcA hcB _ (lv_sub hl [0, 1] rfl)
    exact J39 _ (0 : Int32) (Nat.lt_succ_self _) (show iv 0 0 99999 from ⟨by decide, by decide⟩) r10tp H34 locs34 hw hkm hon f_p0_32 hcF hcA hcB _ (lv_sub hl [1, 0] rfl)
  · have oc10 := Int32.lt_iff_toInt_lt.mp (iv_nle c10)
    have r10fq : iv x1p0 17 45 := (iv_lt_r (iv_nle c10) (show iv 16 16 16 from ⟨by decide, by decide⟩) bx1p0).mono (by decide) (by decide)
    have or10fq := iv_o r10fq
    refine lv_iconst (v := 0) hx hb dX12_goesThrough_13 (by decide) ?_
    exact W.zret (v := 0) hx hb hr (iv_nz (show iv 0 0 1 from ⟨by decide, by decide⟩)) (fun t ht hW => ⟨some (.int 0), rfl, ⟨(0 : Int32), rfl, ⟨x1p0, by rw [ht]; exact hkm, by rw [ht]; exact hon, by rw [ht]; exact fx1p0, (show iv 0 0 1 from ⟨by decide, by decide⟩), (r10fq.mono (by decide) (by decide)), (fun h9 => absurd k0 h9)⟩⟩, by rw [ht]; exact hw.1, hw.2.F ht⟩) hw.2.2.2 dX12_goesThrough_14
abbrev WX12_shook_q (p : Program) (l : Launch) (e : Env) (s : State) (m : MethodId) (below : List Frame) (meth : Method) (c : Code) (D : hp_D) (T : hp_T) (ap0 : Nat) (xp1 : Int32) (xp2 : Int32) (A : Nat → Nat) (Tp : Nat → Value) (gF : Nat → Int32) (H : Heap) (locs : List Loc) (g : JFrame) : Prop := W p l e (headSpec wsX12_shook ({ frames := 5, cells := 0, slots := 0, locals := 111 })).room s m ([.ref ap0, .int xp1, .int xp2] : List Value).toArray below meth c H locs 0 0 (MQ below (hq_e D T (fun v st t => ∃ r : Int32, v = some (.int r) ∧ (hp_km D [(12, 32), (12, 33), (12, 34), (12, 35)] st.heap t.heap ∧ hp_on (fun q => q = ap0 ∨ q = A 15 ∨ q = A 16) st.heap t.heap ∧ iv r (-2147483648) 2147483647))) ([.ref ap0, .int xp1, .int xp2] : List Value).toArray s 0 0 (hp_F T)) g
set_option maxHeartbeats 4000000 in
set_option maxRecDepth 100000 in
theorem sX12_shook_q (l : Launch) (D : hp_D) (T : hp_T) (ap0 : Nat) (xp1 : Int32) (xp2 : Int32) (A : Nat → Nat) (Gm : moG) (Tp : Nat → Value) (ip0 : isMp T ap0 A Gm Tp) (gF : Nat → Int32) (hAB : A 15 ≠ A 16) : Met l yX12_shook wsX12_shook ({ frames := 5, cells := 0, slots := 0, locals := 111 }) (hp_Pc D T [.ref ap0, .int xp1, .int xp2] (fun H => hp_c D H (A 9) 211 gF)) (hq_e D T (fun v st t => ∃ r : Int32, v = some (.int r) ∧ (hp_km D [(12, 32), (12, 33), (12, 34), (12, 35)] st.heap t.heap ∧ hp_on (fun q => q = ap0 ∨ q = A 15 ∨ q = A 16) st.heap t.heap ∧ iv r (-2147483648) 2147483647))) 0 0 (hp_F T) := by
  obtain ⟨gok, tpok, hp0, hp0tape, hp0sign, hp0len, hp0clause, hp0clauses, hp0read, hp0opn, hp0stack, hp0word, hp0said, hp0was, hp0fitting, hp0sums, hp0sort, hp0sumsBy, hp0oneOf, hp0otherOf, hp0kept, hp0images, hp0acts, hp0iUnd, hp0iFor, hp0iX, hp0made⟩ := id ip0
  have hpx := gok.1
  have gsok := gok.2.2.2.2
  have ggd := gok.2.2.2.1
  refine Met.ofW (cc := cX12_shook) (maxL := 4) (ret := (some .int)) (by decide) rfl ?_
  intro p e s m args below meth c s₁ B hml hv
  obtain ⟨rfl, hok, hG, hB⟩ := hv
  have hx := B.exec
  have hb := B.bytes
  have hr := B.returns
  have hts := atoms_spec (ws := wsX12_shook) B.pre
  have hown : s.vm.findClass RX12 = some m.cls := findClass_of_methodNamed B.named
  have hlocks := B.notSynchronized
  have hK := hG.1
  have hw : hp_w D T s s.heap [] := hp_w.rf hok
  have IX12 : ∀ w ∈ wsX120, w ∈ wsX12_shook := by decide +kernel
  have L409 := hts (.fieldLink RX12 409 "PalmCensusModel" "sets" "I") (by decide +kernel)
  have L61 := hts (.fieldLink RX12 61 "PalmCensusModel" "oneOf" "[I") (by decide +kernel)
  have L64 := hts (.fieldLink RX12 64 "PalmCensusModel" "otherOf" "[I") (by decide +kernel)
  have L412 := hts (.fieldLink RX12 412 "PalmCensusModel" "inAll" "I") (by decide +kernel)
  have L415 := hts (.fieldLink RX12 415 "PalmCensusModel" "inSome" "I") (by decide +kernel)
  have hon : hp_on (fun q => q = ap0 ∨ q = A 15 ∨ q = A 16) s.heap s.heap := fun _ _ => rfl
  have km3 : ((-3) : Int32).toInt = (-3) := (by decide)
  have km2 : ((-2) : Int32).toInt = (-2) := (by decide)
  have km1 : ((-1) : Int32).toInt = (-1) := (by decide)
  have k0 : (0 : Int32).toInt = 0 := (by decide)
  have k1 : (1 : Int32).toInt = 1 := (by decide)
  have k2 : (2 : Int32).toInt = 2 := (by decide)
  have hkm : hp_km D [(12, 32), (12, 33), (12, 34), (12, 35)] s.heap s.heap := fun _ _ _ _ h _ => h
  have hl := lv_entry ([.ref ap0, .int xp1, .int xp2]) (n := 4) (Nat.le_of_ble_eq_true rfl)
  rw [lg_entry_eq]
  generalize (lg_sl ([.ref ap0, .int xp1, .int xp2]) ++ List.replicate (4 - (lg_sl ([.ref ap0, .int xp1, .int xp2])).length) Slot.unset).toArray = ls at hl ⊢
  have hl : lv_has ls 4 [(0, .ref ap0), (1, .int xp1), (2, .int xp2)] := hl
  show WX12_shook_q p l e s m below meth c D T ap0 xp1 xp2 A Tp gF s.heap [] (F0 m 0 ls [])
  refine lv_aload_n hx hb dX12_shook_0 rfl (lv_at hl 0 rfl) ?_
  refine lv_iload_n hx hb dX12_shook_1 rfl (lv_at hl 1 rfl) ?_
  refine hp_callpi (va_runV (As := [.int xp1]) (rest := []) ⟨hx, hb, hml, hown, hts⟩ (sX12_isPerson_q l D T ap0 xp1 A Gm Tp ip0 gF) (cwV 1 hts gX12_shook_X12_isPerson rfl rfl rfl (by decide +kernel) ⟨Nat.le_of_ble_eq_true rfl, Nat.le_of_ble_eq_true rfl⟩) (hp_preV hG hw hp0 rfl hB) rfl rfl hl.1 rfl (lv_room (Nat.le_of_ble_eq_true rfl)) dX12_shook_2 ⟨Nat.zero_le _, Nat.zero_le _⟩) (fun x2 bx2 => ?_)
  obtain ⟨cx2, R2_0, R2_1⟩ := bx2
  have ocx2 := iv_o cx2
  refine lv_if_eq (tgt := 30) hx hb dX12_shook_5 (by decide) (fun c5 => ?_) (fun c5 => ?_)
  · have oc5 := congrArg Int32.toInt c5
    have r5tp : iv x2 0 0 := (iv_both cx2 (iv_eq (show iv 0 0 0 from ⟨by decide, by decide⟩) c5)).mono (by decide) (by decide)
    have or5tp := iv_o r5tp
    refine lv_iconst (v := (-1)) hx hb dX12_shook_30 (by decide) ?_
    exact W.iret (v := (-1)) hx hb hr (fun t ht hW => ⟨some (.int (-1)), rfl, ⟨((-1) : Int32), rfl, ⟨by rw [ht]; exact hkm, by rw [ht]; exact hon, iv_any _⟩⟩, by rw [ht]; exact hw.1, hw.2.F ht⟩) hw.2.2.2 dX12_shook_31
  · have oc5 := iv_neq c5
    have r5fp : iv x2 1 1 := (iv_ne_lo c5 cx2 rfl).mono (by decide) (by decide)
    have or5fp := iv_o r5fp
    have r5fpz : iv xp1 0 9 := (iv_both (iv_any xp1) (R2_1 (iv_ne0 r5fp (by decide)))).mono (by decide) (by decide)
    have or5fpz := iv_o r5fpz
    refine lv_aload_n hx hb dX12_shook_8 rfl (lv_at hl 0 rfl) ?_
    refine lv_iload_n hx hb dX12_shook_9 rfl (lv_at hl 2 rfl) ?_
    refine hp_callpi (va_runV (As := [.int xp2]) (rest := []) ⟨hx, hb, hml, hown, hts⟩ (sX12_isPerson_q l D T ap0 xp2 A Gm Tp ip0 gF) (cwV 1 hts gX12_shook_X12_isPerson rfl rfl rfl (by decide +kernel) ⟨Nat.le_of_ble_eq_true rfl, Nat.le_of_ble_eq_true rfl⟩) (hp_preV hG hw hp0 rfl hB) rfl rfl hl.1 rfl (lv_room (Nat.le_of_ble_eq_true rfl)) dX12_shook_10 ⟨Nat.zero_le _, Nat.zero_le _⟩) (fun x10 bx10 => ?_)
    obtain ⟨cx10, R10_0, R10_1⟩ := bx10
    have ocx10 := iv_o cx10
    refine lv_if_eq (tgt := 30) hx hb dX12_shook_13 (by decide) (fun c13 => ?_) (fun c13 => ?_)
    · have oc13 := congrArg Int32.toInt c13
      have r13tp : iv x10 0 0 := (iv_both cx10 (iv_eq (show iv 0 0 0 from ⟨by decide, by decide⟩) c13)).mono (by decide) (by decide)
      have or13tp := iv_o r13tp
      refine lv_iconst (v := (-1)) hx hb dX12_shook_30 (by decide) ?_
      exact W.iret (v := (-1)) hx hb hr (fun t ht hW => ⟨some (.int (-1)), rfl, ⟨((-1) : Int32), rfl, ⟨by rw [ht]; exact hkm, by rw [ht]; exact hon, iv_any _⟩⟩, by rw [ht]; exact hw.1, hw.2.F ht⟩) hw.2.2.2 dX12_shook_31
    · have oc13 := iv_neq c13
      have r13fp : iv x10 1 1 := (iv_ne_lo c13 cx10 rfl).mono (by decide) (by decide)
      have or13fp := iv_o r13fp
      have r13fpz : iv xp2 0 9 := (iv_both (iv_any xp2) (R10_1 (iv_ne0 r13fp (by decide)))).mono (by decide) (by decide)
      have or13fpz := iv_o r13fpz
      refine lv_iload_n hx hb dX12_shook_16 rfl (lv_at hl 1 rfl) ?_
      refine lv_iload_n hx hb dX12_shook_17 rfl (lv_at hl 2 rfl) ?_
      refine lv_icmp_eq (tgt := 30) hx hb dX12_shook_18 (by decide) (fun c18 => ?_) (fun c18 => ?_)
      · have oc18 := congrArg Int32.toInt c18
        refine lv_iconst (v := (-1)) hx hb dX12_shook_30 (by decide) ?_
        exact W.iret (v := (-1)) hx hb hr (fun t ht hW => ⟨some (.int (-1)), rfl, ⟨((-1) : Int32), rfl, ⟨by rw [ht]; exact hkm, by rw [ht]; exact hon, iv_any _⟩⟩, by rw [ht]; exact hw.1, hw.2.F ht⟩) hw.2.2.2 dX12_shook_31
      · have oc18 := iv_neq c18
        refine lv_aload_n hx hb dX12_shook_21 rfl (lv_at hl 0 rfl) ?_
        refine lv_iload_n hx hb dX12_shook_22 rfl (lv_at hl 1 rfl) ?_
        refine lv_iload_n hx hb dX12_shook_23 rfl (lv_at hl 2 rfl) ?_
        refine hp_callpi (va_runV (As := [.int xp1, .int xp2]) (rest := []) ⟨hx, hb, hml, hown, hts⟩ (sX12_meet_q l D T ap0 xp1 xp2 A Gm Tp ip0 gF r5fpz r13fpz) (cwV 2 hts gX12_shook_X12_meet rfl rfl rfl (by decide +kernel) ⟨Nat.le_of_ble_eq_true rfl, Nat.le_of_ble_eq_true rfl⟩) (hp_preV hG hw hp0 rfl hB) rfl rfl hl.1 rfl (lv_room (Nat.le_of_ble_eq_true rfl)) dX12_shook_24 ⟨Nat.zero_le _, Nat.zero_le _⟩) (fun x24 bx24 => ?_)
        obtain ⟨cx24, R24_0, R24_1⟩ := bx24
        have ocx24 := iv_o cx24
        refine lv_if_ne (tgt := 32) hx hb dX12_shook_27 (by decide) (fun c27 => ?_) (fun c27 => ?_)
        · have oc27 := iv_neq c27
          have r27tp : iv x24 1 1 := (iv_ne_lo c27 cx24 rfl).mono (by decide) (by decide)
          have or27tp := iv_o r27tp
          refine lv_aload_n hx hb dX12_shook_32 rfl (lv_at hl 0 rfl) ?_
          refine hp_callei (va_runV (As := []) (rest := []) ⟨hx, hb, hml, hown, hts⟩ (sX12_goesThrough_q l D T ap0 A Gm Tp ip0 gF hAB) (cwV 0 hts gX12_shook_X12_goesThrough rfl rfl rfl (by decide +kernel) ⟨Nat.le_of_ble_eq_true rfl, Nat.le_of_ble_eq_true rfl⟩) (hp_preV hG hw hp0 rfl hB) rfl rfl hl.1 rfl (lv_room (Nat.le_of_ble_eq_true rfl)) dX12_shook_33 ⟨Nat.zero_le _, Nat.zero_le _⟩) hw (fun x33 st33 t33 H33 locs33 eh33 eg33 bx33 hw => ?_)
          obtain ⟨x33p0, g33, on33, fx33p0, cx33, bx33p0, R33_0⟩ := bx33
          rw [eh33, eg33] at g33 on33
          have hcF := hp_c.kept hB (on33 _ (fun h9 => by rcases h9 with h9 | h9 | h9; (exact hp_ne_ao hp0said hp0 h9); (exact hp_ne_len hp0said hp0oneOf (by decide) h9); (exact hp_ne_len hp0said hp0otherOf (by decide) h9)))
          rw [eg33] at fx33p0
          have hkm := hkm.call g33 (by decide)
          have hon := hon.trans on33
          have obx33p0 := iv_o bx33p0
          have ocx33 := iv_o cx33
          have hgt := R33_0
          rw [eg33] at hgt
          refine lv_if_ne (tgt := 42) hx hb dX12_shook_36 (by decide) (fun c36 => ?_) (fun c36 => ?_)
          · have oc36 := iv_neq c36
            have r36tp : iv x33 1 1 := (iv_ne_lo c36 cx33 rfl).mono (by decide) (by decide)
            have or36tp := iv_o r36tp
            obtain ⟨f1, g1_, hcA, hcB, hgp⟩ := hgt (by omega)
            refine lv_aload_n hx hb dX12_shook_42 rfl (lv_at hl 0 rfl) ?_
            refine hp_getA hx hb hts IX12 hown hK hw.1 hp0 rfl 35 (by decide) L409 rfl dX12_shook_43 (fun x43 fx43 => ?_)
            refine lv_if_ne (tgt := 52) hx hb dX12_shook_46 (by decide) (fun c46 => ?_) (fun c46 => ?_)
            · have oc46 := iv_neq c46
              obtain ⟨k0, hk0, hk1⟩ := gp_find hgp (R2_0 (by omega)) (R10_0 (by omega)) c18 (R24_0 (by omega))
              refine lv_iconst (v := 0) hx hb dX12_shook_52 (by decide) ?_
              refine lv_istore_n (lv' := [(3, .int 0), (0, .ref ap0), (1, .int xp1), (2, .int xp2)]) hx hb dX12_shook_53 rfl hl (by decide) rfl (fun ls hl => ?_)
              have J54 : ∀ (n : Nat) (y54_l3 : Int32), (45 - y54_l3.toInt).toNat < n → iv xp1 0 9 → iv xp2 0 9 → iv y54_l3 0 45 → iv x33p0 0 45 → (y54_l3.toInt ≤ (k0 : Int)) → ∀ (H : Heap) (locs : List Loc), hp_w D T s H locs → hp_km D [(12, 32), (12, 33), (12, 34), (12, 35)] s.heap H → hp_on (fun q => q = ap0 ∨ q = A 15 ∨ q = A 16) s.heap H → hp_f D H ap0 12 32 (.int x33p0) → hp_c D H (A 9) 211 gF → hp_c D H (A 15) 45 f1 → hp_c D H (A 16) 45 g1_ → ∀ (ls : Array Slot), lv_has ls 4 [(0, .ref ap0), (1, .int xp1), (2, .int xp2), (3, .int y54_l3)] → WX12_shook_q p l e s m below meth c D T ap0 xp1 xp2 A Tp gF H locs (F0 m 54 ls []) := by
                intro n
                induction n with
                | zero => intro y54_l3 hmu54 c54_xp1 c54_xp2 c54_y54_l3 c54_x33p0 hv54_0 H54 locs54 hw hkm hon f_p0_32 hcF hcA hcB ls hl; exact absurd hmu54 (Nat.not_lt_zero _)
                | succ n ih54 =>
                  intro y54_l3 hmu54 c54_xp1 c54_xp2 c54_y54_l3 c54_x33p0 hv54_0 H54 locs54 hw hkm hon f_p0_32 hcF hcA hcB ls hl
                  have oc54_xp1 := iv_o c54_xp1
                  have oc54_xp2 := iv_o c54_xp2
                  have oc54_y54_l3 := iv_o c54_y54_l3
                  have oc54_x33p0 := iv_o c54_x33p0
                  have w54 : iv y54_l3 0 44 := ⟨c54_y54_l3.1, by omega⟩
                  have ow54 := iv_o w54
                  refine lv_aload_n hx hb dX12_shook_54 rfl (lv_at hl 0 rfl) ?_
                  refine hp_getr hx hb hts IX12 hown hK hw.1 hp0 rfl 30 (by decide) L61 rfl dX12_shook_55 ?_
                  refine lv_iload_n hx hb dX12_shook_58 rfl (lv_at hl 3 rfl) ?_
                  refine hp_ialdE hx hb hK hw.1 hp0oneOf (vp_iv w54 (by decide)) dX12_shook_59 (fun v59 h59 E59 => ?_)
                  obtain ⟨x59, rfl⟩ := h59
                  have ux59 : x59 = f1 y54_l3.toInt.toNat := hp_et.int E59 (hp_c.et hcA (iv_ltn w54 (by decide)))
                  refine lv_iload_n hx hb dX12_shook_60 rfl (lv_at hl 1 rfl) ?_
                  refine lv_icmp_ne (tgt := 74) hx hb dX12_shook_61 (by decide) (fun c61 => ?_) (fun c61 => ?_)
                  · have oc61 := iv_neq c61
                    refine lv_aload_n hx hb dX12_shook_74 rfl (lv_at hl 0 rfl) ?_
                    refine hp_getr hx hb hts IX12 hown hK hw.1 hp0 rfl 30 (by decide) L61 rfl dX12_shook_75 ?_
                    refine lv_iload_n hx hb dX12_shook_78 rfl (lv_at hl 3 rfl) ?_
                    refine hp_ialdE hx hb hK hw.1 hp0oneOf (vp_iv w54 (by decide)) dX12_shook_79 (fun v79 h79 E79 => ?_)
                    obtain ⟨x79, rfl⟩ := h79
                    have ux79 : x79 = f1 y54_l3.toInt.toNat := hp_et.int E79 (hp_c.et hcA (iv_ltn w54 (by decide)))
                    refine lv_iload_n hx hb dX12_shook_80 rfl (lv_at hl 2 rfl) ?_
                    refine lv_icmp_ne (tgt := 94) hx hb dX12_shook_81 (by decide) (fun c81 => ?_) (fun c81 => ?_)
                    · have oc81 := iv_neq c81
                      have hne : ¬ y54_l3.toInt = (k0 : Int) := fun h9 => by have e9 : y54_l3.toInt.toNat = k0 := (by omega); rcases hk1 with ⟨a1, a2⟩ | ⟨a1, a2⟩; (exact c61 (by rw [ux59, e9]; exact a1)); (exact c81 (by rw [ux79, e9]; exact a1))
                      obtain ⟨x94, ex94⟩ : ∃ y : Int32, y = y54_l3 + 1 := ⟨_, rfl⟩
                      have bx94 : iv x94 1 45 := iv_add w54 (show iv 1 1 1 from ⟨by decide, by decide⟩) ex94 (by decide)
                      have qx94 := iv_add_eq w54 (show iv 1 1 1 from ⟨by decide, by decide⟩) ex94 (by decide)
                      have obx94 := iv_o bx94
                      refine lv_iinc (v := x94) (lv' := [(3, .int x94), (0, .ref ap0), (1, .int xp1), (2, .int xp2)]) hx hb dX12_shook_94 hl (k := 3) rfl (by rw [ex94]; rfl) (by decide) rfl (fun ls hl => ?_)
                      refine lv_goto (tgt := 54) hx hb dX12_shook_97 (by decide) ?_
                      exact ih54 x94 (mu_up 1 hmu54 (qx94) (by decide) (show iv x94 0 45 from (bx94.mono (by decide) (by decide))).2) c54_xp1 c54_xp2 (bx94.mono (by decide) (by decide)) c54_x33p0 (show x94.toInt ≤ (k0 : Int) from by have := (bx94).1; have := (bx94).2; have := (w54).1; have := (w54).2; have : (1 : Int32).toInt = 1 := (by decide); omega) H54 locs54 hw hkm hon f_p0_32 hcF hcA hcB _ (lv_sub hl [1, 2, 3, 0] rfl)
                    · have oc81 := congrArg Int32.toInt c81
                      have r81fp : iv x79 0 9 := (iv_both (iv_any x79) (iv_eq c54_xp2 c81)).mono (by decide) (by decide)
                      have or81fp := iv_o r81fp
                      refine lv_aload_n hx hb dX12_shook_84 rfl (lv_at hl 0 rfl) ?_
                      refine hp_getr hx hb hts IX12 hown hK hw.1 hp0 rfl 31 (by decide) L64 rfl dX12_shook_85 ?_
                      refine lv_iload_n hx hb dX12_shook_88 rfl (lv_at hl 3 rfl) ?_
                      refine hp_ialdE hx hb hK hw.1 hp0otherOf (vp_iv w54 (by decide)) dX12_shook_89 (fun v89 h89 E89 => ?_)
                      obtain ⟨x89, rfl⟩ := h89
                      have ux89 : x89 = g1_ y54_l3.toInt.toNat := hp_et.int E89 (hp_c.et hcB (iv_ltn w54 (by decide)))
                      refine lv_iload_n hx hb dX12_shook_90 rfl (lv_at hl 1 rfl) ?_
                      refine lv_icmp_eq (tgt := 100) hx hb dX12_shook_91 (by decide) (fun c91 => ?_) (fun c91 => ?_)
                      · have oc91 := congrArg Int32.toInt c91
                        have r91tp : iv x89 0 9 := (iv_both (iv_any x89) (iv_eq c54_xp1 c91)).mono (by decide) (by decide)
                        have or91tp := iv_o r91tp
                        refine lv_aload_n hx hb dX12_shook_100 rfl (lv_at hl 0 rfl) ?_
                        refine hp_getA hx hb hts IX12 hown hK hw.1 hp0 rfl 33 (by decide) L412 rfl dX12_shook_101 (fun x101 fx101 => ?_)
                        refine lv_iload_n hx hb dX12_shook_104 rfl (lv_at hl 3 rfl) ?_
                        refine hp_callpi (va_runS (As := [.int x101, .int y54_l3]) (rest := []) ⟨hx, hb, hml, hown, hts⟩ (sX12_isOf l D T x101 y54_l3) (va_cwS 2 hts gX12_shook_X12_isOf rfl rfl rfl (by decide +kernel) ⟨Nat.le_of_ble_eq_true rfl, Nat.le_of_ble_eq_true rfl⟩) (hp_preS hG hw trivial) rfl rfl hl.1 rfl (lv_room (Nat.le_of_ble_eq_true rfl)) dX12_shook_105 ⟨Nat.zero_le _, Nat.zero_le _⟩) (fun x105 bx105 => ?_)
                        have obx105 := iv_o bx105
                        refine lv_if_eq (tgt := 115) hx hb dX12_shook_108 (by decide) (fun c108 => ?_) (fun c108 => ?_)
                        · have oc108 := congrArg Int32.toInt c108
                          have r108tp : iv x105 0 0 := (iv_both bx105 (iv_eq (show iv 0 0 0 from ⟨by decide, by decide⟩) c108)).mono (by decide) (by decide)
                          have or108tp := iv_o r108tp
                          refine lv_aload_n hx hb dX12_shook_115 rfl (lv_at hl 0 rfl) ?_
                          refine hp_getA hx hb hts IX12 hown hK hw.1 hp0 rfl 34 (by decide) L415 rfl dX12_shook_116 (fun x116 fx116 => ?_)
                          refine lv_iload_n hx hb dX12_shook_119 rfl (lv_at hl 3 rfl) ?_
                          refine hp_callpi (va_runS (As := [.int x116, .int y54_l3]) (rest := []) ⟨hx, hb, hml, hown, hts⟩ (sX12_isOf l D T x116 y54_l3) (va_cwS 2 hts gX12_shook_X12_isOf rfl rfl rfl (by decide +kernel) ⟨Nat.le_of_ble_eq_true rfl, Nat.le_of_ble_eq_true rfl⟩) (hp_preS hG hw trivial) rfl rfl hl.1 rfl (lv_room (Nat.le_of_ble_eq_true rfl)) dX12_shook_120 ⟨Nat.zero_le _, Nat.zero_le _⟩) (fun x120 bx120 => ?_)
                          have obx120 := iv_o bx120
                          refine lv_if_eq (tgt := 130) hx hb dX12_shook_123 (by decide) (fun c123 => ?_) (fun c123 => ?_)
                          · have oc123 := congrArg Int32.toInt c123
                            have r123tp : iv x120 0 0 := (iv_both bx120 (iv_eq (show iv 0 0 0 from ⟨by decide, by decide⟩) c123)).mono (by decide) (by decide)
                            have or123tp := iv_o r123tp
                            refine lv_iconst (v := 0) hx hb dX12_shook_130 (by decide) ?_
                            exact W.iret (v := 0) hx hb hr (fun t ht hW => ⟨some (.int 0), rfl, ⟨(0 : Int32), rfl, ⟨by rw [ht]; exact hkm, by rw [ht]; exact hon, iv_any _⟩⟩, by rw [ht]; exact hw.1, hw.2.F ht⟩) hw.2.2.2 dX12_shook_131
                          · have oc123 := iv_neq c123
                            have r123fp : iv x120 1 1 := (iv_ne_lo c123 bx120 rfl).mono (by decide) (by decide)
                            have or123fp := iv_o r123fp
                            refine lv_iconst (v := 2) hx hb dX12_shook_126 (by decide) ?_
                            refine lv_goto (tgt := 131) hx hb dX12_shook_127 (by decide) ?_
                            exact W.iret (v := 2) hx hb hr (fun t ht hW => ⟨some (.int 2), rfl, ⟨(2 : Int32), rfl, ⟨by rw [ht]; exact hkm, by rw [ht]; exact hon, iv_any _⟩⟩, by rw [ht]; exact hw.1, hw.2.F ht⟩) hw.2.2.2 dX12_shook_131
                        · have oc108 := iv_neq c108
                          have r108fp : iv x105 1 1 := (iv_ne_lo c108 bx105 rfl).mono (by decide) (by decide)
                          have or108fp := iv_o r108fp
                          refine lv_iconst (v := 1) hx hb dX12_shook_111 (by decide) ?_
                          refine lv_goto (tgt := 131) hx hb dX12_shook_112 (by decide) ?_
                          exact W.iret (v := 1) hx hb hr (fun t ht hW => ⟨some (.int 1), rfl, ⟨(1 : Int32), rfl, ⟨by rw [ht]; exact hkm, by rw [ht]; exact hon, iv_any _⟩⟩, by rw [ht]; exact hw.1, hw.2.F ht⟩) hw.2.2.2 dX12_shook_131
                      · have oc91 := iv_neq c91
                        have hne : ¬ y54_l3.toInt = (k0 : Int) := fun h9 => by have e9 : y54_l3.toInt.toNat = k0 := (by omega); rcases hk1 with ⟨a1, a2⟩ | ⟨a1, a2⟩; (exact c61 (by rw [ux59, e9]; exact a1)); (exact c91 (by rw [ux89, e9]; exact a2))
                        obtain ⟨x94, ex94⟩ : ∃ y : Int32, y = y54_l3 + 1 := ⟨_, rfl⟩
                        have bx94 : iv x94 1 45 := iv_add w54 (show iv 1 1 1 from ⟨by decide, by decide⟩) ex94 (by decide)
                        have qx94 := iv_add_eq w54 (show iv 1 1 1 from ⟨by decide, by decide⟩) ex94 (by decide)
                        have obx94 := iv_o bx94
                        refine lv_iinc (v := x94) (lv' := [(3, .int x94), (0, .ref ap0), (1, .int xp1), (2, .int xp2)]) hx hb dX12_shook_94 hl (k := 3) rfl (by rw [ex94]; rfl) (by decide) rfl (fun ls hl => ?_)
                        refine lv_goto (tgt := 54) hx hb dX12_shook_97 (by decide) ?_
                        exact ih54 x94 (mu_up 1 hmu54 (qx94) (by decide) (show iv x94 0 45 from (bx94.mono (by decide) (by decide))).2) c54_xp1 c54_xp2 (bx94.mono (by decide) (by decide)) c54_x33p0 (show x94.toInt ≤ (k0 : Int) from by have := (bx94).1; have := (bx94).2; have := (w54).1; have := (w54).2; have : (1 : Int32).toInt = 1 := (by decide); omega) H54 locs54 hw hkm hon f_p0_32 hcF hcA hcB _ (lv_sub hl [1, 2, 3, 0] rfl)
                  · have oc61 := congrArg Int32.toInt c61
                    have r61fp : iv x59 0 9 := (iv_both (iv_any x59) (iv_eq c54_xp1 c61)).mono (by decide) (by decide)
                    have or61fp := iv_o r61fp
                    refine lv_aload_n hx hb dX12_shook_64 rfl (lv_at hl 0 rfl) ?_
                    refine hp_getr hx hb hts IX12 hown hK hw.1 hp0 rfl 31 (by decide) L64 rfl dX12_shook_65 ?_
                    refine lv_iload_n hx hb dX12_shook_68 rfl (lv_at hl 3 rfl) ?_
                    refine hp_ialdE hx hb hK hw.1 hp0otherOf (vp_iv w54 (by decide)) dX12_shook_69 (fun v69 h69 E69 => ?_)
                    obtain ⟨x69, rfl⟩ := h69
                    have ux69 : x69 = g1_ y54_l3.toInt.toNat := hp_et.int E69 (hp_c.et hcB (iv_ltn w54 (by decide)))
                    refine lv_iload_n hx hb dX12_shook_70 rfl (lv_at hl 2 rfl) ?_
                    refine lv_icmp_eq (tgt := 100) hx hb dX12_shook_71 (by decide) (fun c71 => ?_) (fun c71 => ?_)
                    · have oc71 := congrArg Int32.toInt c71
                      have r71tp : iv x69 0 9 := (iv_both (iv_any x69) (iv_eq c54_xp2 c71)).mono (by decide) (by decide)
                      have or71tp := iv_o r71tp
                      refine lv_aload_n hx hb dX12_shook_100 rfl (lv_at hl 0 rfl) ?_
                      refine hp_getA hx hb hts IX12 hown hK hw.1 hp0 rfl 33 (by decide) L412 rfl dX12_shook_101 (fun x101 fx101 => ?_)
                      refine lv_iload_n hx hb dX12_shook_104 rfl (lv_at hl 3 rfl) ?_
                      refine hp_callpi (va_runS (As := [.int x101, .int y54_l3]) (rest := []) ⟨hx, hb, hml, hown, hts⟩ (sX12_isOf l D T x101 y54_l3) (va_cwS 2 hts gX12_shook_X12_isOf rfl rfl rfl (by decide +kernel) ⟨Nat.le_of_ble_eq_true rfl, Nat.le_of_ble_eq_true rfl⟩) (hp_preS hG hw trivial) rfl rfl hl.1 rfl (lv_room (Nat.le_of_ble_eq_true rfl)) dX12_shook_105 ⟨Nat.zero_le _, Nat.zero_le _⟩) (fun x105 bx105 => ?_)
                      have obx105 := iv_o bx105
                      refine lv_if_eq (tgt := 115) hx hb dX12_shook_108 (by decide) (fun c108 => ?_) (fun c108 => ?_)
                      · have oc108 := congrArg Int32.toInt c108
                        have r108tp : iv x105 0 0 := (iv_both bx105 (iv_eq (show iv 0 0 0 from ⟨by decide, by decide⟩) c108)).mono (by decide) (by decide)
                        have or108tp := iv_o r108tp
                        refine lv_aload_n hx hb dX12_shook_115 rfl (lv_at hl 0 rfl) ?_
                        refine hp_getA hx hb hts IX12 hown hK hw.1 hp0 rfl 34 (by decide) L415 rfl dX12_shook_116 (fun x116 fx116 => ?_)
                        refine lv_iload_n hx hb dX12_shook_119 rfl (lv_at hl 3 rfl) ?_
                        refine hp_callpi (va_runS (As := [.int x116, .int y54_l3]) (rest := []) ⟨hx, hb, hml, hown, hts⟩ (sX12_isOf l D T x116 y54_l3) (va_cwS 2 hts gX12_shook_X12_isOf rfl rfl rfl (by decide +kernel) ⟨Nat.le_of_ble_eq_true rfl, Nat.le_of_ble_eq_true rfl⟩) (hp_preS hG hw trivial) rfl rfl hl.1 rfl (lv_room (Nat.le_of_ble_eq_true rfl)) dX12_shook_120 ⟨Nat.zero_le _, Nat.zero_le _⟩) (fun x120 bx120 => ?_)
                        have obx120 := iv_o bx120
                        refine lv_if_eq (tgt := 130) hx hb dX12_shook_123 (by decide) (fun c123 => ?_) (fun c123 => ?_)
                        · have oc123 := congrArg Int32.toInt c123
                          have r123tp : iv x120 0 0 := (iv_both bx120 (iv_eq (show iv 0 0 0 from ⟨by decide, by decide⟩) c123)).mono (by decide) (by decide)
                          have or123tp := iv_o r123tp
                          refine lv_iconst (v := 0) hx hb dX12_shook_130 (by decide) ?_
                          exact W.iret (v := 0) hx hb hr (fun t ht hW => ⟨some (.int 0), rfl, ⟨(0 : Int32), rfl, ⟨by rw [ht]; exact hkm, by rw [ht]; exact hon, iv_any _⟩⟩, by rw [ht]; exact hw.1, hw.2.F ht⟩) hw.2.2.2 dX12_shook_131
                        · have oc123 := iv_neq c123
                          have r123fp : iv x120 1 1 := (iv_ne_lo c123 bx120 rfl).mono (by decide) (by decide)
                          have or123fp := iv_o r123fp
                          refine lv_iconst (v := 2) hx hb dX12_shook_126 (by decide) ?_
                          refine lv_goto (tgt := 131) hx hb dX12_shook_127 (by decide) ?_
                          exact W.iret (v := 2) hx hb hr (fun t ht hW => ⟨some (.int 2), rfl, ⟨(2 : Int32), rfl, ⟨by rw [ht]; exact hkm, by rw [ht]; exact hon, iv_any _⟩⟩, by rw [ht]; exact hw.1, hw.2.F ht⟩) hw.2.2.2 dX12_shook_131
                      · have oc108 := iv_neq c108
                        have r108fp : iv x105 1 1 := (iv_ne_lo c108 bx105 rfl).mono (by decide) (by decide)
                        have or108fp := iv_o r108fp
                        refine lv_iconst (v := 1) hx hb dX12_shook_111 (by decide) ?_
                        refine lv_goto (tgt := 131) hx hb dX12_shook_112 (by decide) ?_
                        exact W.iret (v := 1) hx hb hr (fun t ht hW => ⟨some (.int 1), rfl, ⟨(1 : Int32), rfl, ⟨by rw [ht]; exact hkm, by rw [ht]; exact hon, iv_any _⟩⟩, by rw [ht]; exact hw.1, hw.2.F ht⟩) hw.2.2.2 dX12_shook_131
                    · have oc71 := iv_neq c71
                      refine lv_aload_n hx hb dX12_shook_74 rfl (lv_at hl 0 rfl) ?_
                      refine hp_getr hx hb hts IX12 hown hK hw.1 hp0 rfl 30 (by decide) L61 rfl dX12_shook_75 ?_
                      refine lv_iload_n hx hb dX12_shook_78 rfl (lv_at hl 3 rfl) ?_
                      refine hp_ialdE hx hb hK hw.1 hp0oneOf (vp_iv w54 (by decide)) dX12_shook_79 (fun v79 h79 E79 => ?_)
                      obtain ⟨x79, rfl⟩ := h79
                      have ux79 : x79 = f1 y54_l3.toInt.toNat := hp_et.int E79 (hp_c.et hcA (iv_ltn w54 (by decide)))
                      refine lv_iload_n hx hb dX12_shook_80 rfl (lv_at hl 2 rfl) ?_
                      refine lv_icmp_ne (tgt := 94) hx hb dX12_shook_81 (by decide) (fun c81 => ?_) (fun c81 => ?_)
                      · have oc81 := iv_neq c81
                        have hne : ¬ y54_l3.toInt = (k0 : Int) := fun h9 => by have e9 : y54_l3.toInt.toNat = k0 := (by omega); rcases hk1 with ⟨a1, a2⟩ | ⟨a1, a2⟩; (exact c71 (by rw [ux69, e9]; exact a2)); (exact c81 (by rw [ux79, e9]; exact a1))
                        obtain ⟨x94, ex94⟩ : ∃ y : Int32, y = y54_l3 + 1 := ⟨_, rfl⟩
                        have bx94 : iv x94 1 45 := iv_add w54 (show iv 1 1 1 from ⟨by decide, by decide⟩) ex94 (by decide)
                        have qx94 := iv_add_eq w54 (show iv 1 1 1 from ⟨by decide, by decide⟩) ex94 (by decide)
                        have obx94 := iv_o bx94
                        refine lv_iinc (v := x94) (lv' := [(3, .int x94), (0, .ref ap0), (1, .int xp1), (2, .int xp2)]) hx hb dX12_shook_94 hl (k := 3) rfl (by rw [ex94]; rfl) (by decide) rfl (fun ls hl => ?_)
                        refine lv_goto (tgt := 54) hx hb dX12_shook_97 (by decide) ?_
                        exact ih54 x94 (mu_up 1 hmu54 (qx94) (by decide) (show iv x94 0 45 from (bx94.mono (by decide) (by decide))).2) c54_xp1 c54_xp2 (bx94.mono (by decide) (by decide)) c54_x33p0 (show x94.toInt ≤ (k0 : Int) from by have := (bx94).1; have := (bx94).2; have := (w54).1; have := (w54).2; have : (1 : Int32).toInt = 1 := (by decide); omega) H54 locs54 hw hkm hon f_p0_32 hcF hcA hcB _ (lv_sub hl [1, 2, 3, 0] rfl)
                      · have oc81 := congrArg Int32.toInt c81
                        have r81fp : iv x79 0 9 := (iv_both (iv_any x79) (iv_eq c54_xp2 c81)).mono (by decide) (by decide)
                        have or81fp := iv_o r81fp
                        refine lv_aload_n hx hb dX12_shook_84 rfl (lv_at hl 0 rfl) ?_
                        refine hp_getr hx hb hts IX12 hown hK hw.1 hp0 rfl 31 (by decide) L64 rfl dX12_shook_85 ?_
                        refine lv_iload_n hx hb dX12_shook_88 rfl (lv_at hl 3 rfl) ?_
                        refine hp_ialdE hx hb hK hw.1 hp0otherOf (vp_iv w54 (by decide)) dX12_shook_89 (fun v89 h89 E89 => ?_)
                        obtain ⟨x89, rfl⟩ := h89
                        have ux89 : x89 = g1_ y54_l3.toInt.toNat := hp_et.int E89 (hp_c.et hcB (iv_ltn w54 (by decide)))
                        refine lv_iload_n hx hb dX12_shook_90 rfl (lv_at hl 1 rfl) ?_
                        refine lv_icmp_eq (tgt := 100) hx hb dX12_shook_91 (by decide) (fun c91 => ?_) (fun c91 => ?_)
                        · have oc91 := congrArg Int32.toInt c91
                          have r91tp : iv x89 0 9 := (iv_both (iv_any x89) (iv_eq c54_xp1 c91)).mono (by decide) (by decide)
                          have or91tp := iv_o r91tp
                          refine lv_aload_n hx hb dX12_shook_100 rfl (lv_at hl 0 rfl) ?_
                          refine hp_getA hx hb hts IX12 hown hK hw.1 hp0 rfl 33 (by decide) L412 rfl dX12_shook_101 (fun x101 fx101 => ?_)
                          refine lv_iload_n hx hb dX12_shook_104 rfl (lv_at hl 3 rfl) ?_
                          refine hp_callpi (va_runS (As := [.int x101, .int y54_l3]) (rest := []) ⟨hx, hb, hml, hown, hts⟩ (sX12_isOf l D T x101 y54_l3) (va_cwS 2 hts gX12_shook_X12_isOf rfl rfl rfl (by decide +kernel) ⟨Nat.le_of_ble_eq_true rfl, Nat.le_of_ble_eq_true rfl⟩) (hp_preS hG hw trivial) rfl rfl hl.1 rfl (lv_room (Nat.le_of_ble_eq_true rfl)) dX12_shook_105 ⟨Nat.zero_le _, Nat.zero_le _⟩) (fun x105 bx105 => ?_)
                          have obx105 := iv_o bx105
                          refine lv_if_eq (tgt := 115) hx hb dX12_shook_108 (by decide) (fun c108 => ?_) (fun c108 => ?_)
                          · have oc108 := congrArg Int32.toInt c108
                            have r108tp : iv x105 0 0 := (iv_both bx105 (iv_eq (show iv 0 0 0 from ⟨by decide, by decide⟩) c108)).mono (by decide) (by decide)
                            have or108tp := iv_o r108tp
                            refine lv_aload_n hx hb dX12_shook_115 rfl (lv_at hl 0 rfl) ?_
                            refine hp_getA hx hb hts IX12 hown hK hw.1 hp0 rfl 34 (by decide) L415 rfl dX12_shook_116 (fun x116 fx116 => ?_)
                            refine lv_iload_n hx hb dX12_shook_119 rfl (lv_at hl 3 rfl) ?_
                            refine hp_callpi (va_runS (As := [.int x116, .int y54_l3]) (rest := []) ⟨hx, hb, hml, hown, hts⟩ (sX12_isOf l D T x116 y54_l3) (va_cwS 2 hts gX12_shook_X12_isOf rfl rfl rfl (by decide +kernel) ⟨Nat.le_of_ble_eq_true rfl, Nat.le_of_ble_eq_true rfl⟩) (hp_preS hG hw trivial) rfl rfl hl.1 rfl (lv_room (Nat.le_of_ble_eq_true rfl)) dX12_shook_120 ⟨Nat.zero_le _, Nat.zero_le _⟩) (fun x120 bx120 => ?_)
                            have obx120 := iv_o bx120
                            refine lv_if_eq (tgt := 130) hx hb dX12_shook_123 (by decide) (fun c123 => ?_) (fun c123 => ?_)
                            · have oc123 := congrArg Int32.toInt c123
                              have r123tp : iv x120 0 0 := (iv_both bx120 (iv_eq (show iv 0 0 0 from ⟨by decide, by decide⟩) c123)).mono (by decide) (by decide)
                              have or123tp := iv_o r123tp
                              refine lv_iconst (v := 0) hx hb dX12_shook_130 (by decide) ?_
                              exact W.iret (v := 0) hx hb hr (fun t ht hW => ⟨some (.int 0), rfl, ⟨(0 : Int32), rfl, ⟨by rw [ht]; exact hkm, by rw [ht]; exact hon, iv_any _⟩⟩, by rw [ht]; exact hw.1, hw.2.F ht⟩) hw.2.2.2 dX12_shook_131
                            · have oc123 := iv_neq c123
                              have r123fp : iv x120 1 1 := (iv_ne_lo c123 bx120 rfl).mono (by decide) (by decide)
                              have or123fp := iv_o r123fp
                              refine lv_iconst (v := 2) hx hb dX12_shook_126 (by decide) ?_
                              refine lv_goto (tgt := 131) hx hb dX12_shook_127 (by decide) ?_
                              exact W.iret (v := 2) hx hb hr (fun t ht hW => ⟨some (.int 2), rfl, ⟨(2 : Int32), rfl, ⟨by rw [ht]; exact hkm, by rw [ht]; exact hon, iv_any _⟩⟩, by rw [ht]; exact hw.1, hw.2.F ht⟩) hw.2.2.2 dX12_shook_131
                          · have oc108 := iv_neq c108
                            have r108fp : iv x105 1 1 := (iv_ne_lo c108 bx105 rfl).mono (by decide) (by decide)
                            have or108fp := iv_o r108fp
                            refine lv_iconst (v := 1) hx hb dX12_shook_111 (by decide) ?_
                            refine lv_goto (tgt := 131) hx hb dX12_shook_112 (by decide) ?_
                            exact W.iret (v := 1) hx hb hr (fun t ht hW => ⟨some (.int 1), rfl, ⟨(1 : Int32), rfl, ⟨by rw [ht]; exact hkm, by rw [ht]; exact hon, iv_any _⟩⟩, by rw [ht]; exact hw.1, hw.2.F ht⟩) hw.2.2.2 dX12_shook_131
                        · have oc91 := iv_neq c91
                          have hne : ¬ y54_l3.toInt = (k0 : Int) := fun h9 => by have e9 : y54_l3.toInt.toNat = k0 := (by omega); rcases hk1 with ⟨a1, a2⟩ | ⟨a1, a2⟩; (exact c71 (by rw [ux69, e9]; exact a2)); (exact c91 (by rw [ux89, e9]; exact a2))
                          obtain ⟨x94, ex94⟩ : ∃ y : Int32, y = y54_l3 + 1 := ⟨_, rfl⟩
                          have bx94 : iv x94 1 45 := iv_add w54 (show iv 1 1 1 from ⟨by decide, by decide⟩) ex94 (by decide)
                          have qx94 := iv_add_eq w54 (show iv 1 1 1 from ⟨by decide, by decide⟩) ex94 (by decide)
                          have obx94 := iv_o bx94
                          refine lv_iinc (v := x94) (lv' := [(3, .int x94), (0, .ref ap0), (1, .int xp1), (2, .int xp2)]) hx hb dX12_shook_94 hl (k := 3) rfl (by rw [ex94]; rfl) (by decide) rfl (fun ls hl => ?_)
                          refine lv_goto (tgt := 54) hx hb dX12_shook_97 (by decide) ?_
                          exact ih54 x94 (mu_up 1 hmu54 (qx94) (by decide) (show iv x94 0 45 from (bx94.mono (by decide) (by decide))).2) c54_xp1 c54_xp2 (bx94.mono (by decide) (by decide)) c54_x33p0 (show x94.toInt ≤ (k0 : Int) from by have := (bx94).1; have := (bx94).2; have := (w54).1; have := (w54).2; have : (1 : Int32).toInt = 1 := (by decide); omega) H54 locs54 hw hkm hon f_p0_32 hcF hcA hcB _ (lv_sub hl [1, 2, 3, 0] rfl)
              exact J54 _ (0 : Int32) (Nat.lt_succ_self _) r5fpz r13fpz (show iv 0 0 45 from ⟨by decide, by decide⟩) bx33p0 (show 0 ≤ (k0 : Int) from by have : (0 : Int32).toInt = 0 := (by decide); omega) H33 locs33 hw hkm hon fx33p0 hcF hcA hcB _ (lv_sub hl [1, 2, 3, 0] rfl)
            · have oc46 := congrArg Int32.toInt c46
              have r46fp : iv x43 0 0 := (iv_both (iv_any x43) (iv_eq (show iv 0 0 0 from ⟨by decide, by decide⟩) c46)).mono (by decide) (by decide)
              have or46fp := iv_o r46fp
              refine lv_bipush (v := (-2)) hx hb dX12_shook_49 (by decide) ?_
              exact W.iret (v := (-2)) hx hb hr (fun t ht hW => ⟨some (.int (-2)), rfl, ⟨((-2) : Int32), rfl, ⟨by rw [ht]; exact hkm, by rw [ht]; exact hon, iv_any _⟩⟩, by rw [ht]; exact hw.1, hw.2.F ht⟩) hw.2.2.2 dX12_shook_51
          · have oc36 := congrArg Int32.toInt c36
            have r36fp : iv x33 0 0 := (iv_both cx33 (iv_eq (show iv 0 0 0 from ⟨by decide, by decide⟩) c36)).mono (by decide) (by decide)
            have or36fp := iv_o r36fp
            refine lv_bipush (v := (-3)) hx hb dX12_shook_39 (by decide) ?_
            exact W.iret (v := (-3)) hx hb hr (fun t ht hW => ⟨some (.int (-3)), rfl, ⟨((-3) : Int32), rfl, ⟨by rw [ht]; exact hkm, by rw [ht]; exact hon, iv_any _⟩⟩, by rw [ht]; exact hw.1, hw.2.F ht⟩) hw.2.2.2 dX12_shook_41
        · have oc27 := congrArg Int32.toInt c27
          have r27fp : iv x24 0 0 := (iv_both cx24 (iv_eq (show iv 0 0 0 from ⟨by decide, by decide⟩) c27)).mono (by decide) (by decide)
          have or27fp := iv_o r27fp
          refine lv_iconst (v := (-1)) hx hb dX12_shook_30 (by decide) ?_
          exact W.iret (v := (-1)) hx hb hr (fun t ht hW => ⟨some (.int (-1)), rfl, ⟨((-1) : Int32), rfl, ⟨by rw [ht]; exact hkm, by rw [ht]; exact hon, iv_any _⟩⟩, by rw [ht]; exact hw.1, hw.2.F ht⟩) hw.2.2.2 dX12_shook_31
