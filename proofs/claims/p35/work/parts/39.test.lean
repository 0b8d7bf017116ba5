abbrev WX12_clauseHere_t (p : Program) (l : Launch) (e : Env) (s : State) (m : MethodId) (below : List Frame) (meth : Method) (c : Code) (D : hp_D) (T : hp_T) (ap0 : Nat) (xp100 : Int32) (xp101 : Int32) (xp102 : Int32) (xp103 : Int32) (A : Nat → Nat) (Tp : Nat → Value) (H : Heap) (locs : List Loc) (g : JFrame) : Prop := W p l e (headSpec wsX12_clauseHere ({ frames := 4, cells := 0, slots := 0, locals := 92 })).room s m ([.ref ap0] : List Value).toArray below meth c H locs 0 0 (MQ below (hq_e D T (fun v st t => ∃ r : Int32, v = some (.int r) ∧ ((∃ y0 y1 : Int32, hp_km D [(12, 8), (12, 9), (12, 10), (12, 14)] st.heap t.heap ∧ hp_on (fun q => q = ap0 ∨ q = A 5) st.heap t.heap ∧ hp_f D t.heap ap0 12 8 (.int y0) ∧ hp_f D t.heap ap0 12 14 (.int y1) ∧ iv r 0 1 ∧ iv y0 0 400 ∧ iv y1 0 40 ∧ (xp100.toInt ≤ y0.toInt))))) ([.ref ap0] : List Value).toArray s 0 0 (hp_F T)) g
set_option maxHeartbeats 4000000 in
set_option maxRecDepth 100000 in
theorem sX12_clauseHere_t (l : Launch) (D : hp_D) (T : hp_T) (ap0 : Nat) (xp100 : Int32) (xp101 : Int32) (xp102 : Int32) (xp103 : Int32) (A : Nat → Nat) (Gm : moG) (Tp : Nat → Value) (ip0 : isMp T ap0 A Gm Tp) (bp100 : iv xp100 0 400) (bp101 : iv xp101 0 400) (bp102 : iv xp102 6 6) (bp103 : iv xp103 0 40) : Met l yX12_clauseHere wsX12_clauseHere ({ frames := 4, cells := 0, slots := 0, locals := 92 }) (hp_Pc D T [.ref ap0] (fun H => hp_f D H ap0 12 8 (.int xp100) ∧ hp_f D H ap0 12 1 (.int xp101) ∧ hp_f D H ap0 12 11 (.int xp102) ∧ hp_f D H ap0 12 14 (.int xp103))) (hq_e D T (fun v st t => ∃ r : Int32, v = some (.int r) ∧ ((∃ y0 y1 : Int32, hp_km D [(12, 8), (12, 9), (12, 10), (12, 14)] st.heap t.heap ∧ hp_on (fun q => q = ap0 ∨ q = A 5) st.heap t.heap ∧ hp_f D t.heap ap0 12 8 (.int y0) ∧ hp_f D t.heap ap0 12 14 (.int y1) ∧ iv r 0 1 ∧ iv y0 0 400 ∧ iv y1 0 40 ∧ (xp100.toInt ≤ y0.toInt))))) 0 0 (hp_F T) := by
  obtain ⟨gok, tpok, hp0, hp0tape, hp0sign, hp0len, hp0clause, hp0clauses, hp0read, hp0opn, hp0stack, hp0word, hp0said, hp0was, hp0fitting, hp0sums, hp0sort, hp0sumsBy, hp0oneOf, hp0otherOf, hp0kept, hp0images, hp0acts, hp0iUnd, hp0iFor, hp0iX, hp0made⟩ := id ip0
  have hpx := gok.1
  have gsok := gok.2.2.2.2
  have ggd := gok.2.2.2.1
  refine Met.ofW (cc := cX12_clauseHere) (maxL := 3) (ret := (some .boolean)) (by decide) rfl ?_
  intro p e s m args below meth c s₁ B hml hv
  obtain ⟨rfl, hok, hG, hB⟩ := hv
  have hx := B.exec
  have hb := B.bytes
  have hr := B.returns
  have hts := atoms_spec (ws := wsX12_clauseHere) B.pre
  have hown : s.vm.findClass RX12 = some m.cls := findClass_of_methodNamed B.named
  have hlocks := B.notSynchronized
  have hK := hG.1
  have hw : hp_w D T s s.heap [] := hp_w.rf hok
  have IX12 : ∀ w ∈ wsX120, w ∈ wsX12_clauseHere := by decide +kernel
  have L99 := hts (.fieldLink RX12 99 "PalmCensusModel" "next" "I") (by decide +kernel)
  have L153 := hts (.fieldLink RX12 153 "PalmCensusModel" "text" "I") (by decide +kernel)
  have L255 := hts (.fieldLink RX12 255 "PalmCensusModel" "lines" "I") (by decide +kernel)
  have hon : hp_on (fun q => q = ap0 ∨ q = A 5) s.heap s.heap := fun _ _ => rfl
  have k0 : (0 : Int32).toInt = 0 := (by decide)
  have k1 : (1 : Int32).toInt = 1 := (by decide)
  have k4 : (4 : Int32).toInt = 4 := (by decide)
  have k6 : (6 : Int32).toInt = 6 := (by decide)
  have k12 : (12 : Int32).toInt = 12 := (by decide)
  have k40 : (40 : Int32).toInt = 40 := (by decide)
  have obp100 := iv_o bp100
  have obp101 := iv_o bp101
  have obp102 := iv_o bp102
  have obp103 := iv_o bp103
  have hkm : hp_km D [(12, 8), (12, 9), (12, 10), (12, 14)] s.heap s.heap := fun _ _ _ _ h _ => h
  have hl := lv_entry ([.ref ap0]) (n := 3) (Nat.le_of_ble_eq_true rfl)
  rw [lg_entry_eq]
  generalize (lg_sl ([.ref ap0]) ++ List.replicate (3 - (lg_sl ([.ref ap0])).length) Slot.unset).toArray = ls at hl ⊢
  have hl : lv_has ls 3 [(0, .ref ap0)] := hl
  show WX12_clauseHere_t p l e s m below meth c D T ap0 xp100 xp101 xp102 xp103 A Tp s.heap [] (F0 m 0 ls [])
  have obp100 := iv_o bp100
  have obp101 := iv_o bp101
  have obp102 := iv_o bp102
  have obp103 := iv_o bp103
  refine lv_aload_n hx hb dX12_clauseHere_0 rfl (lv_at hl 0 rfl) ?_
  refine hp_callei (va_runV (As := []) (rest := []) ⟨hx, hb, hml, hown, hts⟩ (sX12_see_x l D T ap0 xp100 xp101 A Gm Tp ip0 bp100 bp101) (cwV 0 hts gX12_clauseHere_X12_see rfl rfl rfl (by decide +kernel) ⟨Nat.le_of_ble_eq_true rfl, Nat.le_of_ble_eq_true rfl⟩) (hp_preV hG hw hp0 rfl ⟨hB.1, hB.2.1⟩) rfl rfl hl.1 rfl (lv_room (Nat.le_of_ble_eq_true rfl)) dX12_clauseHere_1 ⟨Nat.zero_le _, Nat.zero_le _⟩) hw (fun x1 st1 t1 H1 locs1 eh1 eg1 bx1 hw => ?_)
  obtain ⟨x1p0, g1, on1, fx1p0, cx1, bx1p0, R1_0, R1_1, R1_2, R1_3⟩ := bx1
  rw [eh1, eg1] at g1 on1
  rw [eg1] at fx1p0
  have hkm := hkm.call g1 (by decide)
  have hon := hon.trans (hp_on.mono on1 (fun q h9 => by rcases h9 with rfl; exact Or.inl rfl))
  have f_p0_1 := g1 _ _ _ _ hB.2.1 (by decide)
  have f_p0_11 := g1 _ _ _ _ hB.2.2.1 (by decide)
  have f_p0_14 := g1 _ _ _ _ hB.2.2.2 (by decide)
  have obx1p0 := iv_o bx1p0
  have ocx1 := iv_o cx1
  refine lv_pop hx hb dX12_clauseHere_4 rfl ?_
  refine lv_aload_n hx hb dX12_clauseHere_5 rfl (lv_at hl 0 rfl) ?_
  refine hp_getf hx hb hts IX12 hown hK fx1p0 rfl (by decide) L99 dX12_clauseHere_6 ?_
  refine lv_istore_n (lv' := [(1, .int x1p0), (0, .ref ap0)]) hx hb dX12_clauseHere_9 rfl hl (by decide) rfl (fun ls hl => ?_)
  refine lv_aload_n hx hb dX12_clauseHere_10 rfl (lv_at hl 1 rfl) ?_
  refine hp_getf hx hb hts IX12 hown hK f_p0_11 rfl (by decide) L153 dX12_clauseHere_11 ?_
  refine lv_bipush (v := 6) hx hb dX12_clauseHere_14 (by decide) ?_
  refine lv_icmp_ne (tgt := 23) hx hb dX12_clauseHere_16 (by decide) (fun c16 => ?_) (fun c16 => ?_)
  · have oc16 := iv_neq c16
    exact iv_abs (iv_ne_lo c16 bp102 rfl) (by decide)
  · have oc16 := congrArg Int32.toInt c16
    refine lv_iconst (v := 1) hx hb dX12_clauseHere_19 (by decide) ?_
    refine lv_goto (tgt := 24) hx hb dX12_clauseHere_20 (by decide) ?_
    refine lv_istore_n (lv' := [(2, .int 1), (1, .int x1p0), (0, .ref ap0)]) hx hb dX12_clauseHere_24 rfl hl (by decide) rfl (fun ls hl => ?_)
    refine lv_iload_n hx hb dX12_clauseHere_25 rfl (lv_at hl 0 rfl) ?_
    refine lv_if_eq (tgt := 39) hx hb dX12_clauseHere_26 (by decide) (fun c26 => ?_) (fun c26 => ?_)
    · have oc26 := congrArg Int32.toInt c26
      exact iv_abs2 c26 (show iv 1 1 1 from ⟨by decide, by decide⟩) (show iv 0 0 0 from ⟨by decide, by decide⟩) (by decide)
    · have oc26 := iv_neq c26
      refine lv_aload_n hx hb dX12_clauseHere_29 rfl (lv_at hl 2 rfl) ?_
      refine hp_callei (va_runV (As := []) (rest := []) ⟨hx, hb, hml, hown, hts⟩ (sX12_isTownWord l D T ap0 x1p0 xp101 A Gm Tp ip0 bx1p0 bp101) (cwV 0 hts gX12_clauseHere_X12_isTownWord rfl rfl rfl (by decide +kernel) ⟨Nat.le_of_ble_eq_true rfl, Nat.le_of_ble_eq_true rfl⟩) (hp_preV hG hw hp0 rfl ⟨fx1p0, f_p0_1⟩) rfl rfl hl.1 rfl (lv_room (Nat.le_of_ble_eq_true rfl)) dX12_clauseHere_30 ⟨Nat.zero_le _, Nat.zero_le _⟩) hw (fun x30 st30 t30 H30 locs30 eh30 eg30 bx30 hw => ?_)
      obtain ⟨x30p0, g30, on30, fx30p0, cx30, bx30p0, R30_0⟩ := bx30
      rw [eh30, eg30] at g30 on30
      rw [eg30] at fx30p0
      have hkm := hkm.call g30 (by decide)
      have hon := hon.trans (hp_on.mono on30 (fun q h9 => by rcases h9 with rfl; exact Or.inl rfl))
      have f_p0_1 := g30 _ _ _ _ f_p0_1 (by decide)
      have f_p0_11 := g30 _ _ _ _ f_p0_11 (by decide)
      have f_p0_14 := g30 _ _ _ _ f_p0_14 (by decide)
      have obx30p0 := iv_o bx30p0
      have ocx30 := iv_o cx30
      refine lv_if_ne (tgt := 56) hx hb dX12_clauseHere_33 (by decide) (fun c33 => ?_) (fun c33 => ?_)
      · have oc33 := iv_neq c33
        have r33tp : iv x30 1 1 := (iv_ne_lo c33 cx30 rfl).mono (by decide) (by decide)
        have or33tp := iv_o r33tp
        refine lv_aload_n hx hb dX12_clauseHere_56 rfl (lv_at hl 2 rfl) ?_
        refine hp_getf hx hb hts IX12 hown hK f_p0_14 rfl (by decide) L255 dX12_clauseHere_57 ?_
        refine lv_iload_n hx hb dX12_clauseHere_60 rfl (lv_at hl 0 rfl) ?_
        refine lv_if_eq (tgt := 69) hx hb dX12_clauseHere_61 (by decide) (fun c61 => ?_) (fun c61 => ?_)
        · have oc61 := congrArg Int32.toInt c61
          exact iv_abs2 c61 (show iv 1 1 1 from ⟨by decide, by decide⟩) (show iv 0 0 0 from ⟨by decide, by decide⟩) (by decide)
        · have oc61 := iv_neq c61
          refine lv_bipush (v := 40) hx hb dX12_clauseHere_64 (by decide) ?_
          refine lv_goto (tgt := 71) hx hb dX12_clauseHere_66 (by decide) ?_
          refine lv_icmp_ne (tgt := 81) hx hb dX12_clauseHere_71 (by decide) (fun c71 => ?_) (fun c71 => ?_)
          · have oc71 := iv_neq c71
            have r71tp : iv xp103 0 39 := (iv_ne_hi c71 bp103 rfl).mono (by decide) (by decide)
            have or71tp := iv_o r71tp
            refine lv_aload_n hx hb dX12_clauseHere_81 rfl (lv_at hl 2 rfl) ?_
            refine lv_dup hx hb dX12_clauseHere_82 rfl ?_
            refine hp_getf hx hb hts IX12 hown hK f_p0_14 rfl (by decide) L255 dX12_clauseHere_83 ?_
            refine lv_iconst (v := 1) hx hb dX12_clauseHere_86 (by decide) ?_
            refine lv_iadd hx hb dX12_clauseHere_87 ?_
            refine lv_topi (fun x87 ex87 => ?_)
            have bx87 : iv x87 1 40 := iv_add r71tp (show iv 1 1 1 from ⟨by decide, by decide⟩) ex87 (by decide)
            have obx87 := iv_o bx87
            have qx87 := iv_add_eq r71tp (show iv 1 1 1 from ⟨by decide, by decide⟩) ex87 (by decide)
            refine hp_putE hx hb hts IX12 tyX12 tyX12_ok nmX12 hown hK hw hp0 rfl 14 (by decide) L255 rfl rfl ⟨_, rfl⟩ rfl rfl dX12_clauseHere_88 (fun H88 locs88 hw f88n g88 on88 => ?_)
            have hon := hon.trans (hp_on.mono (show hp_on (fun q => q = ap0) _ _ from on88) (fun q h9 => by rcases h9 with rfl; exact Or.inl rfl))
            have hkm := hkm.put g88 (by decide)
            have f_p0_1 := g88 _ _ _ _ f_p0_1 (Or.inr ⟨rfl, by decide⟩)
            have f_p0_11 := g88 _ _ _ _ f_p0_11 (Or.inr ⟨rfl, by decide⟩)
            have f_p0_8 := g88 _ _ _ _ fx30p0 (Or.inr ⟨rfl, by decide⟩)
            refine lv_iload_n hx hb dX12_clauseHere_91 rfl (lv_at hl 0 rfl) ?_
            refine lv_if_eq (tgt := 103) hx hb dX12_clauseHere_92 (by decide) (fun c92 => ?_) (fun c92 => ?_)
            · have oc92 := congrArg Int32.toInt c92
              exact iv_abs2 c92 (show iv 1 1 1 from ⟨by decide, by decide⟩) (show iv 0 0 0 from ⟨by decide, by decide⟩) (by decide)
            · have oc92 := iv_neq c92
              refine lv_aload_n hx hb dX12_clauseHere_95 rfl (lv_at hl 2 rfl) ?_
              refine lv_iload_n hx hb dX12_clauseHere_96 rfl (lv_at hl 1 rfl) ?_
              refine hp_callei (va_runV (As := [.int x1p0]) (rest := []) ⟨hx, hb, hml, hown, hts⟩ (sX12_townLineHere l D T ap0 x1p0 x30p0 xp101 A Gm Tp ip0 bx30p0 bp101) (cwV 1 hts gX12_clauseHere_X12_townLineHere rfl rfl rfl (by decide +kernel) ⟨Nat.le_of_ble_eq_true rfl, Nat.le_of_ble_eq_true rfl⟩) (hp_preV hG hw hp0 rfl ⟨f_p0_8, f_p0_1⟩) rfl rfl hl.1 rfl (lv_room (Nat.le_of_ble_eq_true rfl)) dX12_clauseHere_97 ⟨Nat.zero_le _, Nat.zero_le _⟩) hw (fun x97 st97 t97 H97 locs97 eh97 eg97 bx97 hw => ?_)
              obtain ⟨x97p0, g97, on97, fx97p0, cx97, bx97p0, R97_0⟩ := bx97
              rw [eh97, eg97] at g97 on97
              rw [eg97] at fx97p0
              have hkm := hkm.call g97 (by decide)
              have hon := hon.trans on97
              have f_p0_1 := g97 _ _ _ _ f_p0_1 (by decide)
              have f_p0_11 := g97 _ _ _ _ f_p0_11 (by decide)
              have f_p0_14 := g97 _ _ _ _ f88n (by decide)
              have obx97p0 := iv_o bx97p0
              have ocx97 := iv_o cx97
              refine lv_goto (tgt := 107) hx hb dX12_clauseHere_100 (by decide) ?_
              exact W.zret (v := x97) hx hb hr (iv_nz cx97) (fun t ht hW => ⟨some (.int x97), rfl, ⟨x97, rfl, ⟨x97p0, x87, by rw [ht]; exact hkm, by rw [ht]; exact hon, by rw [ht]; exact fx97p0, by rw [ht]; exact f_p0_14, cx97, bx97p0, (bx87.mono (by decide) (by decide)), (by intros; omega)⟩⟩, by rw [ht]; exact hw.1, hw.2.F ht⟩) hw.2.2.2 dX12_clauseHere_107
          · have oc71 := congrArg Int32.toInt c71
            have r71fp : iv xp103 40 40 := (iv_both bp103 (iv_eq (show iv 40 40 40 from ⟨by decide, by decide⟩) c71)).mono (by decide) (by decide)
            have or71fp := iv_o r71fp
            refine lv_aload_n hx hb dX12_clauseHere_74 rfl (lv_at hl 2 rfl) ?_
            refine lv_iconst (v := 4) hx hb dX12_clauseHere_75 (by decide) ?_
            refine lv_iload_n hx hb dX12_clauseHere_76 rfl (lv_at hl 1 rfl) ?_
            refine hp_callei (va_runV (As := [.int 4, .int x1p0]) (rest := []) ⟨hx, hb, hml, hown, hts⟩ (sX12_fails l D T ap0 (4 : Int32) x1p0 A Gm Tp ip0) (cwV 2 hts gX12_clauseHere_X12_fails rfl rfl rfl (by decide +kernel) ⟨Nat.le_of_ble_eq_true rfl, Nat.le_of_ble_eq_true rfl⟩) (hp_preV hG hw hp0 rfl trivial) rfl rfl hl.1 rfl (lv_room (Nat.le_of_ble_eq_true rfl)) dX12_clauseHere_77 ⟨Nat.zero_le _, Nat.zero_le _⟩) hw (fun x77 st77 t77 H77 locs77 eh77 eg77 bx77 hw => ?_)
            obtain ⟨g77, on77, cx77⟩ := bx77
            rw [eh77, eg77] at g77 on77
            have hkm := hkm.call g77 (by decide)
            have hon := hon.trans (hp_on.mono on77 (fun q h9 => by rcases h9 with rfl; exact Or.inl rfl))
            have f_p0_1 := g77 _ _ _ _ f_p0_1 (by decide)
            have f_p0_11 := g77 _ _ _ _ f_p0_11 (by decide)
            have f_p0_14 := g77 _ _ _ _ f_p0_14 (by decide)
            have f_p0_8 := g77 _ _ _ _ fx30p0 (by decide)
            have ocx77 := iv_o cx77
            exact W.zret (v := x77) hx hb hr (iv_nz (cx77.mono (by decide) (by decide))) (fun t ht hW => ⟨some (.int x77), rfl, ⟨x77, rfl, ⟨x30p0, xp103, by rw [ht]; exact hkm, by rw [ht]; exact hon, by rw [ht]; exact f_p0_8, by rw [ht]; exact f_p0_14, (cx77.mono (by decide) (by decide)), bx30p0, (r71fp.mono (by decide) (by decide)), (by intros; omega)⟩⟩, by rw [ht]; exact hw.1, hw.2.F ht⟩) hw.2.2.2 dX12_clauseHere_80
      · have oc33 := congrArg Int32.toInt c33
        have r33fp : iv x30 0 0 := (iv_both cx30 (iv_eq (show iv 0 0 0 from ⟨by decide, by decide⟩) c33)).mono (by decide) (by decide)
        have or33fp := iv_o r33fp
        refine lv_goto (tgt := 49) hx hb dX12_clauseHere_36 (by decide) ?_
        refine lv_aload_n hx hb dX12_clauseHere_49 rfl (lv_at hl 2 rfl) ?_
        refine lv_iconst (v := 0) hx hb dX12_clauseHere_50 (by decide) ?_
        refine lv_iload_n hx hb dX12_clauseHere_51 rfl (lv_at hl 1 rfl) ?_
        refine hp_callei (va_runV (As := [.int 0, .int x1p0]) (rest := []) ⟨hx, hb, hml, hown, hts⟩ (sX12_fails l D T ap0 (0 : Int32) x1p0 A Gm Tp ip0) (cwV 2 hts gX12_clauseHere_X12_fails rfl rfl rfl (by decide +kernel) ⟨Nat.le_of_ble_eq_true rfl, Nat.le_of_ble_eq_true rfl⟩) (hp_preV hG hw hp0 rfl trivial) rfl rfl hl.1 rfl (lv_room (Nat.le_of_ble_eq_true rfl)) dX12_clauseHere_52 ⟨Nat.zero_le _, Nat.zero_le _⟩) hw (fun x52 st52 t52 H52 locs52 eh52 eg52 bx52 hw => ?_)
        obtain ⟨g52, on52, cx52⟩ := bx52
        rw [eh52, eg52] at g52 on52
        have hkm := hkm.call g52 (by decide)
        have hon := hon.trans (hp_on.mono on52 (fun q h9 => by rcases h9 with rfl; exact Or.inl rfl))
        have f_p0_1 := g52 _ _ _ _ f_p0_1 (by decide)
        have f_p0_11 := g52 _ _ _ _ f_p0_11 (by decide)
        have f_p0_14 := g52 _ _ _ _ f_p0_14 (by decide)
        have f_p0_8 := g52 _ _ _ _ fx30p0 (by decide)
        have ocx52 := iv_o cx52
        exact W.zret (v := x52) hx hb hr (iv_nz (cx52.mono (by decide) (by decide))) (fun t ht hW => ⟨some (.int x52), rfl, ⟨x52, rfl, ⟨x30p0, xp103, by rw [ht]; exact hkm, by rw [ht]; exact hon, by rw [ht]; exact f_p0_8, by rw [ht]; exact f_p0_14, (cx52.mono (by decide) (by decide)), bx30p0, bp103, (by intros; omega)⟩⟩, by rw [ht]; exact hw.1, hw.2.F ht⟩) hw.2.2.2 dX12_clauseHere_55
abbrev WX12_clauseHere_r (p : Program) (l : Launch) (e : Env) (s : State) (m : MethodId) (below : List Frame) (meth : Method) (c : Code) (D : hp_D) (T : hp_T) (ap0 : Nat) (xp100 : Int32) (xp101 : Int32) (xp102 : Int32) (xp103 : Int32) (A : Nat → Nat) (Tp : Nat → Value) (H : Heap) (locs : List Loc) (g : JFrame) : Prop := W p l e (headSpec wsX12_clauseHere ({ frames := 10, cells := 0, slots := 0, locals := 219 })).room s m ([.ref ap0] : List Value).toArray below meth c H locs 0 0 (MQ below (hq_e D T (fun v st t => ∃ r : Int32, v = some (.int r) ∧ ((∃ y0 y1 : Int32, hp_km D [(12, 8), (12, 9), (12, 10), (12, 12), (12, 13), (12, 14), (12, 16)] st.heap t.heap ∧ hp_on (fun q => q = ap0 ∨ q = A 1 ∨ q = A 2 ∨ q = A 3 ∨ q = A 4 ∨ q = A 6) st.heap t.heap ∧ hp_f D t.heap ap0 12 8 (.int y0) ∧ hp_f D t.heap ap0 12 14 (.int y1) ∧ iv r 0 1 ∧ iv y0 0 400 ∧ iv y1 0 12 ∧ (xp100.toInt ≤ y0.toInt) ∧ (¬ r.toInt = 0 → rd D t.heap ap0 A xp102 y1.toInt y0.toInt) ∧ (r.toInt = 0 → rdw D t.heap A))))) ([.ref ap0] : List Value).toArray s 0 0 (hp_F T)) g
set_option maxHeartbeats 4000000 in
set_option maxRecDepth 100000 in
theorem sX12_clauseHere_r (l : Launch) (D : hp_D) (T : hp_T) (ap0 : Nat) (xp100 : Int32) (xp101 : Int32) (xp102 : Int32) (xp103 : Int32) (A : Nat → Nat) (Gm : moG) (Tp : Nat → Value) (ip0 : isMp T ap0 A Gm Tp) (bp100 : iv xp100 0 400) (bp101 : iv xp101 0 400) (bp102 : iv xp102 0 5) (bp103 : iv xp103 0 12) : Met l yX12_clauseHere wsX12_clauseHere ({ frames := 10, cells := 0, slots := 0, locals := 219 }) (hp_Pc D T [.ref ap0] (fun H => hp_f D H ap0 12 8 (.int xp100) ∧ hp_f D H ap0 12 1 (.int xp101) ∧ hp_f D H ap0 12 11 (.int xp102) ∧ hp_f D H ap0 12 14 (.int xp103) ∧ rd D H ap0 A xp102 xp103.toInt xp100.toInt)) (hq_e D T (fun v st t => ∃ r : Int32, v = some (.int r) ∧ ((∃ y0 y1 : Int32, hp_km D [(12, 8), (12, 9), (12, 10), (12, 12), (12, 13), (12, 14), (12, 16)] st.heap t.heap ∧ hp_on (fun q => q = ap0 ∨ q = A 1 ∨ q = A 2 ∨ q = A 3 ∨ q = A 4 ∨ q = A 6) st.heap t.heap ∧ hp_f D t.heap ap0 12 8 (.int y0) ∧ hp_f D t.heap ap0 12 14 (.int y1) ∧ iv r 0 1 ∧ iv y0 0 400 ∧ iv y1 0 12 ∧ (xp100.toInt ≤ y0.toInt) ∧ (¬ r.toInt = 0 → rd D t.heap ap0 A xp102 y1.toInt y0.toInt) ∧ (r.toInt = 0 → rdw D t.heap A))))) 0 0 (hp_F T) := by
  obtain ⟨gok, tpok, hp0, hp0tape, hp0sign, hp0len, hp0clause, hp0clauses, hp0read, hp0opn, hp0stack, hp0word, hp0said, hp0was, hp0fitting, hp0sums, hp0sort, hp0sumsBy, hp0oneOf, hp0otherOf, hp0kept, hp0images, hp0acts, hp0iUnd, hp0iFor, hp0iX, hp0made⟩ := id ip0
  have hpx := gok.1
  have gsok := gok.2.2.2.2
  have ggd := gok.2.2.2.1
  refine Met.ofW (cc := cX12_clauseHere) (maxL := 3) (ret := (some .boolean)) (by decide) rfl ?_
  intro p e s m args below meth c s₁ B hml hv
  obtain ⟨rfl, hok, hG, hB⟩ := hv
  have hx := B.exec
  have hb := B.bytes
  have hr := B.returns
  have hts := atoms_spec (ws := wsX12_clauseHere) B.pre
  have hown : s.vm.findClass RX12 = some m.cls := findClass_of_methodNamed B.named
  have hlocks := B.notSynchronized
  have hK := hG.1
  have hw : hp_w D T s s.heap [] := hp_w.rf hok
  have IX12 : ∀ w ∈ wsX120, w ∈ wsX12_clauseHere := by decide +kernel
  have L99 := hts (.fieldLink RX12 99 "PalmCensusModel" "next" "I") (by decide +kernel)
  have L153 := hts (.fieldLink RX12 153 "PalmCensusModel" "text" "I") (by decide +kernel)
  have K253 := hts (.constantLong RX12 253 495672453989) (by decide +kernel)
  have L255 := hts (.fieldLink RX12 255 "PalmCensusModel" "lines" "I") (by decide +kernel)
  have hon : hp_on (fun q => q = ap0 ∨ q = A 1 ∨ q = A 2 ∨ q = A 3 ∨ q = A 4 ∨ q = A 6) s.heap s.heap := fun _ _ => rfl
  have k0 : (0 : Int32).toInt = 0 := (by decide)
  have k1 : (1 : Int32).toInt = 1 := (by decide)
  have k4 : (4 : Int32).toInt = 4 := (by decide)
  have k6 : (6 : Int32).toInt = 6 := (by decide)
  have k12 : (12 : Int32).toInt = 12 := (by decide)
  have k40 : (40 : Int32).toInt = 40 := (by decide)
  have obp100 := iv_o bp100
  have obp101 := iv_o bp101
  have obp102 := iv_o bp102
  have obp103 := iv_o bp103
  have hkm : hp_km D [(12, 8), (12, 9), (12, 10), (12, 12), (12, 13), (12, 14), (12, 16)] s.heap s.heap := fun _ _ _ _ h _ => h
  have hl := lv_entry ([.ref ap0]) (n := 3) (Nat.le_of_ble_eq_true rfl)
  rw [lg_entry_eq]
  generalize (lg_sl ([.ref ap0]) ++ List.replicate (3 - (lg_sl ([.ref ap0])).length) Slot.unset).toArray = ls at hl ⊢
  have hl : lv_has ls 3 [(0, .ref ap0)] := hl
  show WX12_clauseHere_r p l e s m below meth c D T ap0 xp100 xp101 xp102 xp103 A Tp s.heap [] (F0 m 0 ls [])
  have obp100 := iv_o bp100
  have obp101 := iv_o bp101
  have obp102 := iv_o bp102
  have obp103 := iv_o bp103
  refine lv_aload_n hx hb dX12_clauseHere_0 rfl (lv_at hl 0 rfl) ?_
  refine hp_callei (va_runV (As := []) (rest := []) ⟨hx, hb, hml, hown, hts⟩ (sX12_see_x l D T ap0 xp100 xp101 A Gm Tp ip0 bp100 bp101) (cwV 0 hts gX12_clauseHere_X12_see rfl rfl rfl (by decide +kernel) ⟨Nat.le_of_ble_eq_true rfl, Nat.le_of_ble_eq_true rfl⟩) (hp_preV hG hw hp0 rfl ⟨hB.1, hB.2.1⟩) rfl rfl hl.1 rfl (lv_room (Nat.le_of_ble_eq_true rfl)) dX12_clauseHere_1 ⟨Nat.zero_le _, Nat.zero_le _⟩) hw (fun x1 st1 t1 H1 locs1 eh1 eg1 bx1 hw => ?_)
  obtain ⟨x1p0, g1, on1, fx1p0, cx1, bx1p0, R1_0, R1_1, R1_2, R1_3⟩ := bx1
  rw [eh1, eg1] at g1 on1
  rw [eg1] at fx1p0
  have hkm := hkm.call g1 (by decide)
  have hon := hon.trans (hp_on.mono on1 (fun q h9 => by rcases h9 with rfl; exact Or.inl rfl))
  have f_p0_1 := g1 _ _ _ _ hB.2.1 (by decide)
  have f_p0_11 := g1 _ _ _ _ hB.2.2.1 (by decide)
  have f_p0_14 := g1 _ _ _ _ hB.2.2.2.1 (by decide)
  have obx1p0 := iv_o bx1p0
  have ocx1 := iv_o cx1
  have hrd := rd.on hB.2.2.2.2 on1 g1 (fun h9 => hp_ne_ao hp0sign hp0 h9) (fun h9 => hp_ne_ao hp0clause hp0 h9) (fun h9 => hp_ne_ao hp0clauses hp0 h9) (fun h9 => hp_ne_ao hp0len hp0 h9) (by decide)
  refine lv_pop hx hb dX12_clauseHere_4 rfl ?_
  refine lv_aload_n hx hb dX12_clauseHere_5 rfl (lv_at hl 0 rfl) ?_
  refine hp_getf hx hb hts IX12 hown hK fx1p0 rfl (by decide) L99 dX12_clauseHere_6 ?_
  refine lv_istore_n (lv' := [(1, .int x1p0), (0, .ref ap0)]) hx hb dX12_clauseHere_9 rfl hl (by decide) rfl (fun ls hl => ?_)
  refine lv_aload_n hx hb dX12_clauseHere_10 rfl (lv_at hl 1 rfl) ?_
  refine hp_getf hx hb hts IX12 hown hK f_p0_11 rfl (by decide) L153 dX12_clauseHere_11 ?_
  refine lv_bipush (v := 6) hx hb dX12_clauseHere_14 (by decide) ?_
  refine lv_icmp_ne (tgt := 23) hx hb dX12_clauseHere_16 (by decide) (fun c16 => ?_) (fun c16 => ?_)
  · have oc16 := iv_neq c16
    refine lv_iconst (v := 0) hx hb dX12_clauseHere_23 (by decide) ?_
    refine lv_istore_n (lv' := [(2, .int 0), (1, .int x1p0), (0, .ref ap0)]) hx hb dX12_clauseHere_24 rfl hl (by decide) rfl (fun ls hl => ?_)
    refine lv_iload_n hx hb dX12_clauseHere_25 rfl (lv_at hl 0 rfl) ?_
    refine lv_if_eq (tgt := 39) hx hb dX12_clauseHere_26 (by decide) (fun c26 => ?_) (fun c26 => ?_)
    · have oc26 := congrArg Int32.toInt c26
      refine lv_aload_n hx hb dX12_clauseHere_39 rfl (lv_at hl 2 rfl) ?_
      refine lv_ldc2 (v := 495672453989) hx hb hown K253 dX12_clauseHere_40 ?_
      refine hp_callei (va_runV (As := [.long 495672453989]) (rest := []) ⟨hx, hb, hml, hown, hts⟩ (sX12_isWord_x l D T ap0 495672453989 x1p0 xp101 A Gm Tp ip0 bx1p0 bp101) (cwV 1 hts gX12_clauseHere_X12_isWord rfl rfl rfl (by decide +kernel) ⟨Nat.le_of_ble_eq_true rfl, Nat.le_of_ble_eq_true rfl⟩) (hp_preV hG hw hp0 rfl ⟨fx1p0, f_p0_1⟩) rfl rfl hl.1 rfl (lv_room (Nat.le_of_ble_eq_true rfl)) dX12_clauseHere_43 ⟨Nat.zero_le _, Nat.zero_le _⟩) hw (fun x43 st43 t43 H43 locs43 eh43 eg43 bx43 hw => ?_)
      obtain ⟨x43p0, g43, on43, fx43p0, cx43, bx43p0, R43_0, R43_1, R43_2⟩ := bx43
      rw [eh43, eg43] at g43 on43
      rw [eg43] at fx43p0
      have hkm := hkm.call g43 (by decide)
      have hon := hon.trans (hp_on.mono on43 (fun q h9 => by rcases h9 with rfl; exact Or.inl rfl))
      have f_p0_1 := g43 _ _ _ _ f_p0_1 (by decide)
      have f_p0_11 := g43 _ _ _ _ f_p0_11 (by decide)
      have f_p0_14 := g43 _ _ _ _ f_p0_14 (by decide)
      have obx43p0 := iv_o bx43p0
      have ocx43 := iv_o cx43
      have hrd := rd.on hrd on43 g43 (fun h9 => hp_ne_ao hp0sign hp0 h9) (fun h9 => hp_ne_ao hp0clause hp0 h9) (fun h9 => hp_ne_ao hp0clauses hp0 h9) (fun h9 => hp_ne_ao hp0len hp0 h9) (by decide)
      refine lv_if_ne (tgt := 56) hx hb dX12_clauseHere_46 (by decide) (fun c46 => ?_) (fun c46 => ?_)
      · have oc46 := iv_neq c46
        have r46tp : iv x43 1 1 := (iv_ne_lo c46 cx43 rfl).mono (by decide) (by decide)
        have or46tp := iv_o r46tp
        refine lv_aload_n hx hb dX12_clauseHere_56 rfl (lv_at hl 2 rfl) ?_
        refine hp_getf hx hb hts IX12 hown hK f_p0_14 rfl (by decide) L255 dX12_clauseHere_57 ?_
        refine lv_iload_n hx hb dX12_clauseHere_60 rfl (lv_at hl 0 rfl) ?_
        refine lv_if_eq (tgt := 69) hx hb dX12_clauseHere_61 (by decide) (fun c61 => ?_) (fun c61 => ?_)
        · have oc61 := congrArg Int32.toInt c61
          refine lv_bipush (v := 12) hx hb dX12_clauseHere_69 (by decide) ?_
          refine lv_icmp_ne (tgt := 81) hx hb dX12_clauseHere_71 (by decide) (fun c71 => ?_) (fun c71 => ?_)
          · have oc71 := iv_neq c71
            have r71tp : iv xp103 0 11 := (iv_ne_hi c71 bp103 rfl).mono (by decide) (by decide)
            have or71tp := iv_o r71tp
            refine lv_aload_n hx hb dX12_clauseHere_81 rfl (lv_at hl 2 rfl) ?_
            refine lv_dup hx hb dX12_clauseHere_82 rfl ?_
            refine hp_getf hx hb hts IX12 hown hK f_p0_14 rfl (by decide) L255 dX12_clauseHere_83 ?_
            refine lv_iconst (v := 1) hx hb dX12_clauseHere_86 (by decide) ?_
            refine lv_iadd hx hb dX12_clauseHere_87 ?_
            refine lv_topi (fun x87 ex87 => ?_)
            have bx87 : iv x87 1 12 := iv_add r71tp (show iv 1 1 1 from ⟨by decide, by decide⟩) ex87 (by decide)
            have obx87 := iv_o bx87
            have qx87 := iv_add_eq r71tp (show iv 1 1 1 from ⟨by decide, by decide⟩) ex87 (by decide)
            refine hp_putE hx hb hts IX12 tyX12 tyX12_ok nmX12 hown hK hw hp0 rfl 14 (by decide) L255 rfl rfl ⟨_, rfl⟩ rfl rfl dX12_clauseHere_88 (fun H88 locs88 hw f88n g88 on88 => ?_)
            have hon := hon.trans (hp_on.mono (show hp_on (fun q => q = ap0) _ _ from on88) (fun q h9 => by rcases h9 with rfl; exact Or.inl rfl))
            have hrd := rd.put hrd g88 on88 (hp_ne_ao hp0sign hp0) (hp_ne_ao hp0clause hp0) (hp_ne_ao hp0clauses hp0) (hp_ne_ao hp0len hp0) (by decide)
            have hkm := hkm.put g88 (by decide)
            have f_p0_1 := g88 _ _ _ _ f_p0_1 (Or.inr ⟨rfl, by decide⟩)
            have f_p0_11 := g88 _ _ _ _ f_p0_11 (Or.inr ⟨rfl, by decide⟩)
            have f_p0_8 := g88 _ _ _ _ fx43p0 (Or.inr ⟨rfl, by decide⟩)
            refine lv_iload_n hx hb dX12_clauseHere_91 rfl (lv_at hl 0 rfl) ?_
            refine lv_if_eq (tgt := 103) hx hb dX12_clauseHere_92 (by decide) (fun c92 => ?_) (fun c92 => ?_)
            · have oc92 := congrArg Int32.toInt c92
              refine lv_aload_n hx hb dX12_clauseHere_103 rfl (lv_at hl 2 rfl) ?_
              refine hp_callei (va_runV (As := []) (rest := []) ⟨hx, hb, hml, hown, hts⟩ (sX12_isShakeHere l D T ap0 x43p0 xp101 xp102 A Gm Tp ip0 (xp103.toInt) (by omega) bx43p0 bp101 bp102) (cwV 0 hts gX12_clauseHere_X12_isShakeHere rfl rfl rfl (by decide +kernel) ⟨Nat.le_of_ble_eq_true rfl, Nat.le_of_ble_eq_true rfl⟩) (hp_preV hG hw hp0 rfl ⟨f_p0_8, f_p0_1, f_p0_11, (rd.mono hrd (by omega) (by omega))⟩) rfl rfl hl.1 rfl (lv_room (Nat.le_of_ble_eq_true rfl)) dX12_clauseHere_104 ⟨Nat.zero_le _, Nat.zero_le _⟩) hw (fun x104 st104 t104 H104 locs104 eh104 eg104 bx104 hw => ?_)
              obtain ⟨x104p0, g104, on104, fx104p0, cx104, bx104p0, R104_0, R104_1, R104_2⟩ := bx104
              rw [eh104, eg104] at g104 on104
              rw [eg104] at fx104p0
              have hkm := hkm.call g104 (by decide)
              have hon := hon.trans on104
              have f_p0_1 := g104 _ _ _ _ f_p0_1 (by decide)
              have f_p0_11 := g104 _ _ _ _ f_p0_11 (by decide)
              have f_p0_14 := g104 _ _ _ _ f88n (by decide)
              have obx104p0 := iv_o bx104p0
              have ocx104 := iv_o cx104
              exact W.zret (v := x104) hx hb hr (iv_nz cx104) (fun t ht hW => ⟨some (.int x104), rfl, ⟨x104, rfl, ⟨x104p0, x87, by rw [ht]; exact hkm, by rw [ht]; exact hon, by rw [ht]; exact fx104p0, by rw [ht]; exact f_p0_14, cx104, bx104p0, (bx87.mono (by decide) (by decide)), (by intros; omega), (fun h9 => by have h8 := R104_1 h9; rw [eg104] at h8; rw [ht]; exact rd.mono h8 (by omega) (by omega)), (fun h9 => by have h8 := R104_2 h9; rw [eg104] at h8; rw [ht]; exact h8)⟩⟩, by rw [ht]; exact hw.1, hw.2.F ht⟩) hw.2.2.2 dX12_clauseHere_107
            · have oc92 := iv_neq c92
              exact absurd rfl c92
          · have oc71 := congrArg Int32.toInt c71
            have r71fp : iv xp103 12 12 := (iv_both bp103 (iv_eq (show iv 12 12 12 from ⟨by decide, by decide⟩) c71)).mono (by decide) (by decide)
            have or71fp := iv_o r71fp
            refine lv_aload_n hx hb dX12_clauseHere_74 rfl (lv_at hl 2 rfl) ?_
            refine lv_iconst (v := 4) hx hb dX12_clauseHere_75 (by decide) ?_
            refine lv_iload_n hx hb dX12_clauseHere_76 rfl (lv_at hl 1 rfl) ?_
            refine hp_callei (va_runV (As := [.int 4, .int x1p0]) (rest := []) ⟨hx, hb, hml, hown, hts⟩ (sX12_fails l D T ap0 (4 : Int32) x1p0 A Gm Tp ip0) (cwV 2 hts gX12_clauseHere_X12_fails rfl rfl rfl (by decide +kernel) ⟨Nat.le_of_ble_eq_true rfl, Nat.le_of_ble_eq_true rfl⟩) (hp_preV hG hw hp0 rfl trivial) rfl rfl hl.1 rfl (lv_room (Nat.le_of_ble_eq_true rfl)) dX12_clauseHere_77 ⟨Nat.zero_le _, Nat.zero_le _⟩) hw (fun x77 st77 t77 H77 locs77 eh77 eg77 bx77 hw => ?_)
            obtain ⟨g77, on77, cx77⟩ := bx77
            rw [eh77, eg77] at g77 on77
            have hkm := hkm.call g77 (by decide)
            have hon := hon.trans (hp_on.mono on77 (fun q h9 => by rcases h9 with rfl; exact Or.inl rfl))
            have f_p0_1 := g77 _ _ _ _ f_p0_1 (by decide)
            have f_p0_11 := g77 _ _ _ _ f_p0_11 (by decide)
            have f_p0_14 := g77 _ _ _ _ f_p0_14 (by decide)
            have f_p0_8 := g77 _ _ _ _ fx43p0 (by decide)
            have ocx77 := iv_o cx77
            have hrd := rd.on hrd on77 g77 (fun h9 => hp_ne_ao hp0sign hp0 h9) (fun h9 => hp_ne_ao hp0clause hp0 h9) (fun h9 => hp_ne_ao hp0clauses hp0 h9) (fun h9 => hp_ne_ao hp0len hp0 h9) (by decide)
            exact W.zret (v := x77) hx hb hr (iv_nz (cx77.mono (by decide) (by decide))) (fun t ht hW => ⟨some (.int x77), rfl, ⟨x77, rfl, ⟨x43p0, xp103, by rw [ht]; exact hkm, by rw [ht]; exact hon, by rw [ht]; exact f_p0_8, by rw [ht]; exact f_p0_14, (cx77.mono (by decide) (by decide)), bx43p0, (r71fp.mono (by decide) (by decide)), (by intros; omega), (fun h9 => absurd (by omega) h9), (fun _ => by rw [ht]; exact rd.w hrd)⟩⟩, by rw [ht]; exact hw.1, hw.2.F ht⟩) hw.2.2.2 dX12_clauseHere_80
        · have oc61 := iv_neq c61
          exact absurd rfl c61
      · have oc46 := congrArg Int32.toInt c46
        have r46fp : iv x43 0 0 := (iv_both cx43 (iv_eq (show iv 0 0 0 from ⟨by decide, by decide⟩) c46)).mono (by decide) (by decide)
        have or46fp := iv_o r46fp
        refine lv_aload_n hx hb dX12_clauseHere_49 rfl (lv_at hl 2 rfl) ?_
        refine lv_iconst (v := 0) hx hb dX12_clauseHere_50 (by decide) ?_
        refine lv_iload_n hx hb dX12_clauseHere_51 rfl (lv_at hl 1 rfl) ?_
        refine hp_callei (va_runV (As := [.int 0, .int x1p0]) (rest := []) ⟨hx, hb, hml, hown, hts⟩ (sX12_fails l D T ap0 (0 : Int32) x1p0 A Gm Tp ip0) (cwV 2 hts gX12_clauseHere_X12_fails rfl rfl rfl (by decide +kernel) ⟨Nat.le_of_ble_eq_true rfl, Nat.le_of_ble_eq_true rfl⟩) (hp_preV hG hw hp0 rfl trivial) rfl rfl hl.1 rfl (lv_room (Nat.le_of_ble_eq_true rfl)) dX12_clauseHere_52 ⟨Nat.zero_le _, Nat.zero_le _⟩) hw (fun x52 st52 t52 H52 locs52 eh52 eg52 bx52 hw => ?_)
        obtain ⟨g52, on52, cx52⟩ := bx52
        rw [eh52, eg52] at g52 on52
        have hkm := hkm.call g52 (by decide)
        have hon := hon.trans (hp_on.mono on52 (fun q h9 => by rcases h9 with rfl; exact Or.inl rfl))
        have f_p0_1 := g52 _ _ _ _ f_p0_1 (by decide)
        have f_p0_11 := g52 _ _ _ _ f_p0_11 (by decide)
        have f_p0_14 := g52 _ _ _ _ f_p0_14 (by decide)
        have f_p0_8 := g52 _ _ _ _ fx43p0 (by decide)
        have ocx52 := iv_o cx52
        have hrd := rd.on hrd on52 g52 (fun h9 => hp_ne_ao hp0sign hp0 h9) (fun h9 => hp_ne_ao hp0clause hp0 h9) (fun h9 => hp_ne_ao hp0clauses hp0 h9) (fun h9 => hp_ne_ao hp0len hp0 h9) (by decide)
        exact W.zret (v := x52) hx hb hr (iv_nz (cx52.mono (by decide) (by decide))) (fun t ht hW => ⟨some (.int x52), rfl, ⟨x52, rfl, ⟨x43p0, xp103, by rw [ht]; exact hkm, by rw [ht]; exact hon, by rw [ht]; exact f_p0_8, by rw [ht]; exact f_p0_14, (cx52.mono (by decide) (by decide)), bx43p0, bp103, (by intros; omega), (fun h9 => absurd (by omega) h9), (fun _ => by rw [ht]; exact rd.w hrd)⟩⟩, by rw [ht]; exact hw.1, hw.2.F ht⟩) hw.2.2.2 dX12_clauseHere_55
    · have oc26 := iv_neq c26
      exact absurd rfl c26
  · have oc16 := congrArg Int32.toInt c16
    exact iv_abs2 c16 bp102 (show iv 6 6 6 from ⟨by decide, by decide⟩) (by decide)
abbrev WX12_readsAll_t (p : Program) (l : Launch) (e : Env) (s : State) (m : MethodId) (below : List Frame) (meth : Method) (c : Code) (D : hp_D) (T : hp_T) (ap0 : Nat) (xp100 : Int32) (xp101 : Int32) (A : Nat → Nat) (Tp : Nat → Value) (H : Heap) (locs : List Loc) (g : JFrame) : Prop := W p l e (headSpec wsX12_readsAll ({ frames := 5, cells := 0, slots := 0, locals := 114 })).room s m ([.ref ap0] : List Value).toArray below meth c H locs 0 0 (MQ below (hq_e D T (fun v st t => ∃ r : Int32, v = some (.int r) ∧ (hp_km D [(12, 1), (12, 8), (12, 9), (12, 10), (12, 12), (12, 14)] st.heap t.heap ∧ hp_on (fun q => q = ap0 ∨ q = A 2 ∨ q = A 5) st.heap t.heap ∧ iv r 0 1))) ([.ref ap0] : List Value).toArray s 0 0 (hp_F T)) g
set_option maxHeartbeats 4000000 in
set_option maxRecDepth 100000 in
theorem sX12_readsAll_t (l : Launch) (D : hp_D) (T : hp_T) (ap0 : Nat) (xp100 : Int32) (xp101 : Int32) (A : Nat → Nat) (Gm : moG) (Tp : Nat → Value) (ip0 : isMp T ap0 A Gm Tp) (bp100 : iv xp100 0 400) (bp101 : iv xp101 6 6) : Met l yX12_readsAll wsX12_readsAll ({ frames := 5, cells := 0, slots := 0, locals := 114 }) (hp_Pc D T [.ref ap0] (fun H => hp_f D H ap0 12 1 (.int xp100) ∧ hp_f D H ap0 12 11 (.int xp101))) (hq_e D T (fun v st t => ∃ r : Int32, v = some (.int r) ∧ (hp_km D [(12, 1), (12, 8), (12, 9), (12, 10), (12, 12), (12, 14)] st.heap t.heap ∧ hp_on (fun q => q = ap0 ∨ q = A 2 ∨ q = A 5) st.heap t.heap ∧ iv r 0 1))) 0 0 (hp_F T) := by
  obtain ⟨gok, tpok, hp0, hp0tape, hp0sign, hp0len, hp0clause, hp0clauses, hp0read, hp0opn, hp0stack, hp0word, hp0said, hp0was, hp0fitting, hp0sums, hp0sort, hp0sumsBy, hp0oneOf, hp0otherOf, hp0kept, hp0images, hp0acts, hp0iUnd, hp0iFor, hp0iX, hp0made⟩ := id ip0
  have hpx := gok.1
  have gsok := gok.2.2.2.2
  have ggd := gok.2.2.2.1
  refine Met.ofW (cc := cX12_readsAll) (maxL := 2) (ret := (some .boolean)) (by decide) rfl ?_
  intro p e s m args below meth c s₁ B hml hv
  obtain ⟨rfl, hok, hG, hB⟩ := hv
  have hx := B.exec
  have hb := B.bytes
  have hr := B.returns
  have hts := atoms_spec (ws := wsX12_readsAll) B.pre
  have hown : s.vm.findClass RX12 = some m.cls := findClass_of_methodNamed B.named
  have hlocks := B.notSynchronized
  have hK := hG.1
  have hw : hp_w D T s s.heap [] := hp_w.rf hok
  have IX12 : ∀ w ∈ wsX120, w ∈ wsX12_readsAll := by decide +kernel
  have L17 := hts (.fieldLink RX12 17 "PalmCensusModel" "length" "[I") (by decide +kernel)
  have L153 := hts (.fieldLink RX12 153 "PalmCensusModel" "text" "I") (by decide +kernel)
  have L255 := hts (.fieldLink RX12 255 "PalmCensusModel" "lines" "I") (by decide +kernel)
  have L99 := hts (.fieldLink RX12 99 "PalmCensusModel" "next" "I") (by decide +kernel)
  have L96 := hts (.fieldLink RX12 96 "PalmCensusModel" "wrong" "I") (by decide +kernel)
  have L156 := hts (.fieldLink RX12 156 "PalmCensusModel" "made" "I") (by decide +kernel)
  have L89 := hts (.fieldLink RX12 89 "PalmCensusModel" "taped" "I") (by decide +kernel)
  have hon : hp_on (fun q => q = ap0 ∨ q = A 2 ∨ q = A 5) s.heap s.heap := fun _ _ => rfl
  have km1 : ((-1) : Int32).toInt = (-1) := (by decide)
  have k0 : (0 : Int32).toInt = 0 := (by decide)
  have k1 : (1 : Int32).toInt = 1 := (by decide)
  have k59 : (59 : Int32).toInt = 59 := (by decide)
  have obp100 := iv_o bp100
  have obp101 := iv_o bp101
  have hkm : hp_km D [(12, 1), (12, 8), (12, 9), (12, 10), (12, 12), (12, 14)] s.heap s.heap := fun _ _ _ _ h _ => h
  have hl := lv_entry ([.ref ap0]) (n := 2) (Nat.le_of_ble_eq_true rfl)
  rw [lg_entry_eq]
  generalize (lg_sl ([.ref ap0]) ++ List.replicate (2 - (lg_sl ([.ref ap0])).length) Slot.unset).toArray = ls at hl ⊢
  have hl : lv_has ls 2 [(0, .ref ap0)] := hl
  show WX12_readsAll_t p l e s m below meth c D T ap0 xp100 xp101 A Tp s.heap [] (F0 m 0 ls [])
  have obp100 := iv_o bp100
  have obp101 := iv_o bp101
  obtain ⟨x9000op0_14, fx9000op0_14⟩ := hp_opA hw.1 hp0 14 rfl
  obtain ⟨x9000op0_8, bx9000op0_8, fx9000op0_8⟩ := hp_opI hw.1 hp0 8 rfl
  have obx9000op0_8 := iv_o bx9000op0_8
  refine lv_aload_n hx hb dX12_readsAll_0 rfl (lv_at hl 0 rfl) ?_
  refine hp_getr hx hb hts IX12 hown hK hw.1 hp0 rfl 4 (by decide) L17 rfl dX12_readsAll_1 ?_
  refine lv_aload_n hx hb dX12_readsAll_4 rfl (lv_at hl 0 rfl) ?_
  refine hp_getf hx hb hts IX12 hown hK hB.2 rfl (by decide) L153 dX12_readsAll_5 ?_
  refine lv_iconst (v := 0) hx hb dX12_readsAll_8 (by decide) ?_
  refine hp_iastE hx hb hK hw hp0len (vp_iv bp101 (by decide)) ⟨_, rfl, (show iv 0 0 400 from ⟨by decide, by decide⟩)⟩ dX12_readsAll_9 (fun H9 locs9 hw g9 o9 ge9 E9 => ?_)
  have hon := hon.trans (hp_on.mono (show hp_on (fun q => q = A 2) _ _ from o9) (fun q h9 => by subst h9; exact Or.inr (Or.inl rfl)))
  have hkm := hkm.ar g9
  have f_p0_1 := g9 _ _ _ _ hB.1
  have f_p0_11 := g9 _ _ _ _ hB.2
  have f_p0_14 := g9 _ _ _ _ fx9000op0_14
  have f_p0_8 := g9 _ _ _ _ fx9000op0_8
  refine lv_aload_n hx hb dX12_readsAll_10 rfl (lv_at hl 0 rfl) ?_
  refine lv_iconst (v := 0) hx hb dX12_readsAll_11 (by decide) ?_
  refine hp_putE hx hb hts IX12 tyX12 tyX12_ok nmX12 hown hK hw hp0 rfl 14 (by decide) L255 rfl rfl ⟨_, rfl⟩ rfl rfl dX12_readsAll_12 (fun H12 locs12 hw f12n g12 on12 => ?_)
  have hon := hon.trans (hp_on.mono (show hp_on (fun q => q = ap0) _ _ from on12) (fun q h9 => by rcases h9 with rfl; exact Or.inl rfl))
  have hkm := hkm.put g12 (by decide)
  have f_p0_1 := g12 _ _ _ _ f_p0_1 (Or.inr ⟨rfl, by decide⟩)
  have f_p0_11 := g12 _ _ _ _ f_p0_11 (Or.inr ⟨rfl, by decide⟩)
  have f_p0_8 := g12 _ _ _ _ f_p0_8 (Or.inr ⟨rfl, by decide⟩)
  refine lv_aload_n hx hb dX12_readsAll_15 rfl (lv_at hl 0 rfl) ?_
  refine lv_iconst (v := 0) hx hb dX12_readsAll_16 (by decide) ?_
  refine hp_putE hx hb hts IX12 tyX12 tyX12_ok nmX12 hown hK hw hp0 rfl 8 (by decide) L99 rfl rfl ⟨_, rfl, (show iv 0 0 400 from ⟨by decide, by decide⟩)⟩ rfl rfl dX12_readsAll_17 (fun H17 locs17 hw f17n g17 on17 => ?_)
  have hon := hon.trans (hp_on.mono (show hp_on (fun q => q = ap0) _ _ from on17) (fun q h9 => by rcases h9 with rfl; exact Or.inl rfl))
  have hkm := hkm.put g17 (by decide)
  have f_p0_1 := g17 _ _ _ _ f_p0_1 (Or.inr ⟨rfl, by decide⟩)
  have f_p0_11 := g17 _ _ _ _ f_p0_11 (Or.inr ⟨rfl, by decide⟩)
  have f_p0_14 := g17 _ _ _ _ f12n (Or.inr ⟨rfl, by decide⟩)
  refine lv_aload_n hx hb dX12_readsAll_20 rfl (lv_at hl 0 rfl) ?_
  refine lv_iconst (v := 0) hx hb dX12_readsAll_21 (by decide) ?_
  refine hp_putE hx hb hts IX12 tyX12 tyX12_ok nmX12 hown hK hw hp0 rfl 9 (by decide) L96 rfl rfl ⟨_, rfl⟩ rfl rfl dX12_readsAll_22 (fun H22 locs22 hw f22n g22 on22 => ?_)
  have hon := hon.trans (hp_on.mono (show hp_on (fun q => q = ap0) _ _ from on22) (fun q h9 => by rcases h9 with rfl; exact Or.inl rfl))
  have hkm := hkm.put g22 (by decide)
  have f_p0_1 := g22 _ _ _ _ f_p0_1 (Or.inr ⟨rfl, by decide⟩)
  have f_p0_11 := g22 _ _ _ _ f_p0_11 (Or.inr ⟨rfl, by decide⟩)
  have f_p0_14 := g22 _ _ _ _ f_p0_14 (Or.inr ⟨rfl, by decide⟩)
  have f_p0_8 := g22 _ _ _ _ f17n (Or.inr ⟨rfl, by decide⟩)
  refine lv_aload_n hx hb dX12_readsAll_25 rfl (lv_at hl 0 rfl) ?_
  refine lv_iconst (v := 0) hx hb dX12_readsAll_26 (by decide) ?_
  refine hp_putE hx hb hts IX12 tyX12 tyX12_ok nmX12 hown hK hw hp0 rfl 12 (by decide) L156 rfl rfl ⟨_, rfl⟩ rfl rfl dX12_readsAll_27 (fun H27 locs27 hw f27n g27 on27 => ?_)
  have hon := hon.trans (hp_on.mono (show hp_on (fun q => q = ap0) _ _ from on27) (fun q h9 => by rcases h9 with rfl; exact Or.inl rfl))
  have hkm := hkm.put g27 (by decide)
  have f_p0_1 := g27 _ _ _ _ f_p0_1 (Or.inr ⟨rfl, by decide⟩)
  have f_p0_11 := g27 _ _ _ _ f_p0_11 (Or.inr ⟨rfl, by decide⟩)
  have f_p0_14 := g27 _ _ _ _ f_p0_14 (Or.inr ⟨rfl, by decide⟩)
  have f_p0_8 := g27 _ _ _ _ f_p0_8 (Or.inr ⟨rfl, by decide⟩)
  have f_p0_9 := g27 _ _ _ _ f22n (Or.inr ⟨rfl, by decide⟩)
  refine lv_aload_n hx hb dX12_readsAll_30 rfl (lv_at hl 0 rfl) ?_
  refine hp_callei (va_runV (As := []) (rest := []) ⟨hx, hb, hml, hown, hts⟩ (sX12_clauseHere_t l D T ap0 (0 : Int32) xp100 xp101 (0 : Int32) A Gm Tp ip0 (show iv 0 0 400 from ⟨by decide, by decide⟩) bp100 bp101 (show iv 0 0 40 from ⟨by decide, by decide⟩)) (cwV 0 hts gX12_readsAll_X12_clauseHere rfl rfl rfl (by decide +kernel) ⟨Nat.le_of_ble_eq_true rfl, Nat.le_of_ble_eq_true rfl⟩) (hp_preV hG hw hp0 rfl ⟨f_p0_8, f_p0_1, f_p0_11, f_p0_14⟩) rfl rfl hl.1 rfl (lv_room (Nat.le_of_ble_eq_true rfl)) dX12_readsAll_31 ⟨Nat.zero_le _, Nat.zero_le _⟩) hw (fun x31 st31 t31 H31 locs31 eh31 eg31 bx31 hw => ?_)
  obtain ⟨x31p0, x31p1, g31, on31, fx31p0, fx31p1, cx31, bx31p0, bx31p1, R31_0⟩ := bx31
  rw [eh31, eg31] at g31 on31
  rw [eg31] at fx31p0
  rw [eg31] at fx31p1
  have hkm := hkm.call g31 (by decide)
  have hon := hon.trans (hp_on.mono on31 (fun q h9 => by rcases h9 with rfl | rfl; (exact Or.inl rfl); (exact Or.inr (Or.inr (rfl)))))
  have f_p0_1 := g31 _ _ _ _ f_p0_1 (by decide)
  have f_p0_11 := g31 _ _ _ _ f_p0_11 (by decide)
  have f_p0_12 := g31 _ _ _ _ f27n (by decide)
  have obx31p0 := iv_o bx31p0
  have obx31p1 := iv_o bx31p1
  have ocx31 := iv_o cx31
  refine lv_istore_n (lv' := [(1, .int x31), (0, .ref ap0)]) hx hb dX12_readsAll_34 rfl hl (by decide) rfl (fun ls hl => ?_)
  have J35 : ∀ (n : Nat) (y35_l1 y35_fp0_14 y35_fp0_8 : Int32), (400 - y35_fp0_8.toInt).toNat < n → iv y35_l1 0 1 → iv xp100 0 400 → iv xp101 6 6 → iv y35_fp0_14 0 40 → iv y35_fp0_8 0 400 → ∀ (H : Heap) (locs : List Loc), hp_w D T s H locs → hp_km D [(12, 1), (12, 8), (12, 9), (12, 10), (12, 12), (12, 14)] s.heap H → hp_on (fun q => q = ap0 ∨ q = A 2 ∨ q = A 5) s.heap H → hp_f D H ap0 12 1 (.int xp100) → hp_f D H ap0 12 11 (.int xp101) → hp_f D H ap0 12 12 (.int 0) → hp_f D H ap0 12 14 (.int y35_fp0_14) → hp_f D H ap0 12 8 (.int y35_fp0_8) → ∀ (ls : Array Slot), lv_has ls 2 [(0, .ref ap0), (1, .int y35_l1)] → WX12_readsAll_t p l e s m below meth c D T ap0 xp100 xp101 A Tp H locs (F0 m 35 ls []) := by
    intro n
    induction n with
    | zero => intro y35_l1 y35_fp0_14 y35_fp0_8 hmu35 c35_y35_l1 c35_xp100 c35_xp101 c35_y35_fp0_14 c35_y35_fp0_8 H35 locs35 hw hkm hon f_p0_1 f_p0_11 f_p0_12 f_p0_14 f_p0_8 ls hl; exact absurd hmu35 (Nat.not_lt_zero _)
    | succ n ih35 =>
      intro y35_l1 y35_fp0_14 y35_fp0_8 hmu35 c35_y35_l1 c35_xp100 c35_xp101 c35_y35_fp0_14 c35_y35_fp0_8 H35 locs35 hw hkm hon f_p0_1 f_p0_11 f_p0_12 f_p0_14 f_p0_8 ls hl
      have oc35_y35_l1 := iv_o c35_y35_l1
      have oc35_xp100 := iv_o c35_xp100
      have oc35_xp101 := iv_o c35_xp101
      have oc35_y35_fp0_14 := iv_o c35_y35_fp0_14
      have oc35_y35_fp0_8 := iv_o c35_y35_fp0_8
      refine lv_iload_n hx hb dX12_readsAll_35 rfl (lv_at hl 1 rfl) ?_
      refine lv_if_eq (tgt := 66) hx hb dX12_readsAll_36 (by decide) (fun c36 => ?_) (fun c36 => ?_)
      · have oc36 := congrArg Int32.toInt c36
        have r36tp : iv y35_l1 0 0 := (iv_both c35_y35_l1 (iv_eq (show iv 0 0 0 from ⟨by decide, by decide⟩) c36)).mono (by decide) (by decide)
        have or36tp := iv_o r36tp
        refine lv_iload_n hx hb dX12_readsAll_66 rfl (lv_at hl 1 rfl) ?_
        refine lv_if_eq (tgt := 88) hx hb dX12_readsAll_67 (by decide) (fun c67 => ?_) (fun c67 => ?_)
        · have oc67 := congrArg Int32.toInt c67
          refine lv_aload_n hx hb dX12_readsAll_88 rfl (lv_at hl 0 rfl) ?_
          refine lv_iconst (v := 0) hx hb dX12_readsAll_89 (by decide) ?_
          refine hp_putE hx hb hts IX12 tyX12 tyX12_ok nmX12 hown hK hw hp0 rfl 1 (by decide) L89 rfl rfl ⟨_, rfl, (show iv 0 0 400 from ⟨by decide, by decide⟩)⟩ rfl rfl dX12_readsAll_90 (fun H90 locs90 hw f90n g90 on90 => ?_)
          have hon := hon.trans (hp_on.mono (show hp_on (fun q => q = ap0) _ _ from on90) (fun q h9 => by rcases h9 with rfl; exact Or.inl rfl))
          have hkm := hkm.put g90 (by decide)
          have f_p0_11 := g90 _ _ _ _ f_p0_11 (Or.inr ⟨rfl, by decide⟩)
          have f_p0_12 := g90 _ _ _ _ f_p0_12 (Or.inr ⟨rfl, by decide⟩)
          have f_p0_8 := g90 _ _ _ _ f_p0_8 (Or.inr ⟨rfl, by decide⟩)
          have f_p0_14 := g90 _ _ _ _ f_p0_14 (Or.inr ⟨rfl, by decide⟩)
          refine lv_aload_n hx hb dX12_readsAll_93 rfl (lv_at hl 0 rfl) ?_
          refine hp_getA hx hb hts IX12 hown hK hw.1 hp0 rfl 9 (by decide) L96 rfl dX12_readsAll_94 (fun x94 fx94 => ?_)
          refine lv_if_ne (tgt := 104) hx hb dX12_readsAll_97 (by decide) (fun c97 => ?_) (fun c97 => ?_)
          · have oc97 := iv_neq c97
            refine lv_iconst (v := 0) hx hb dX12_readsAll_104 (by decide) ?_
            exact W.zret (v := 0) hx hb hr (iv_nz (show iv 0 0 1 from ⟨by decide, by decide⟩)) (fun t ht hW => ⟨some (.int 0), rfl, ⟨(0 : Int32), rfl, ⟨by rw [ht]; exact hkm, by rw [ht]; exact hon, (show iv 0 0 1 from ⟨by decide, by decide⟩)⟩⟩, by rw [ht]; exact hw.1, hw.2.F ht⟩) hw.2.2.2 dX12_readsAll_105
          · have oc97 := congrArg Int32.toInt c97
            have r97fp : iv x94 0 0 := (iv_both (iv_any x94) (iv_eq (show iv 0 0 0 from ⟨by decide, by decide⟩) c97)).mono (by decide) (by decide)
            have or97fp := iv_o r97fp
            refine lv_iconst (v := 1) hx hb dX12_readsAll_100 (by decide) ?_
            refine lv_goto (tgt := 105) hx hb dX12_readsAll_101 (by decide) ?_
            exact W.zret (v := 1) hx hb hr (iv_nz (show iv 1 0 1 from ⟨by decide, by decide⟩)) (fun t ht hW => ⟨some (.int 1), rfl, ⟨(1 : Int32), rfl, ⟨by rw [ht]; exact hkm, by rw [ht]; exact hon, (show iv 1 0 1 from ⟨by decide, by decide⟩)⟩⟩, by rw [ht]; exact hw.1, hw.2.F ht⟩) hw.2.2.2 dX12_readsAll_105
        · have oc67 := iv_neq c67
          exact iv_abs (iv_ne_lo c67 r36tp rfl) (by decide)
      · have oc36 := iv_neq c36
        have r36fp : iv y35_l1 1 1 := (iv_ne_lo c36 c35_y35_l1 rfl).mono (by decide) (by decide)
        have or36fp := iv_o r36fp
        refine lv_aload_n hx hb dX12_readsAll_39 rfl (lv_at hl 0 rfl) ?_
        refine hp_callei (va_runV (As := []) (rest := []) ⟨hx, hb, hml, hown, hts⟩ (sX12_see_x l D T ap0 y35_fp0_8 xp100 A Gm Tp ip0 c35_y35_fp0_8 c35_xp100) (cwV 0 hts gX12_readsAll_X12_see rfl rfl rfl (by decide +kernel) ⟨Nat.le_of_ble_eq_true rfl, Nat.le_of_ble_eq_true rfl⟩) (hp_preV hG hw hp0 rfl ⟨f_p0_8, f_p0_1⟩) rfl rfl hl.1 rfl (lv_room (Nat.le_of_ble_eq_true rfl)) dX12_readsAll_40 ⟨Nat.zero_le _, Nat.zero_le _⟩) hw (fun x40 st40 t40 H40 locs40 eh40 eg40 bx40 hw => ?_)
        obtain ⟨x40p0, g40, on40, fx40p0, cx40, bx40p0, R40_0, R40_1, R40_2, R40_3⟩ := bx40
        rw [eh40, eg40] at g40 on40
        rw [eg40] at fx40p0
        have hkm := hkm.call g40 (by decide)
        have hon := hon.trans (hp_on.mono on40 (fun q h9 => by rcases h9 with rfl; exact Or.inl rfl))
        have f_p0_1 := g40 _ _ _ _ f_p0_1 (by decide)
        have f_p0_11 := g40 _ _ _ _ f_p0_11 (by decide)
        have f_p0_12 := g40 _ _ _ _ f_p0_12 (by decide)
        have f_p0_14 := g40 _ _ _ _ f_p0_14 (by decide)
        have obx40p0 := iv_o bx40p0
        have ocx40 := iv_o cx40
        refine lv_bipush (v := 59) hx hb dX12_readsAll_43 (by decide) ?_
        refine lv_icmp_ne (tgt := 66) hx hb dX12_readsAll_45 (by decide) (fun c45 => ?_) (fun c45 => ?_)
        · have oc45 := iv_neq c45
          refine lv_iload_n hx hb dX12_readsAll_66 rfl (lv_at hl 1 rfl) ?_
          refine lv_if_eq (tgt := 88) hx hb dX12_readsAll_67 (by decide) (fun c67 => ?_) (fun c67 => ?_)
          · have oc67 := congrArg Int32.toInt c67
            exact iv_abs2 c67 r36fp (show iv 0 0 0 from ⟨by decide, by decide⟩) (by decide)
          · have oc67 := iv_neq c67
            refine lv_aload_n hx hb dX12_readsAll_70 rfl (lv_at hl 0 rfl) ?_
            refine hp_callei (va_runV (As := []) (rest := []) ⟨hx, hb, hml, hown, hts⟩ (sX12_see_x l D T ap0 x40p0 xp100 A Gm Tp ip0 bx40p0 c35_xp100) (cwV 0 hts gX12_readsAll_X12_see rfl rfl rfl (by decide +kernel) ⟨Nat.le_of_ble_eq_true rfl, Nat.le_of_ble_eq_true rfl⟩) (hp_preV hG hw hp0 rfl ⟨fx40p0, f_p0_1⟩) rfl rfl hl.1 rfl (lv_room (Nat.le_of_ble_eq_true rfl)) dX12_readsAll_71 ⟨Nat.zero_le _, Nat.zero_le _⟩) hw (fun x71 st71 t71 H71 locs71 eh71 eg71 bx71 hw => ?_)
            obtain ⟨x71p0, g71, on71, fx71p0, cx71, bx71p0, R71_0, R71_1, R71_2, R71_3⟩ := bx71
            rw [eh71, eg71] at g71 on71
            rw [eg71] at fx71p0
            have hkm := hkm.call g71 (by decide)
            have hon := hon.trans (hp_on.mono on71 (fun q h9 => by rcases h9 with rfl; exact Or.inl rfl))
            have f_p0_1 := g71 _ _ _ _ f_p0_1 (by decide)
            have f_p0_11 := g71 _ _ _ _ f_p0_11 (by decide)
            have f_p0_12 := g71 _ _ _ _ f_p0_12 (by decide)
            have f_p0_14 := g71 _ _ _ _ f_p0_14 (by decide)
            have obx71p0 := iv_o bx71p0
            have ocx71 := iv_o cx71
            refine lv_iconst (v := (-1)) hx hb dX12_readsAll_74 (by decide) ?_
            refine lv_icmp_eq (tgt := 88) hx hb dX12_readsAll_75 (by decide) (fun c75 => ?_) (fun c75 => ?_)
            · have oc75 := congrArg Int32.toInt c75
              have r75tp : iv x71 (-1) (-1) := (iv_both cx71 (iv_eq (show iv (-1) (-1) (-1) from ⟨by decide, by decide⟩) c75)).mono (by decide) (by decide)
              have or75tp := iv_o r75tp
              refine lv_aload_n hx hb dX12_readsAll_88 rfl (lv_at hl 0 rfl) ?_
              refine lv_iconst (v := 0) hx hb dX12_readsAll_89 (by decide) ?_
              refine hp_putE hx hb hts IX12 tyX12 tyX12_ok nmX12 hown hK hw hp0 rfl 1 (by decide) L89 rfl rfl ⟨_, rfl, (show iv 0 0 400 from ⟨by decide, by decide⟩)⟩ rfl rfl dX12_readsAll_90 (fun H90 locs90 hw f90n g90 on90 => ?_)
              have hon := hon.trans (hp_on.mono (show hp_on (fun q => q = ap0) _ _ from on90) (fun q h9 => by rcases h9 with rfl; exact Or.inl rfl))
              have hkm := hkm.put g90 (by decide)
              have f_p0_11 := g90 _ _ _ _ f_p0_11 (Or.inr ⟨rfl, by decide⟩)
              have f_p0_12 := g90 _ _ _ _ f_p0_12 (Or.inr ⟨rfl, by decide⟩)
              have f_p0_14 := g90 _ _ _ _ f_p0_14 (Or.inr ⟨rfl, by decide⟩)
              have f_p0_8 := g90 _ _ _ _ fx71p0 (Or.inr ⟨rfl, by decide⟩)
              refine lv_aload_n hx hb dX12_readsAll_93 rfl (lv_at hl 0 rfl) ?_
              refine hp_getA hx hb hts IX12 hown hK hw.1 hp0 rfl 9 (by decide) L96 rfl dX12_readsAll_94 (fun x94 fx94 => ?_)
              refine lv_if_ne (tgt := 104) hx hb dX12_readsAll_97 (by decide) (fun c97 => ?_) (fun c97 => ?_)
              · have oc97 := iv_neq c97
                refine lv_iconst (v := 0) hx hb dX12_readsAll_104 (by decide) ?_
                exact W.zret (v := 0) hx hb hr (iv_nz (show iv 0 0 1 from ⟨by decide, by decide⟩)) (fun t ht hW => ⟨some (.int 0), rfl, ⟨(0 : Int32), rfl, ⟨by rw [ht]; exact hkm, by rw [ht]; exact hon, (show iv 0 0 1 from ⟨by decide, by decide⟩)⟩⟩, by rw [ht]; exact hw.1, hw.2.F ht⟩) hw.2.2.2 dX12_readsAll_105
              · have oc97 := congrArg Int32.toInt c97
                have r97fp : iv x94 0 0 := (iv_both (iv_any x94) (iv_eq (show iv 0 0 0 from ⟨by decide, by decide⟩) c97)).mono (by decide) (by decide)
                have or97fp := iv_o r97fp
                refine lv_iconst (v := 1) hx hb dX12_readsAll_100 (by decide) ?_
                refine lv_goto (tgt := 105) hx hb dX12_readsAll_101 (by decide) ?_
                exact W.zret (v := 1) hx hb hr (iv_nz (show iv 1 0 1 from ⟨by decide, by decide⟩)) (fun t ht hW => ⟨some (.int 1), rfl, ⟨(1 : Int32), rfl, ⟨by rw [ht]; exact hkm, by rw [ht]; exact hon, (show iv 1 0 1 from ⟨by decide, by decide⟩)⟩⟩, by rw [ht]; exact hw.1, hw.2.F ht⟩) hw.2.2.2 dX12_readsAll_105
            · have oc75 := iv_neq c75
              have r75fp : iv x71 0 255 := (iv_ne_lo c75 cx71 rfl).mono (by decide) (by decide)
              have or75fp := iv_o r75fp
              refine lv_aload_n hx hb dX12_readsAll_78 rfl (lv_at hl 0 rfl) ?_
              refine lv_iconst (v := 0) hx hb dX12_readsAll_79 (by decide) ?_
              refine lv_aload_n hx hb dX12_readsAll_80 rfl (lv_at hl 0 rfl) ?_
              refine hp_getf hx hb hts IX12 hown hK fx71p0 rfl (by decide) L99 dX12_readsAll_81 ?_
              refine hp_callei (va_runV (As := [.int 0, .int x71p0]) (rest := []) ⟨hx, hb, hml, hown, hts⟩ (sX12_fails l D T ap0 (0 : Int32) x71p0 A Gm Tp ip0) (cwV 2 hts gX12_readsAll_X12_fails rfl rfl rfl (by decide +kernel) ⟨Nat.le_of_ble_eq_true rfl, Nat.le_of_ble_eq_true rfl⟩) (hp_preV hG hw hp0 rfl trivial) rfl rfl hl.1 rfl (lv_room (Nat.le_of_ble_eq_true rfl)) dX12_readsAll_84 ⟨Nat.zero_le _, Nat.zero_le _⟩) hw (fun x84 st84 t84 H84 locs84 eh84 eg84 bx84 hw => ?_)
              obtain ⟨g84, on84, cx84⟩ := bx84
              rw [eh84, eg84] at g84 on84
              have hkm := hkm.call g84 (by decide)
              have hon := hon.trans (hp_on.mono on84 (fun q h9 => by rcases h9 with rfl; exact Or.inl rfl))
              have f_p0_1 := g84 _ _ _ _ f_p0_1 (by decide)
              have f_p0_11 := g84 _ _ _ _ f_p0_11 (by decide)
              have f_p0_12 := g84 _ _ _ _ f_p0_12 (by decide)
              have f_p0_14 := g84 _ _ _ _ f_p0_14 (by decide)
              have f_p0_8 := g84 _ _ _ _ fx71p0 (by decide)
              have ocx84 := iv_o cx84
              refine lv_pop hx hb dX12_readsAll_87 rfl ?_
              refine lv_aload_n hx hb dX12_readsAll_88 rfl (lv_at hl 0 rfl) ?_
              refine lv_iconst (v := 0) hx hb dX12_readsAll_89 (by decide) ?_
              refine hp_putE hx hb hts IX12 tyX12 tyX12_ok nmX12 hown hK hw hp0 rfl 1 (by decide) L89 rfl rfl ⟨_, rfl, (show iv 0 0 400 from ⟨by decide, by decide⟩)⟩ rfl rfl dX12_readsAll_90 (fun H90 locs90 hw f90n g90 on90 => ?_)
              have hon := hon.trans (hp_on.mono (show hp_on (fun q => q = ap0) _ _ from on90) (fun q h9 => by rcases h9 with rfl; exact Or.inl rfl))
              have hkm := hkm.put g90 (by decide)
              have f_p0_11 := g90 _ _ _ _ f_p0_11 (Or.inr ⟨rfl, by decide⟩)
              have f_p0_12 := g90 _ _ _ _ f_p0_12 (Or.inr ⟨rfl, by decide⟩)
              have f_p0_14 := g90 _ _ _ _ f_p0_14 (Or.inr ⟨rfl, by decide⟩)
              have f_p0_8 := g90 _ _ _ _ f_p0_8 (Or.inr ⟨rfl, by decide⟩)
              refine lv_aload_n hx hb dX12_readsAll_93 rfl (lv_at hl 0 rfl) ?_
              refine hp_getA hx hb hts IX12 hown hK hw.1 hp0 rfl 9 (by decide) L96 rfl dX12_readsAll_94 (fun x94 fx94 => ?_)
              refine lv_if_ne (tgt := 104) hx hb dX12_readsAll_97 (by decide) (fun c97 => ?_) (fun c97 => ?_)
              · have oc97 := iv_neq c97
                refine lv_iconst (v := 0) hx hb dX12_readsAll_104 (by decide) ?_
                exact W.zret (v := 0) hx hb hr (iv_nz (show iv 0 0 1 from ⟨by decide, by decide⟩)) (fun t ht hW => ⟨some (.int 0), rfl, ⟨(0 : Int32), rfl, ⟨by rw [ht]; exact hkm, by rw [ht]; exact hon, (show iv 0 0 1 from ⟨by decide, by decide⟩)⟩⟩, by rw [ht]; exact hw.1, hw.2.F ht⟩) hw.2.2.2 dX12_readsAll_105
              · have oc97 := congrArg Int32.toInt c97
                have r97fp : iv x94 0 0 := (iv_both (iv_any x94) (iv_eq (show iv 0 0 0 from ⟨by decide, by decide⟩) c97)).mono (by decide) (by decide)
                have or97fp := iv_o r97fp
                refine lv_iconst (v := 1) hx hb dX12_readsAll_100 (by decide) ?_
                refine lv_goto (tgt := 105) hx hb dX12_readsAll_101 (by decide) ?_
                exact W.zret (v := 1) hx hb hr (iv_nz (show iv 1 0 1 from ⟨by decide, by decide⟩)) (fun t ht hW => ⟨some (.int 1), rfl, ⟨(1 : Int32), rfl, ⟨by rw [ht]; exact hkm, by rw [ht]; exact hon, (show iv 1 0 1 from ⟨by decide, by decide⟩)⟩⟩, by rw [ht]; exact hw.1, hw.2.F ht⟩) hw.2.2.2 dX12_readsAll_105
        · have oc45 := congrArg Int32.toInt c45
          have r45fp : iv x40 59 59 := (iv_both cx40 (iv_eq (show iv 59 59 59 from ⟨by decide, by decide⟩) c45)).mono (by decide) (by decide)
          have or45fp := iv_o r45fp
          have w48 : iv x40p0 0 399 := ⟨by omega, by omega⟩
          have ow48 := iv_o w48
          refine lv_aload_n hx hb dX12_readsAll_48 rfl (lv_at hl 0 rfl) ?_
          refine lv_dup hx hb dX12_readsAll_49 rfl ?_
          refine hp_getf hx hb hts IX12 hown hK fx40p0 rfl (by decide) L99 dX12_readsAll_50 ?_
          refine lv_iconst (v := 1) hx hb dX12_readsAll_53 (by decide) ?_
          refine lv_iadd hx hb dX12_readsAll_54 ?_
          refine lv_topi (fun x54 ex54 => ?_)
          have bx54 : iv x54 1 400 := iv_add w48 (show iv 1 1 1 from ⟨by decide, by decide⟩) ex54 (by decide)
          have obx54 := iv_o bx54
          have qx54 := iv_add_eq w48 (show iv 1 1 1 from ⟨by decide, by decide⟩) ex54 (by decide)
          refine hp_putE hx hb hts IX12 tyX12 tyX12_ok nmX12 hown hK hw hp0 rfl 8 (by decide) L99 rfl rfl ⟨_, rfl, (bx54.mono (by decide) (by decide))⟩ rfl rfl dX12_readsAll_55 (fun H55 locs55 hw f55n g55 on55 => ?_)
          have hon := hon.trans (hp_on.mono (show hp_on (fun q => q = ap0) _ _ from on55) (fun q h9 => by rcases h9 with rfl; exact Or.inl rfl))
          have hkm := hkm.put g55 (by decide)
          have f_p0_1 := g55 _ _ _ _ f_p0_1 (Or.inr ⟨rfl, by decide⟩)
          have f_p0_11 := g55 _ _ _ _ f_p0_11 (Or.inr ⟨rfl, by decide⟩)
          have f_p0_12 := g55 _ _ _ _ f_p0_12 (Or.inr ⟨rfl, by decide⟩)
          have f_p0_14 := g55 _ _ _ _ f_p0_14 (Or.inr ⟨rfl, by decide⟩)
          refine lv_aload_n hx hb dX12_readsAll_58 rfl (lv_at hl 0 rfl) ?_
          refine hp_callei (va_runV (As := []) (rest := []) ⟨hx, hb, hml, hown, hts⟩ (sX12_clauseHere_t l D T ap0 x54 xp100 xp101 y35_fp0_14 A Gm Tp ip0 (bx54.mono (by decide) (by decide)) c35_xp100 c35_xp101 c35_y35_fp0_14) (cwV 0 hts gX12_readsAll_X12_clauseHere rfl rfl rfl (by decide +kernel) ⟨Nat.le_of_ble_eq_true rfl, Nat.le_of_ble_eq_true rfl⟩) (hp_preV hG hw hp0 rfl ⟨f55n, f_p0_1, f_p0_11, f_p0_14⟩) rfl rfl hl.1 rfl (lv_room (Nat.le_of_ble_eq_true rfl)) dX12_readsAll_59 ⟨Nat.zero_le _, Nat.zero_le _⟩) hw (fun x59 st59 t59 H59 locs59 eh59 eg59 bx59 hw => ?_)
          obtain ⟨x59p0, x59p1, g59, on59, fx59p0, fx59p1, cx59, bx59p0, bx59p1, R59_0⟩ := bx59
          rw [eh59, eg59] at g59 on59
          rw [eg59] at fx59p0
          rw [eg59] at fx59p1
          have hkm := hkm.call g59 (by decide)
          have hon := hon.trans (hp_on.mono on59 (fun q h9 => by rcases h9 with rfl | rfl; (exact Or.inl rfl); (exact Or.inr (Or.inr (rfl)))))
          have f_p0_1 := g59 _ _ _ _ f_p0_1 (by decide)
          have f_p0_11 := g59 _ _ _ _ f_p0_11 (by decide)
          have f_p0_12 := g59 _ _ _ _ f_p0_12 (by decide)
          have obx59p0 := iv_o bx59p0
          have obx59p1 := iv_o bx59p1
          have ocx59 := iv_o cx59
          refine lv_istore_n (lv' := [(1, .int x59), (0, .ref ap0)]) hx hb dX12_readsAll_62 rfl hl (by decide) rfl (fun ls hl => ?_)
          refine lv_goto (tgt := 35) hx hb dX12_readsAll_63 (by decide) ?_
          exact ih35 x59 x59p1 x59p0 (by omega) cx59 c35_xp100 c35_xp101 bx59p1 bx59p0 H59 locs59 hw hkm hon f_p0_1 f_p0_11 f_p0_12 fx59p1 fx59p0 _ (lv_sub hl [1, 0] rfl)
  exact J35 _ x31 x31p1 x31p0 (Nat.lt_succ_self _) cx31 bp100 bp101 bx31p1 bx31p0 H31 locs31 hw hkm hon f_p0_1 f_p0_11 f_p0_12 fx31p1 fx31p0 _ (lv_sub hl [1, 0] rfl)
abbrev WX12_readsAll_r (p : Program) (l : Launch) (e : Env) (s : State) (m : MethodId) (below : List Frame) (meth : Method) (c : Code) (D : hp_D) (T : hp_T) (ap0 : Nat) (xp100 : Int32) (xp101 : Int32) (A : Nat → Nat) (Tp : Nat → Value) (H : Heap) (locs : List Loc) (g : JFrame) : Prop := W p l e (headSpec wsX12_readsAll ({ frames := 11, cells := 0, slots := 0, locals := 241 })).room s m ([.ref ap0] : List Value).toArray below meth c H locs 0 0 (MQ below (hq_e D T (fun v st t => ∃ r : Int32, v = some (.int r) ∧ (hp_km D [(12, 1), (12, 8), (12, 9), (12, 10), (12, 12), (12, 13), (12, 14), (12, 16)] st.heap t.heap ∧ hp_on (fun q => q = ap0 ∨ q = A 1 ∨ q = A 2 ∨ q = A 3 ∨ q = A 4 ∨ q = A 6) st.heap t.heap ∧ iv r 0 1 ∧ (rdw D t.heap A)))) ([.ref ap0] : List Value).toArray s 0 0 (hp_F T)) g
set_option maxHeartbeats 4000000 in
set_option maxRecDepth 100000 in
theorem sX12_readsAll_r (l : Launch) (D : hp_D) (T : hp_T) (ap0 : Nat) (xp100 : Int32) (xp101 : Int32) (A : Nat → Nat) (Gm : moG) (Tp : Nat → Value) (ip0 : isMp T ap0 A Gm Tp) (bp100 : iv xp100 0 400) (bp101 : iv xp101 0 5) : Met l yX12_readsAll wsX12_readsAll ({ frames := 11, cells := 0, slots := 0, locals := 241 }) (hp_Pc D T [.ref ap0] (fun H => hp_f D H ap0 12 1 (.int xp100) ∧ hp_f D H ap0 12 11 (.int xp101) ∧ rdz D H A xp101)) (hq_e D T (fun v st t => ∃ r : Int32, v = some (.int r) ∧ (hp_km D [(12, 1), (12, 8), (12, 9), (12, 10), (12, 12), (12, 13), (12, 14), (12, 16)] st.heap t.heap ∧ hp_on (fun q => q = ap0 ∨ q = A 1 ∨ q = A 2 ∨ q = A 3 ∨ q = A 4 ∨ q = A 6) st.heap t.heap ∧ iv r 0 1 ∧ (rdw D t.heap A)))) 0 0 (hp_F T) := by
  obtain ⟨gok, tpok, hp0, hp0tape, hp0sign, hp0len, hp0clause, hp0clauses, hp0read, hp0opn, hp0stack, hp0word, hp0said, hp0was, hp0fitting, hp0sums, hp0sort, hp0sumsBy, hp0oneOf, hp0otherOf, hp0kept, hp0images, hp0acts, hp0iUnd, hp0iFor, hp0iX, hp0made⟩ := id ip0
  have hpx := gok.1
  have gsok := gok.2.2.2.2
  have ggd := gok.2.2.2.1
  refine Met.ofW (cc := cX12_readsAll) (maxL := 2) (ret := (some .boolean)) (by decide) rfl ?_
  intro p e s m args below meth c s₁ B hml hv
  obtain ⟨rfl, hok, hG, hB⟩ := hv
  have hx := B.exec
  have hb := B.bytes
  have hr := B.returns
  have hts := atoms_spec (ws := wsX12_readsAll) B.pre
  have hown : s.vm.findClass RX12 = some m.cls := findClass_of_methodNamed B.named
  have hlocks := B.notSynchronized
  have hK := hG.1
  have hw : hp_w D T s s.heap [] := hp_w.rf hok
  have IX12 : ∀ w ∈ wsX120, w ∈ wsX12_readsAll := by decide +kernel
  have L17 := hts (.fieldLink RX12 17 "PalmCensusModel" "length" "[I") (by decide +kernel)
  have L153 := hts (.fieldLink RX12 153 "PalmCensusModel" "text" "I") (by decide +kernel)
  have L255 := hts (.fieldLink RX12 255 "PalmCensusModel" "lines" "I") (by decide +kernel)
  have L99 := hts (.fieldLink RX12 99 "PalmCensusModel" "next" "I") (by decide +kernel)
  have L96 := hts (.fieldLink RX12 96 "PalmCensusModel" "wrong" "I") (by decide +kernel)
  have L156 := hts (.fieldLink RX12 156 "PalmCensusModel" "made" "I") (by decide +kernel)
  have L89 := hts (.fieldLink RX12 89 "PalmCensusModel" "taped" "I") (by decide +kernel)
  have hon : hp_on (fun q => q = ap0 ∨ q = A 1 ∨ q = A 2 ∨ q = A 3 ∨ q = A 4 ∨ q = A 6) s.heap s.heap := fun _ _ => rfl
  have km1 : ((-1) : Int32).toInt = (-1) := (by decide)
  have k0 : (0 : Int32).toInt = 0 := (by decide)
  have k1 : (1 : Int32).toInt = 1 := (by decide)
  have k59 : (59 : Int32).toInt = 59 := (by decide)
  have obp100 := iv_o bp100
  have obp101 := iv_o bp101
  obtain ⟨S0, K0, C0, hcS, hcK, hcC, q1, q2⟩ := hB.2.2
  obtain ⟨N0, hcN⟩ := hp_c.ex hok hp0len (fun j v h9 => rI_int h9)
  have hkm : hp_km D [(12, 1), (12, 8), (12, 9), (12, 10), (12, 12), (12, 13), (12, 14), (12, 16)] s.heap s.heap := fun _ _ _ _ h _ => h
  have hl := lv_entry ([.ref ap0]) (n := 2) (Nat.le_of_ble_eq_true rfl)
  rw [lg_entry_eq]
  generalize (lg_sl ([.ref ap0]) ++ List.replicate (2 - (lg_sl ([.ref ap0])).length) Slot.unset).toArray = ls at hl ⊢
  have hl : lv_has ls 2 [(0, .ref ap0)] := hl
  show WX12_readsAll_r p l e s m below meth c D T ap0 xp100 xp101 A Tp s.heap [] (F0 m 0 ls [])
  have obp100 := iv_o bp100
  have obp101 := iv_o bp101
  obtain ⟨x9000op0_14, fx9000op0_14⟩ := hp_opA hw.1 hp0 14 rfl
  obtain ⟨x9000op0_8, bx9000op0_8, fx9000op0_8⟩ := hp_opI hw.1 hp0 8 rfl
  have obx9000op0_8 := iv_o bx9000op0_8
  refine lv_aload_n hx hb dX12_readsAll_0 rfl (lv_at hl 0 rfl) ?_
  refine hp_getr hx hb hts IX12 hown hK hw.1 hp0 rfl 4 (by decide) L17 rfl dX12_readsAll_1 ?_
  refine lv_aload_n hx hb dX12_readsAll_4 rfl (lv_at hl 0 rfl) ?_
  refine hp_getf hx hb hts IX12 hown hK hB.2.1 rfl (by decide) L153 dX12_readsAll_5 ?_
  refine lv_iconst (v := 0) hx hb dX12_readsAll_8 (by decide) ?_
  refine hp_iastC hx hb hK hw hp0len (vp_iv bp101 (by decide)) ⟨_, rfl, (show iv 0 0 400 from ⟨by decide, by decide⟩)⟩ hcN dX12_readsAll_9 (fun H9 locs9 hw g9 o9 hcN => ?_)
  have hon := hon.trans (hp_on.mono (show hp_on (fun q => q = A 2) _ _ from o9) (fun q h9 => by subst h9; exact Or.inr (Or.inr (Or.inl rfl))))
  have hcS := hp_c.kept hcS (o9 _ (hp_ne_len hp0sign hp0len (by decide)))
  have hcK := hp_c.kept hcK (o9 _ (hp_ne_len hp0clause hp0len (by decide)))
  have hcC := hp_c.kept hcC (o9 _ (hp_ne_len hp0clauses hp0len (by decide)))
  have hcL := hp_c.st hcN (iv_ltn bp101 (by decide))
  have hkm := hkm.ar g9
  have f_p0_1 := g9 _ _ _ _ hB.1
  have f_p0_11 := g9 _ _ _ _ hB.2.1
  have f_p0_14 := g9 _ _ _ _ fx9000op0_14
  have f_p0_8 := g9 _ _ _ _ fx9000op0_8
  refine lv_aload_n hx hb dX12_readsAll_10 rfl (lv_at hl 0 rfl) ?_
  refine lv_iconst (v := 0) hx hb dX12_readsAll_11 (by decide) ?_
  refine hp_putE hx hb hts IX12 tyX12 tyX12_ok nmX12 hown hK hw hp0 rfl 14 (by decide) L255 rfl rfl ⟨_, rfl⟩ rfl rfl dX12_readsAll_12 (fun H12 locs12 hw f12n g12 on12 => ?_)
  have hon := hon.trans (hp_on.mono (show hp_on (fun q => q = ap0) _ _ from on12) (fun q h9 => by rcases h9 with rfl; exact Or.inl rfl))
  have hcS := hp_c.kept hcS (on12 _ (fun h9 => hp_ne_ao hp0sign hp0 h9))
  have hcK := hp_c.kept hcK (on12 _ (fun h9 => hp_ne_ao hp0clause hp0 h9))
  have hcC := hp_c.kept hcC (on12 _ (fun h9 => hp_ne_ao hp0clauses hp0 h9))
  have E12_p0len_0 := hp_et.kept hcL (on12 _ (fun h9 => hp_ne_ao hp0len hp0 h9))
  have hkm := hkm.put g12 (by decide)
  have f_p0_1 := g12 _ _ _ _ f_p0_1 (Or.inr ⟨rfl, by decide⟩)
  have f_p0_11 := g12 _ _ _ _ f_p0_11 (Or.inr ⟨rfl, by decide⟩)
  have f_p0_8 := g12 _ _ _ _ f_p0_8 (Or.inr ⟨rfl, by decide⟩)
  refine lv_aload_n hx hb dX12_readsAll_15 rfl (lv_at hl 0 rfl) ?_
  refine lv_iconst (v := 0) hx hb dX12_readsAll_16 (by decide) ?_
  refine hp_putE hx hb hts IX12 tyX12 tyX12_ok nmX12 hown hK hw hp0 rfl 8 (by decide) L99 rfl rfl ⟨_, rfl, (show iv 0 0 400 from ⟨by decide, by decide⟩)⟩ rfl rfl dX12_readsAll_17 (fun H17 locs17 hw f17n g17 on17 => ?_)
  have hon := hon.trans (hp_on.mono (show hp_on (fun q => q = ap0) _ _ from on17) (fun q h9 => by rcases h9 with rfl; exact Or.inl rfl))
  have hcS := hp_c.kept hcS (on17 _ (fun h9 => hp_ne_ao hp0sign hp0 h9))
  have hcK := hp_c.kept hcK (on17 _ (fun h9 => hp_ne_ao hp0clause hp0 h9))
  have hcC := hp_c.kept hcC (on17 _ (fun h9 => hp_ne_ao hp0clauses hp0 h9))
  have E17_p0len_0 := hp_et.kept E12_p0len_0 (on17 _ (fun h9 => hp_ne_ao hp0len hp0 h9))
  have hkm := hkm.put g17 (by decide)
  have f_p0_1 := g17 _ _ _ _ f_p0_1 (Or.inr ⟨rfl, by decide⟩)
  have f_p0_11 := g17 _ _ _ _ f_p0_11 (Or.inr ⟨rfl, by decide⟩)
  have f_p0_14 := g17 _ _ _ _ f12n (Or.inr ⟨rfl, by decide⟩)
  refine lv_aload_n hx hb dX12_readsAll_20 rfl (lv_at hl 0 rfl) ?_
  refine lv_iconst (v := 0) hx hb dX12_readsAll_21 (by decide) ?_
  refine hp_putE hx hb hts IX12 tyX12 tyX12_ok nmX12 hown hK hw hp0 rfl 9 (by decide) L96 rfl rfl ⟨_, rfl⟩ rfl rfl dX12_readsAll_22 (fun H22 locs22 hw f22n g22 on22 => ?_)
  have hon := hon.trans (hp_on.mono (show hp_on (fun q => q = ap0) _ _ from on22) (fun q h9 => by rcases h9 with rfl; exact Or.inl rfl))
  have hcS := hp_c.kept hcS (on22 _ (fun h9 => hp_ne_ao hp0sign hp0 h9))
  have hcK := hp_c.kept hcK (on22 _ (fun h9 => hp_ne_ao hp0clause hp0 h9))
  have hcC := hp_c.kept hcC (on22 _ (fun h9 => hp_ne_ao hp0clauses hp0 h9))
  have E22_p0len_0 := hp_et.kept E17_p0len_0 (on22 _ (fun h9 => hp_ne_ao hp0len hp0 h9))
  have hkm := hkm.put g22 (by decide)
  have f_p0_1 := g22 _ _ _ _ f_p0_1 (Or.inr ⟨rfl, by decide⟩)
  have f_p0_11 := g22 _ _ _ _ f_p0_11 (Or.inr ⟨rfl, by decide⟩)
  have f_p0_14 := g22 _ _ _ _ f_p0_14 (Or.inr ⟨rfl, by decide⟩)
  have f_p0_8 := g22 _ _ _ _ f17n (Or.inr ⟨rfl, by decide⟩)
  refine lv_aload_n hx hb dX12_readsAll_25 rfl (lv_at hl 0 rfl) ?_
  refine lv_iconst (v := 0) hx hb dX12_readsAll_26 (by decide) ?_
  refine hp_putE hx hb hts IX12 tyX12 tyX12_ok nmX12 hown hK hw hp0 rfl 12 (by decide) L156 rfl rfl ⟨_, rfl⟩ rfl rfl dX12_readsAll_27 (fun H27 locs27 hw f27n g27 on27 => ?_)
  have hon := hon.trans (hp_on.mono (show hp_on (fun q => q = ap0) _ _ from on27) (fun q h9 => by rcases h9 with rfl; exact Or.inl rfl))
  have hcS := hp_c.kept hcS (on27 _ (fun h9 => hp_ne_ao hp0sign hp0 h9))
  have hcK := hp_c.kept hcK (on27 _ (fun h9 => hp_ne_ao hp0clause hp0 h9))
  have hcC := hp_c.kept hcC (on27 _ (fun h9 => hp_ne_ao hp0clauses hp0 h9))
  have E27_p0len_0 := hp_et.kept E22_p0len_0 (on27 _ (fun h9 => hp_ne_ao hp0len hp0 h9))
  have hkm := hkm.put g27 (by decide)
  have f_p0_1 := g27 _ _ _ _ f_p0_1 (Or.inr ⟨rfl, by decide⟩)
  have f_p0_11 := g27 _ _ _ _ f_p0_11 (Or.inr ⟨rfl, by decide⟩)
  have f_p0_14 := g27 _ _ _ _ f_p0_14 (Or.inr ⟨rfl, by decide⟩)
  have f_p0_8 := g27 _ _ _ _ f_p0_8 (Or.inr ⟨rfl, by decide⟩)
  have f_p0_9 := g27 _ _ _ _ f22n (Or.inr ⟨rfl, by decide⟩)
  have hrd : rd D H27 ap0 A xp101 0 0 := rd_0 hcS hcK hcC E27_p0len_0 f27n q1 q2
  refine lv_aload_n hx hb dX12_readsAll_30 rfl (lv_at hl 0 rfl) ?_
  refine hp_callei (va_runV (As := []) (rest := []) ⟨hx, hb, hml, hown, hts⟩ (sX12_clauseHere_r l D T ap0 (0 : Int32) xp100 xp101 (0 : Int32) A Gm Tp ip0 (show iv 0 0 400 from ⟨by decide, by decide⟩) bp100 bp101 (show iv 0 0 12 from ⟨by decide, by decide⟩)) (cwV 0 hts gX12_readsAll_X12_clauseHere rfl rfl rfl (by decide +kernel) ⟨Nat.le_of_ble_eq_true rfl, Nat.le_of_ble_eq_true rfl⟩) (hp_preV hG hw hp0 rfl ⟨f_p0_8, f_p0_1, f_p0_11, f_p0_14, (rd.mono hrd (by omega) (by omega))⟩) rfl rfl hl.1 rfl (lv_room (Nat.le_of_ble_eq_true rfl)) dX12_readsAll_31 ⟨Nat.zero_le _, Nat.zero_le _⟩) hw (fun x31 st31 t31 H31 locs31 eh31 eg31 bx31 hw => ?_)
  obtain ⟨x31p0, x31p1, g31, on31, fx31p0, fx31p1, cx31, bx31p0, bx31p1, R31_0, R31_1, R31_2⟩ := bx31
  rw [eh31, eg31] at g31 on31
  rw [eg31] at fx31p0
  rw [eg31] at fx31p1
  have hkm := hkm.call g31 (by decide)
  have hon := hon.trans on31
  have f_p0_1 := g31 _ _ _ _ f_p0_1 (by decide)
  have f_p0_11 := g31 _ _ _ _ f_p0_11 (by decide)
  have obx31p0 := iv_o bx31p0
  have obx31p1 := iv_o bx31p1
  have ocx31 := iv_o cx31
  refine lv_istore_n (lv' := [(1, .int x31), (0, .ref ap0)]) hx hb dX12_readsAll_34 rfl hl (by decide) rfl (fun ls hl => ?_)
  have J35 : ∀ (n : Nat) (y35_l1 y35_fp0_14 y35_fp0_8 : Int32), (400 - y35_fp0_8.toInt).toNat < n → iv y35_l1 0 1 → iv xp100 0 400 → iv xp101 0 5 → iv y35_fp0_14 0 12 → iv y35_fp0_8 0 400 → ∀ (H : Heap) (locs : List Loc), hp_w D T s H locs → hp_km D [(12, 1), (12, 8), (12, 9), (12, 10), (12, 12), (12, 13), (12, 14), (12, 16)] s.heap H → hp_on (fun q => q = ap0 ∨ q = A 1 ∨ q = A 2 ∨ q = A 3 ∨ q = A 4 ∨ q = A 6) s.heap H → hp_f D H ap0 12 1 (.int xp100) → hp_f D H ap0 12 11 (.int xp101) → hp_f D H ap0 12 14 (.int y35_fp0_14) → hp_f D H ap0 12 8 (.int y35_fp0_8) → ((¬ y35_l1.toInt = 0 → rd D H ap0 A xp101 (y35_fp0_14.toInt) (y35_fp0_8.toInt)) ∧ (y35_l1.toInt = 0 → rdw D H A)) → ∀ (ls : Array Slot), lv_has ls 2 [(0, .ref ap0), (1, .int y35_l1)] → WX12_readsAll_r p l e s m below meth c D T ap0 xp100 xp101 A Tp H locs (F0 m 35 ls []) := by
    intro n
    induction n with
    | zero => intro y35_l1 y35_fp0_14 y35_fp0_8 hmu35 c35_y35_l1 c35_xp100 c35_xp101 c35_y35_fp0_14 c35_y35_fp0_8 H35 locs35 hw hkm hon f_p0_1 f_p0_11 f_p0_14 f_p0_8 hos ls hl; exact absurd hmu35 (Nat.not_lt_zero _)
    | succ n ih35 =>
      intro y35_l1 y35_fp0_14 y35_fp0_8 hmu35 c35_y35_l1 c35_xp100 c35_xp101 c35_y35_fp0_14 c35_y35_fp0_8 H35 locs35 hw hkm hon f_p0_1 f_p0_11 f_p0_14 f_p0_8 hos ls hl
      have oc35_y35_l1 := iv_o c35_y35_l1
      have oc35_xp100 := iv_o c35_xp100
      have oc35_xp101 := iv_o c35_xp101
      have oc35_y35_fp0_14 := iv_o c35_y35_fp0_14
      have oc35_y35_fp0_8 := iv_o c35_y35_fp0_8
      refine lv_iload_n hx hb dX12_readsAll_35 rfl (lv_at hl 1 rfl) ?_
      refine lv_if_eq (tgt := 66) hx hb dX12_readsAll_36 (by decide) (fun c36 => ?_) (fun c36 => ?_)
      · have oc36 := congrArg Int32.toInt c36
        have r36tp : iv y35_l1 0 0 := (iv_both c35_y35_l1 (iv_eq (show iv 0 0 0 from ⟨by decide, by decide⟩) c36)).mono (by decide) (by decide)
        have or36tp := iv_o r36tp
        have hrd := hos.2 (by omega)
        refine lv_iload_n hx hb dX12_readsAll_66 rfl (lv_at hl 1 rfl) ?_
        refine lv_if_eq (tgt := 88) hx hb dX12_readsAll_67 (by decide) (fun c67 => ?_) (fun c67 => ?_)
        · have oc67 := congrArg Int32.toInt c67
          refine lv_aload_n hx hb dX12_readsAll_88 rfl (lv_at hl 0 rfl) ?_
          refine lv_iconst (v := 0) hx hb dX12_readsAll_89 (by decide) ?_
          refine hp_putE hx hb hts IX12 tyX12 tyX12_ok nmX12 hown hK hw hp0 rfl 1 (by decide) L89 rfl rfl ⟨_, rfl, (show iv 0 0 400 from ⟨by decide, by decide⟩)⟩ rfl rfl dX12_readsAll_90 (fun H90 locs90 hw f90n g90 on90 => ?_)
          have hon := hon.trans (hp_on.mono (show hp_on (fun q => q = ap0) _ _ from on90) (fun q h9 => by rcases h9 with rfl; exact Or.inl rfl))
          have hrd := rdw.put hrd on90 (hp_ne_ao hp0sign hp0) (hp_ne_ao hp0clause hp0) (hp_ne_ao hp0clauses hp0)
          have hkm := hkm.put g90 (by decide)
          have f_p0_11 := g90 _ _ _ _ f_p0_11 (Or.inr ⟨rfl, by decide⟩)
          have f_p0_8 := g90 _ _ _ _ f_p0_8 (Or.inr ⟨rfl, by decide⟩)
          have f_p0_14 := g90 _ _ _ _ f_p0_14 (Or.inr ⟨rfl, by decide⟩)
          refine lv_aload_n hx hb dX12_readsAll_93 rfl (lv_at hl 0 rfl) ?_
          refine hp_getA hx hb hts IX12 hown hK hw.1 hp0 rfl 9 (by decide) L96 rfl dX12_readsAll_94 (fun x94 fx94 => ?_)
          refine lv_if_ne (tgt := 104) hx hb dX12_readsAll_97 (by decide) (fun c97 => ?_) (fun c97 => ?_)
          · have oc97 := iv_neq c97
            refine lv_iconst (v := 0) hx hb dX12_readsAll_104 (by decide) ?_
            exact W.zret (v := 0) hx hb hr (iv_nz (show iv 0 0 1 from ⟨by decide, by decide⟩)) (fun t ht hW => ⟨some (.int 0), rfl, ⟨(0 : Int32), rfl, ⟨by rw [ht]; exact hkm, by rw [ht]; exact hon, (show iv 0 0 1 from ⟨by decide, by decide⟩), (by rw [ht]; exact hrd)⟩⟩, by rw [ht]; exact hw.1, hw.2.F ht⟩) hw.2.2.2 dX12_readsAll_105
          · have oc97 := congrArg Int32.toInt c97
            have r97fp : iv x94 0 0 := (iv_both (iv_any x94) (iv_eq (show iv 0 0 0 from ⟨by decide, by decide⟩) c97)).mono (by decide) (by decide)
            have or97fp := iv_o r97fp
            refine lv_iconst (v := 1) hx hb dX12_readsAll_100 (by decide) ?_
            refine lv_goto (tgt := 105) hx hb dX12_readsAll_101 (by decide) ?_
            exact W.zret (v := 1) hx hb hr (iv_nz (show iv 1 0 1 from ⟨by decide, by decide⟩)) (fun t ht hW => ⟨some (.int 1), rfl, ⟨(1 : Int32), rfl, ⟨by rw [ht]; exact hkm, by rw [ht]; exact hon, (show iv 1 0 1 from ⟨by decide, by decide⟩), (by rw [ht]; exact hrd)⟩⟩, by rw [ht]; exact hw.1, hw.2.F ht⟩) hw.2.2.2 dX12_readsAll_105
        · have oc67 := iv_neq c67
          exact iv_abs (iv_ne_lo c67 r36tp rfl) (by decide)
      · have oc36 := iv_neq c36
        have r36fp : iv y35_l1 1 1 := (iv_ne_lo c36 c35_y35_l1 rfl).mono (by decide) (by decide)
        have or36fp := iv_o r36fp
        have hrd := hos.1 (by omega)
        refine lv_aload_n hx hb dX12_readsAll_39 rfl (lv_at hl 0 rfl) ?_
        refine hp_callei (va_runV (As := []) (rest := []) ⟨hx, hb, hml, hown, hts⟩ (sX12_see_x l D T ap0 y35_fp0_8 xp100 A Gm Tp ip0 c35_y35_fp0_8 c35_xp100) (cwV 0 hts gX12_readsAll_X12_see rfl rfl rfl (by decide +kernel) ⟨Nat.le_of_ble_eq_true rfl, Nat.le_of_ble_eq_true rfl⟩) (hp_preV hG hw hp0 rfl ⟨f_p0_8, f_p0_1⟩) rfl rfl hl.1 rfl (lv_room (Nat.le_of_ble_eq_true rfl)) dX12_readsAll_40 ⟨Nat.zero_le _, Nat.zero_le _⟩) hw (fun x40 st40 t40 H40 locs40 eh40 eg40 bx40 hw => ?_)
        obtain ⟨x40p0, g40, on40, fx40p0, cx40, bx40p0, R40_0, R40_1, R40_2, R40_3⟩ := bx40
        rw [eh40, eg40] at g40 on40
        rw [eg40] at fx40p0
        have hkm := hkm.call g40 (by decide)
        have hon := hon.trans (hp_on.mono on40 (fun q h9 => by rcases h9 with rfl; exact Or.inl rfl))
        have f_p0_1 := g40 _ _ _ _ f_p0_1 (by decide)
        have f_p0_11 := g40 _ _ _ _ f_p0_11 (by decide)
        have f_p0_14 := g40 _ _ _ _ f_p0_14 (by decide)
        have obx40p0 := iv_o bx40p0
        have ocx40 := iv_o cx40
        have hrd := rd.on hrd on40 g40 (fun h9 => hp_ne_ao hp0sign hp0 h9) (fun h9 => hp_ne_ao hp0clause hp0 h9) (fun h9 => hp_ne_ao hp0clauses hp0 h9) (fun h9 => hp_ne_ao hp0len hp0 h9) (by decide)
        refine lv_bipush (v := 59) hx hb dX12_readsAll_43 (by decide) ?_
        refine lv_icmp_ne (tgt := 66) hx hb dX12_readsAll_45 (by decide) (fun c45 => ?_) (fun c45 => ?_)
        · have oc45 := iv_neq c45
          refine lv_iload_n hx hb dX12_readsAll_66 rfl (lv_at hl 1 rfl) ?_
          refine lv_if_eq (tgt := 88) hx hb dX12_readsAll_67 (by decide) (fun c67 => ?_) (fun c67 => ?_)
          · have oc67 := congrArg Int32.toInt c67
            exact iv_abs2 c67 r36fp (show iv 0 0 0 from ⟨by decide, by decide⟩) (by decide)
          · have oc67 := iv_neq c67
            refine lv_aload_n hx hb dX12_readsAll_70 rfl (lv_at hl 0 rfl) ?_
            refine hp_callei (va_runV (As := []) (rest := []) ⟨hx, hb, hml, hown, hts⟩ (sX12_see_x l D T ap0 x40p0 xp100 A Gm Tp ip0 bx40p0 c35_xp100) (cwV 0 hts gX12_readsAll_X12_see rfl rfl rfl (by decide +kernel) ⟨Nat.le_of_ble_eq_true rfl, Nat.le_of_ble_eq_true rfl⟩) (hp_preV hG hw hp0 rfl ⟨fx40p0, f_p0_1⟩) rfl rfl hl.1 rfl (lv_room (Nat.le_of_ble_eq_true rfl)) dX12_readsAll_71 ⟨Nat.zero_le _, Nat.zero_le _⟩) hw (fun x71 st71 t71 H71 locs71 eh71 eg71 bx71 hw => ?_)
            obtain ⟨x71p0, g71, on71, fx71p0, cx71, bx71p0, R71_0, R71_1, R71_2, R71_3⟩ := bx71
            rw [eh71, eg71] at g71 on71
            rw [eg71] at fx71p0
            have hkm := hkm.call g71 (by decide)
            have hon := hon.trans (hp_on.mono on71 (fun q h9 => by rcases h9 with rfl; exact Or.inl rfl))
            have f_p0_1 := g71 _ _ _ _ f_p0_1 (by decide)
            have f_p0_11 := g71 _ _ _ _ f_p0_11 (by decide)
            have f_p0_14 := g71 _ _ _ _ f_p0_14 (by decide)
            have obx71p0 := iv_o bx71p0
            have ocx71 := iv_o cx71
            have hrd := rd.on hrd on71 g71 (fun h9 => hp_ne_ao hp0sign hp0 h9) (fun h9 => hp_ne_ao hp0clause hp0 h9) (fun h9 => hp_ne_ao hp0clauses hp0 h9) (fun h9 => hp_ne_ao hp0len hp0 h9) (by decide)
            refine lv_iconst (v := (-1)) hx hb dX12_readsAll_74 (by decide) ?_
            refine lv_icmp_eq (tgt := 88) hx hb dX12_readsAll_75 (by decide) (fun c75 => ?_) (fun c75 => ?_)
            · have oc75 := congrArg Int32.toInt c75
              have r75tp : iv x71 (-1) (-1) := (iv_both cx71 (iv_eq (show iv (-1) (-1) (-1) from ⟨by decide, by decide⟩) c75)).mono (by decide) (by decide)
              have or75tp := iv_o r75tp
              refine lv_aload_n hx hb dX12_readsAll_88 rfl (lv_at hl 0 rfl) ?_
              refine lv_iconst (v := 0) hx hb dX12_readsAll_89 (by decide) ?_
              refine hp_putE hx hb hts IX12 tyX12 tyX12_ok nmX12 hown hK hw hp0 rfl 1 (by decide) L89 rfl rfl ⟨_, rfl, (show iv 0 0 400 from ⟨by decide, by decide⟩)⟩ rfl rfl dX12_readsAll_90 (fun H90 locs90 hw f90n g90 on90 => ?_)
              have hon := hon.trans (hp_on.mono (show hp_on (fun q => q = ap0) _ _ from on90) (fun q h9 => by rcases h9 with rfl; exact Or.inl rfl))
              have hrd := rd.put hrd g90 on90 (hp_ne_ao hp0sign hp0) (hp_ne_ao hp0clause hp0) (hp_ne_ao hp0clauses hp0) (hp_ne_ao hp0len hp0) (by decide)
              have hkm := hkm.put g90 (by decide)
              have f_p0_11 := g90 _ _ _ _ f_p0_11 (Or.inr ⟨rfl, by decide⟩)
              have f_p0_14 := g90 _ _ _ _ f_p0_14 (Or.inr ⟨rfl, by decide⟩)
              have f_p0_8 := g90 _ _ _ _ fx71p0 (Or.inr ⟨rfl, by decide⟩)
              refine lv_aload_n hx hb dX12_readsAll_93 rfl (lv_at hl 0 rfl) ?_
              refine hp_getA hx hb hts IX12 hown hK hw.1 hp0 rfl 9 (by decide) L96 rfl dX12_readsAll_94 (fun x94 fx94 => ?_)
              refine lv_if_ne (tgt := 104) hx hb dX12_readsAll_97 (by decide) (fun c97 => ?_) (fun c97 => ?_)
              · have oc97 := iv_neq c97
                refine lv_iconst (v := 0) hx hb dX12_readsAll_104 (by decide) ?_
                exact W.zret (v := 0) hx hb hr (iv_nz (show iv 0 0 1 from ⟨by decide, by decide⟩)) (fun t ht hW => ⟨some (.int 0), rfl, ⟨(0 : Int32), rfl, ⟨by rw [ht]; exact hkm, by rw [ht]; exact hon, (show iv 0 0 1 from ⟨by decide, by decide⟩), (by rw [ht]; exact rd.w hrd)⟩⟩, by rw [ht]; exact hw.1, hw.2.F ht⟩) hw.2.2.2 dX12_readsAll_105
              · have oc97 := congrArg Int32.toInt c97
                have r97fp : iv x94 0 0 := (iv_both (iv_any x94) (iv_eq (show iv 0 0 0 from ⟨by decide, by decide⟩) c97)).mono (by decide) (by decide)
                have or97fp := iv_o r97fp
                refine lv_iconst (v := 1) hx hb dX12_readsAll_100 (by decide) ?_
                refine lv_goto (tgt := 105) hx hb dX12_readsAll_101 (by decide) ?_
                exact W.zret (v := 1) hx hb hr (iv_nz (show iv 1 0 1 from ⟨by decide, by decide⟩)) (fun t ht hW => ⟨some (.int 1), rfl, ⟨(1 : Int32), rfl, ⟨by rw [ht]; exact hkm, by rw [ht]; exact hon, (show iv 1 0 1 from ⟨by decide, by decide⟩), (by rw [ht]; exact rd.w hrd)⟩⟩, by rw [ht]; exact hw.1, hw.2.F ht⟩) hw.2.2.2 dX12_readsAll_105
            · have oc75 := iv_neq c75
              have r75fp : iv x71 0 255 := (iv_ne_lo c75 cx71 rfl).mono (by decide) (by decide)
              have or75fp := iv_o r75fp
              refine lv_aload_n hx hb dX12_readsAll_78 rfl (lv_at hl 0 rfl) ?_
              refine lv_iconst (v := 0) hx hb dX12_readsAll_79 (by decide) ?_
              refine lv_aload_n hx hb dX12_readsAll_80 rfl (lv_at hl 0 rfl) ?_
              refine hp_getf hx hb hts IX12 hown hK fx71p0 rfl (by decide) L99 dX12_readsAll_81 ?_
              refine hp_callei (va_runV (As := [.int 0, .int x71p0]) (rest := []) ⟨hx, hb, hml, hown, hts⟩ (sX12_fails l D T ap0 (0 : Int32) x71p0 A Gm Tp ip0) (cwV 2 hts gX12_readsAll_X12_fails rfl rfl rfl (by decide +kernel) ⟨Nat.le_of_ble_eq_true rfl, Nat.le_of_ble_eq_true rfl⟩) (hp_preV hG hw hp0 rfl trivial) rfl rfl hl.1 rfl (lv_room (Nat.le_of_ble_eq_true rfl)) dX12_readsAll_84 ⟨Nat.zero_le _, Nat.zero_le _⟩) hw (fun x84 st84 t84 H84 locs84 eh84 eg84 bx84 hw => ?_)
              obtain ⟨g84, on84, cx84⟩ := bx84
              rw [eh84, eg84] at g84 on84
              have hkm := hkm.call g84 (by decide)
              have hon := hon.trans (hp_on.mono on84 (fun q h9 => by rcases h9 with rfl; exact Or.inl rfl))
              have f_p0_1 := g84 _ _ _ _ f_p0_1 (by decide)
              have f_p0_11 := g84 _ _ _ _ f_p0_11 (by decide)
              have f_p0_14 := g84 _ _ _ _ f_p0_14 (by decide)
              have f_p0_8 := g84 _ _ _ _ fx71p0 (by decide)
              have ocx84 := iv_o cx84
              have hrd := rd.on hrd on84 g84 (fun h9 => hp_ne_ao hp0sign hp0 h9) (fun h9 => hp_ne_ao hp0clause hp0 h9) (fun h9 => hp_ne_ao hp0clauses hp0 h9) (fun h9 => hp_ne_ao hp0len hp0 h9) (by decide)
              refine lv_pop hx hb dX12_readsAll_87 rfl ?_
              refine lv_aload_n hx hb dX12_readsAll_88 rfl (lv_at hl 0 rfl) ?_
              refine lv_iconst (v := 0) hx hb dX12_readsAll_89 (by decide) ?_
              refine hp_putE hx hb hts IX12 tyX12 tyX12_ok nmX12 hown hK hw hp0 rfl 1 (by decide) L89 rfl rfl ⟨_, rfl, (show iv 0 0 400 from ⟨by decide, by decide⟩)⟩ rfl rfl dX12_readsAll_90 (fun H90 locs90 hw f90n g90 on90 => ?_)
              have hon := hon.trans (hp_on.mono (show hp_on (fun q => q = ap0) _ _ from on90) (fun q h9 => by rcases h9 with rfl; exact Or.inl rfl))
              have hrd := rd.put hrd g90 on90 (hp_ne_ao hp0sign hp0) (hp_ne_ao hp0clause hp0) (hp_ne_ao hp0clauses hp0) (hp_ne_ao hp0len hp0) (by decide)
              have hkm := hkm.put g90 (by decide)
              have f_p0_11 := g90 _ _ _ _ f_p0_11 (Or.inr ⟨rfl, by decide⟩)
              have f_p0_14 := g90 _ _ _ _ f_p0_14 (Or.inr ⟨rfl, by decide⟩)
              have f_p0_8 := g90 _ _ _ _ f_p0_8 (Or.inr ⟨rfl, by decide⟩)
              refine lv_aload_n hx hb dX12_readsAll_93 rfl (lv_at hl 0 rfl) ?_
              refine hp_getA hx hb hts IX12 hown hK hw.1 hp0 rfl 9 (by decide) L96 rfl dX12_readsAll_94 (fun x94 fx94 => ?_)
              refine lv_if_ne (tgt := 104) hx hb dX12_readsAll_97 (by decide) (fun c97 => ?_) (fun c97 => ?_)
              · have oc97 := iv_neq c97
                refine lv_iconst (v := 0) hx hb dX12_readsAll_104 (by decide) ?_
                exact W.zret (v := 0) hx hb hr (iv_nz (show iv 0 0 1 from ⟨by decide, by decide⟩)) (fun t ht hW => ⟨some (.int 0), rfl, ⟨(0 : Int32), rfl, ⟨by rw [ht]; exact hkm, by rw [ht]; exact hon, (show iv 0 0 1 from ⟨by decide, by decide⟩), (by rw [ht]; exact rd.w hrd)⟩⟩, by rw [ht]; exact hw.1, hw.2.F ht⟩) hw.2.2.2 dX12_readsAll_105
              · have oc97 := congrArg Int32.toInt c97
                have r97fp : iv x94 0 0 := (iv_both (iv_any x94) (iv_eq (show iv 0 0 0 from ⟨by decide, by decide⟩) c97)).mono (by decide) (by decide)
                have or97fp := iv_o r97fp
                refine lv_iconst (v := 1) hx hb dX12_readsAll_100 (by decide) ?_
                refine lv_goto (tgt := 105) hx hb dX12_readsAll_101 (by decide) ?_
                exact W.zret (v := 1) hx hb hr (iv_nz (show iv 1 0 1 from ⟨by decide, by decide⟩)) (fun t ht hW => ⟨some (.int 1), rfl, ⟨(1 : Int32), rfl, ⟨by rw [ht]; exact hkm, by rw [ht]; exact hon, (show iv 1 0 1 from ⟨by decide, by decide⟩), (by rw [ht]; exact rd.w hrd)⟩⟩, by rw [ht]; exact hw.1, hw.2.F ht⟩) hw.2.2.2 dX12_readsAll_105
        · have oc45 := congrArg Int32.toInt c45
          have r45fp : iv x40 59 59 := (iv_both cx40 (iv_eq (show iv 59 59 59 from ⟨by decide, by decide⟩) c45)).mono (by decide) (by decide)
          have or45fp := iv_o r45fp
          have w48 : iv x40p0 0 399 := ⟨by omega, by omega⟩
          have ow48 := iv_o w48
          refine lv_aload_n hx hb dX12_readsAll_48 rfl (lv_at hl 0 rfl) ?_
          refine lv_dup hx hb dX12_readsAll_49 rfl ?_
          refine hp_getf hx hb hts IX12 hown hK fx40p0 rfl (by decide) L99 dX12_readsAll_50 ?_
          refine lv_iconst (v := 1) hx hb dX12_readsAll_53 (by decide) ?_
          refine lv_iadd hx hb dX12_readsAll_54 ?_
          refine lv_topi (fun x54 ex54 => ?_)
          have bx54 : iv x54 1 400 := iv_add w48 (show iv 1 1 1 from ⟨by decide, by decide⟩) ex54 (by decide)
          have obx54 := iv_o bx54
          have qx54 := iv_add_eq w48 (show iv 1 1 1 from ⟨by decide, by decide⟩) ex54 (by decide)
          refine hp_putE hx hb hts IX12 tyX12 tyX12_ok nmX12 hown hK hw hp0 rfl 8 (by decide) L99 rfl rfl ⟨_, rfl, (bx54.mono (by decide) (by decide))⟩ rfl rfl dX12_readsAll_55 (fun H55 locs55 hw f55n g55 on55 => ?_)
          have hon := hon.trans (hp_on.mono (show hp_on (fun q => q = ap0) _ _ from on55) (fun q h9 => by rcases h9 with rfl; exact Or.inl rfl))
          have hrd := rd.put hrd g55 on55 (hp_ne_ao hp0sign hp0) (hp_ne_ao hp0clause hp0) (hp_ne_ao hp0clauses hp0) (hp_ne_ao hp0len hp0) (by decide)
          have hkm := hkm.put g55 (by decide)
          have f_p0_1 := g55 _ _ _ _ f_p0_1 (Or.inr ⟨rfl, by decide⟩)
          have f_p0_11 := g55 _ _ _ _ f_p0_11 (Or.inr ⟨rfl, by decide⟩)
          have f_p0_14 := g55 _ _ _ _ f_p0_14 (Or.inr ⟨rfl, by decide⟩)
          refine lv_aload_n hx hb dX12_readsAll_58 rfl (lv_at hl 0 rfl) ?_
          refine hp_callei (va_runV (As := []) (rest := []) ⟨hx, hb, hml, hown, hts⟩ (sX12_clauseHere_r l D T ap0 x54 xp100 xp101 y35_fp0_14 A Gm Tp ip0 (bx54.mono (by decide) (by decide)) c35_xp100 c35_xp101 c35_y35_fp0_14) (cwV 0 hts gX12_readsAll_X12_clauseHere rfl rfl rfl (by decide +kernel) ⟨Nat.le_of_ble_eq_true rfl, Nat.le_of_ble_eq_true rfl⟩) (hp_preV hG hw hp0 rfl ⟨f55n, f_p0_1, f_p0_11, f_p0_14, (rd.mono hrd (by omega) (by omega))⟩) rfl rfl hl.1 rfl (lv_room (Nat.le_of_ble_eq_true rfl)) dX12_readsAll_59 ⟨Nat.zero_le _, Nat.zero_le _⟩) hw (fun x59 st59 t59 H59 locs59 eh59 eg59 bx59 hw => ?_)
          obtain ⟨x59p0, x59p1, g59, on59, fx59p0, fx59p1, cx59, bx59p0, bx59p1, R59_0, R59_1, R59_2⟩ := bx59
          rw [eh59, eg59] at g59 on59
          rw [eg59] at fx59p0
          rw [eg59] at fx59p1
          have hkm := hkm.call g59 (by decide)
          have hon := hon.trans on59
          have f_p0_1 := g59 _ _ _ _ f_p0_1 (by decide)
          have f_p0_11 := g59 _ _ _ _ f_p0_11 (by decide)
          have obx59p0 := iv_o bx59p0
          have obx59p1 := iv_o bx59p1
          have ocx59 := iv_o cx59
          refine lv_istore_n (lv' := [(1, .int x59), (0, .ref ap0)]) hx hb dX12_readsAll_62 rfl hl (by decide) rfl (fun ls hl => ?_)
          refine lv_goto (tgt := 35) hx hb dX12_readsAll_63 (by decide) ?_
          exact ih35 x59 x59p1 x59p0 (by omega) cx59 c35_xp100 c35_xp101 bx59p1 bx59p0 H59 locs59 hw hkm hon f_p0_1 f_p0_11 fx59p1 fx59p0 (⟨fun h9 => by have h8 := R59_1 h9; rw [eg59] at h8; exact h8, fun h9 => by have h8 := R59_2 h9; rw [eg59] at h8; exact h8⟩) _ (lv_sub hl [1, 0] rfl)
  exact J35 _ x31 x31p1 x31p0 (Nat.lt_succ_self _) cx31 bp100 bp101 bx31p1 bx31p0 H31 locs31 hw hkm hon f_p0_1 f_p0_11 fx31p1 fx31p0 (⟨fun h9 => by have h8 := R31_1 h9; rw [eg31] at h8; exact h8, fun h9 => by have h8 := R31_2 h9; rw [eg31] at h8; exact h8⟩) _ (lv_sub hl [1, 0] rfl)
abbrev WX12_rule (p : Program) (l : Launch) (e : Env) (s : State) (m : MethodId) (below : List Frame) (meth : Method) (c : Code) (D : hp_D) (T : hp_T) (ap0 : Nat) (A : Nat → Nat) (Tp : Nat → Value) (H : Heap) (locs : List Loc) (g : JFrame) : Prop := W p l e (headSpec wsX12_rule ({ frames := 12, cells := 0, slots := 0, locals := 262 })).room s m ([.ref ap0] : List Value).toArray below meth c H locs 0 0 (MQ below (hq_e D T (fun v st t => ∃ r : Int32, v = some (.int r) ∧ (hp_km D [(12, 1), (12, 2), (12, 8), (12, 9), (12, 10), (12, 11), (12, 12), (12, 13), (12, 14), (12, 16)] st.heap t.heap ∧ hp_on (fun q => q = ap0 ∨ q = A 1 ∨ q = A 2 ∨ q = A 3 ∨ q = A 4 ∨ q = A 6) st.heap t.heap ∧ iv r (-2147483648) 2147483647 ∧ (rdw D t.heap A)))) ([.ref ap0] : List Value).toArray s 0 0 (hp_F T)) g
set_option maxHeartbeats 4000000 in
set_option maxRecDepth 100000 in
theorem sX12_rule (l : Launch) (D : hp_D) (T : hp_T) (ap0 : Nat) (A : Nat → Nat) (Gm : moG) (Tp : Nat → Value) (ip0 : isMp T ap0 A Gm Tp) : Met l yX12_rule wsX12_rule ({ frames := 12, cells := 0, slots := 0, locals := 262 }) (hp_Pc D T [.ref ap0] (fun H => rdw D H A)) (hq_e D T (fun v st t => ∃ r : Int32, v = some (.int r) ∧ (hp_km D [(12, 1), (12, 2), (12, 8), (12, 9), (12, 10), (12, 11), (12, 12), (12, 13), (12, 14), (12, 16)] st.heap t.heap ∧ hp_on (fun q => q = ap0 ∨ q = A 1 ∨ q = A 2 ∨ q = A 3 ∨ q = A 4 ∨ q = A 6) st.heap t.heap ∧ iv r (-2147483648) 2147483647 ∧ (rdw D t.heap A)))) 0 0 (hp_F T) := by
  obtain ⟨gok, tpok, hp0, hp0tape, hp0sign, hp0len, hp0clause, hp0clauses, hp0read, hp0opn, hp0stack, hp0word, hp0said, hp0was, hp0fitting, hp0sums, hp0sort, hp0sumsBy, hp0oneOf, hp0otherOf, hp0kept, hp0images, hp0acts, hp0iUnd, hp0iFor, hp0iX, hp0made⟩ := id ip0
  have hpx := gok.1
  have gsok := gok.2.2.2.2
  have ggd := gok.2.2.2.1
  refine Met.ofW (cc := cX12_rule) (maxL := 1) (ret := (some .int)) (by decide) rfl ?_
  intro p e s m args below meth c s₁ B hml hv
  obtain ⟨rfl, hok, hG, hB⟩ := hv
  have hx := B.exec
  have hb := B.bytes
  have hr := B.returns
  have hts := atoms_spec (ws := wsX12_rule) B.pre
  have hown : s.vm.findClass RX12 = some m.cls := findClass_of_methodNamed B.named
  have hlocks := B.notSynchronized
  have hK := hG.1
  have hw : hp_w D T s s.heap [] := hp_w.rf hok
  have IX12 : ∀ w ∈ wsX120, w ∈ wsX12_rule := by decide +kernel
  have L267 := hts (.fieldLink RX12 267 "PalmCensusModel" "rules" "I") (by decide +kernel)
  have L153 := hts (.fieldLink RX12 153 "PalmCensusModel" "text" "I") (by decide +kernel)
  have L23 := hts (.fieldLink RX12 23 "PalmCensusModel" "clauses" "[I") (by decide +kernel)
  have L96 := hts (.fieldLink RX12 96 "PalmCensusModel" "wrong" "I") (by decide +kernel)
  have hon : hp_on (fun q => q = ap0 ∨ q = A 1 ∨ q = A 2 ∨ q = A 3 ∨ q = A 4 ∨ q = A 6) s.heap s.heap := fun _ _ => rfl
  have km2 : ((-2) : Int32).toInt = (-2) := (by decide)
  have km1 : ((-1) : Int32).toInt = (-1) := (by decide)
  have k0 : (0 : Int32).toInt = 0 := (by decide)
  have k1 : (1 : Int32).toInt = 1 := (by decide)
  have k6 : (6 : Int32).toInt = 6 := (by decide)
  obtain ⟨S0, K0, C0, hcS, hcK, hcC, q1⟩ := hB
  have hkm : hp_km D [(12, 1), (12, 2), (12, 8), (12, 9), (12, 10), (12, 11), (12, 12), (12, 13), (12, 14), (12, 16)] s.heap s.heap := fun _ _ _ _ h _ => h
  have hl := lv_entry ([.ref ap0]) (n := 1) (Nat.le_of_ble_eq_true rfl)
  rw [lg_entry_eq]
  generalize (lg_sl ([.ref ap0]) ++ List.replicate (1 - (lg_sl ([.ref ap0])).length) Slot.unset).toArray = ls at hl ⊢
  have hl : lv_has ls 1 [(0, .ref ap0)] := hl
  show WX12_rule p l e s m below meth c D T ap0 A Tp s.heap [] (F0 m 0 ls [])
  obtain ⟨x9000op0_1, bx9000op0_1, fx9000op0_1⟩ := hp_opI hw.1 hp0 1 rfl
  have obx9000op0_1 := iv_o bx9000op0_1
  obtain ⟨x9000op0_2, bx9000op0_2, fx9000op0_2⟩ := hp_opI hw.1 hp0 2 rfl
  have obx9000op0_2 := iv_o bx9000op0_2
  refine lv_aload_n hx hb dX12_rule_0 rfl (lv_at hl 0 rfl) ?_
  refine hp_getf hx hb hts IX12 hown hK fx9000op0_2 rfl (by decide) L267 dX12_rule_1 ?_
  refine lv_bipush (v := 6) hx hb dX12_rule_4 (by decide) ?_
  refine lv_icmp_ne (tgt := 11) hx hb dX12_rule_6 (by decide) (fun c6 => ?_) (fun c6 => ?_)
  · have oc6 := iv_neq c6
    have r6tp : iv x9000op0_2 0 5 := (iv_ne_hi c6 bx9000op0_2 rfl).mono (by decide) (by decide)
    have or6tp := iv_o r6tp
    refine lv_aload_n hx hb dX12_rule_11 rfl (lv_at hl 0 rfl) ?_
    refine lv_aload_n hx hb dX12_rule_12 rfl (lv_at hl 0 rfl) ?_
    refine hp_getf hx hb hts IX12 hown hK fx9000op0_2 rfl (by decide) L267 dX12_rule_13 ?_
    refine hp_putE hx hb hts IX12 tyX12 tyX12_ok nmX12 hown hK hw hp0 rfl 11 (by decide) L153 rfl rfl ⟨_, rfl, (r6tp.mono (by decide) (by decide))⟩ rfl rfl dX12_rule_16 (fun H16 locs16 hw f16n g16 on16 => ?_)
    have hon := hon.trans (hp_on.mono (show hp_on (fun q => q = ap0) _ _ from on16) (fun q h9 => by rcases h9 with rfl; exact Or.inl rfl))
    have hcS := hp_c.kept hcS (on16 _ (fun h9 => hp_ne_ao hp0sign hp0 h9))
    have hcK := hp_c.kept hcK (on16 _ (fun h9 => hp_ne_ao hp0clause hp0 h9))
    have hcC := hp_c.kept hcC (on16 _ (fun h9 => hp_ne_ao hp0clauses hp0 h9))
    have hkm := hkm.put g16 (by decide)
    have f_p0_1 := g16 _ _ _ _ fx9000op0_1 (Or.inr ⟨rfl, by decide⟩)
    have f_p0_2 := g16 _ _ _ _ fx9000op0_2 (Or.inr ⟨rfl, by decide⟩)
    refine lv_aload_n hx hb dX12_rule_19 rfl (lv_at hl 0 rfl) ?_
    refine hp_getr hx hb hts IX12 hown hK hw.1 hp0 rfl 6 (by decide) L23 rfl dX12_rule_20 ?_
    refine lv_aload_n hx hb dX12_rule_23 rfl (lv_at hl 0 rfl) ?_
    refine hp_getf hx hb hts IX12 hown hK f16n rfl (by decide) L153 dX12_rule_24 ?_
    refine lv_iconst (v := 0) hx hb dX12_rule_27 (by decide) ?_
    refine hp_iastC hx hb hK hw hp0clauses (vp_iv r6tp (by decide)) ⟨_, rfl, (show iv 0 0 12 from ⟨by decide, by decide⟩)⟩ hcC dX12_rule_28 (fun H28 locs28 hw g28 o28 hcC => ?_)
    have hon := hon.trans (hp_on.mono (show hp_on (fun q => q = A 4) _ _ from o28) (fun q h9 => by subst h9; exact Or.inr (Or.inr (Or.inr (Or.inr (Or.inl rfl))))))
    have hcS := hp_c.kept hcS (o28 _ (hp_ne_len hp0sign hp0clauses (by decide)))
    have hcK := hp_c.kept hcK (o28 _ (hp_ne_len hp0clause hp0clauses (by decide)))
    obtain ⟨C9, hcC, eC9⟩ : ∃ C9 : Nat → Int32, hp_c D H28 (A 4) 6 C9 ∧ ∀ j, C9 j = if j = x9000op0_2.toInt.toNat then 0 else C0 j := ⟨_, hcC, fun j => rfl⟩
    have hkm := hkm.ar g28
    have f_p0_1 := g28 _ _ _ _ f_p0_1
    have f_p0_2 := g28 _ _ _ _ f_p0_2
    have f_p0_11 := g28 _ _ _ _ f16n
    refine lv_aload_n hx hb dX12_rule_29 rfl (lv_at hl 0 rfl) ?_
    refine hp_callei (va_runV (As := []) (rest := []) ⟨hx, hb, hml, hown, hts⟩ (sX12_readsAll_r l D T ap0 x9000op0_1 x9000op0_2 A Gm Tp ip0 bx9000op0_1 r6tp) (cwV 0 hts gX12_rule_X12_readsAll rfl rfl rfl (by decide +kernel) ⟨Nat.le_of_ble_eq_true rfl, Nat.le_of_ble_eq_true rfl⟩) (hp_preV hG hw hp0 rfl ⟨f_p0_1, f_p0_11, ⟨S0, K0, C9, hcS, hcK, hcC, mo_zero q1 (fun j h9 => by rw [eC9, if_neg h9]) (by rw [eC9, if_pos rfl]), by rw [eC9, if_pos rfl]⟩⟩) rfl rfl hl.1 rfl (lv_room (Nat.le_of_ble_eq_true rfl)) dX12_rule_30 ⟨Nat.zero_le _, Nat.zero_le _⟩) hw (fun x30 st30 t30 H30 locs30 eh30 eg30 bx30 hw => ?_)
    obtain ⟨g30, on30, cx30, R30_0⟩ := bx30
    rw [eh30, eg30] at g30 on30
    have hkm := hkm.call g30 (by decide)
    have hon := hon.trans on30
    have f_p0_2 := g30 _ _ _ _ f_p0_2 (by decide)
    have f_p0_11 := g30 _ _ _ _ f_p0_11 (by decide)
    obtain ⟨x30op0_1, bx30op0_1, fx30op0_1⟩ := hp_opI hw.1 hp0 1 rfl
    have obx30op0_1 := iv_o bx30op0_1
    have ocx30 := iv_o cx30
    have hrd := R30_0
    rw [eg30] at hrd
    refine lv_if_ne (tgt := 44) hx hb dX12_rule_33 (by decide) (fun c33 => ?_) (fun c33 => ?_)
    · have oc33 := iv_neq c33
      have r33tp : iv x30 1 1 := (iv_ne_lo c33 cx30 rfl).mono (by decide) (by decide)
      have or33tp := iv_o r33tp
      refine lv_aload_n hx hb dX12_rule_44 rfl (lv_at hl 0 rfl) ?_
      refine lv_dup hx hb dX12_rule_45 rfl ?_
      refine hp_getf hx hb hts IX12 hown hK f_p0_2 rfl (by decide) L267 dX12_rule_46 ?_
      refine lv_iconst (v := 1) hx hb dX12_rule_49 (by decide) ?_
      refine lv_iadd hx hb dX12_rule_50 ?_
      refine lv_topi (fun x50 ex50 => ?_)
      have bx50 : iv x50 1 6 := iv_add r6tp (show iv 1 1 1 from ⟨by decide, by decide⟩) ex50 (by decide)
      have obx50 := iv_o bx50
      have qx50 := iv_add_eq r6tp (show iv 1 1 1 from ⟨by decide, by decide⟩) ex50 (by decide)
      refine hp_putE hx hb hts IX12 tyX12 tyX12_ok nmX12 hown hK hw hp0 rfl 2 (by decide) L267 rfl rfl ⟨_, rfl, (bx50.mono (by decide) (by decide))⟩ rfl rfl dX12_rule_51 (fun H51 locs51 hw f51n g51 on51 => ?_)
      have hon := hon.trans (hp_on.mono (show hp_on (fun q => q = ap0) _ _ from on51) (fun q h9 => by rcases h9 with rfl; exact Or.inl rfl))
      have hrd := rdw.put hrd on51 (hp_ne_ao hp0sign hp0) (hp_ne_ao hp0clause hp0) (hp_ne_ao hp0clauses hp0)
      have hkm := hkm.put g51 (by decide)
      have f_p0_11 := g51 _ _ _ _ f_p0_11 (Or.inr ⟨rfl, by decide⟩)
      have f_p0_1 := g51 _ _ _ _ fx30op0_1 (Or.inr ⟨rfl, by decide⟩)
      refine lv_aload_n hx hb dX12_rule_54 rfl (lv_at hl 0 rfl) ?_
      refine hp_getf hx hb hts IX12 hown hK f51n rfl (by decide) L267 dX12_rule_55 ?_
      refine lv_iconst (v := 1) hx hb dX12_rule_58 (by decide) ?_
      refine lv_isub hx hb dX12_rule_59 ?_
      refine lv_topi (fun x59 ex59 => ?_)
      have bx59 : iv x59 0 5 := iv_sub bx50 (show iv 1 1 1 from ⟨by decide, by decide⟩) ex59 (by decide)
      have obx59 := iv_o bx59
      have qx59 := iv_sub_eq bx50 (show iv 1 1 1 from ⟨by decide, by decide⟩) ex59 (by decide)
      exact W.iret (v := x59) hx hb hr (fun t ht hW => ⟨some (.int x59), rfl, ⟨x59, rfl, ⟨by rw [ht]; exact hkm, by rw [ht]; exact hon, iv_any _, (by rw [ht]; exact hrd)⟩⟩, by rw [ht]; exact hw.1, hw.2.F ht⟩) hw.2.2.2 dX12_rule_60
    · have oc33 := congrArg Int32.toInt c33
      have r33fp : iv x30 0 0 := (iv_both cx30 (iv_eq (show iv 0 0 0 from ⟨by decide, by decide⟩) c33)).mono (by decide) (by decide)
      have or33fp := iv_o r33fp
      refine lv_bipush (v := (-2)) hx hb dX12_rule_36 (by decide) ?_
      refine lv_aload_n hx hb dX12_rule_38 rfl (lv_at hl 0 rfl) ?_
      refine hp_getA hx hb hts IX12 hown hK hw.1 hp0 rfl 9 (by decide) L96 rfl dX12_rule_39 (fun x39 fx39 => ?_)
      refine lv_isub hx hb dX12_rule_42 ?_
      refine lv_topi (fun x42 ex42 => ?_)
      exact W.iret (v := x42) hx hb hr (fun t ht hW => ⟨some (.int x42), rfl, ⟨x42, rfl, ⟨by rw [ht]; exact hkm, by rw [ht]; exact hon, iv_any _, (by rw [ht]; exact hrd)⟩⟩, by rw [ht]; exact hw.1, hw.2.F ht⟩) hw.2.2.2 dX12_rule_43
  · have oc6 := congrArg Int32.toInt c6
    have r6fp : iv x9000op0_2 6 6 := (iv_both bx9000op0_2 (iv_eq (show iv 6 6 6 from ⟨by decide, by decide⟩) c6)).mono (by decide) (by decide)
    have or6fp := iv_o r6fp
    refine lv_iconst (v := (-1)) hx hb dX12_rule_9 (by decide) ?_
    exact W.iret (v := (-1)) hx hb hr (fun t ht hW => ⟨some (.int (-1)), rfl, ⟨((-1) : Int32), rfl, ⟨by rw [ht]; exact hkm, by rw [ht]; exact hon, iv_any _, (by rw [ht]; exact ⟨S0, K0, C0, hcS, hcK, hcC, q1⟩)⟩⟩, by rw [ht]; exact hw.1, hw.2.F ht⟩) hw.2.2.2 dX12_rule_10
