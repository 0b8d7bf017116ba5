abbrev WX12_isTownHere (p : Program) (l : Launch) (e : Env) (s : State) (m : MethodId) (below : List Frame) (meth : Method) (c : Code) (D : hp_D) (T : hp_T) (ap0 : Nat) (xp1 : Int32) (xp100 : Int32) (xp101 : Int32) (A : Nat → Nat) (Tp : Nat → Value) (H : Heap) (locs : List Loc) (g : JFrame) : Prop := W p l e (headSpec wsX12_isTownHere ({ frames := 2, cells := 0, slots := 0, locals := 49 })).room s m ([.ref ap0, .int xp1] : List Value).toArray below meth c H locs 0 0 (MQ below (hq_e D T (fun v st t => ∃ r : Int32, v = some (.int r) ∧ ((∃ y0 : Int32, hp_km D [(12, 8), (12, 9), (12, 10)] st.heap t.heap ∧ hp_on (fun q => q = ap0 ∨ q = A 5) st.heap t.heap ∧ hp_f D t.heap ap0 12 8 (.int y0) ∧ iv r 0 1 ∧ iv y0 0 400 ∧ (xp100.toInt ≤ y0.toInt))))) ([.ref ap0, .int xp1] : List Value).toArray s 0 0 (hp_F T)) g
set_option maxHeartbeats 4000000 in
set_option maxRecDepth 100000 in
theorem sX12_isTownHere (l : Launch) (D : hp_D) (T : hp_T) (ap0 : Nat) (xp1 : Int32) (xp100 : Int32) (xp101 : Int32) (A : Nat → Nat) (Gm : moG) (Tp : Nat → Value) (ip0 : isMp T ap0 A Gm Tp) (bp100 : iv xp100 0 400) (bp101 : iv xp101 0 400) : Met l yX12_isTownHere wsX12_isTownHere ({ frames := 2, cells := 0, slots := 0, locals := 49 }) (hp_Pc D T [.ref ap0, .int xp1] (fun H => hp_f D H ap0 12 8 (.int xp100) ∧ hp_f D H ap0 12 1 (.int xp101))) (hq_e D T (fun v st t => ∃ r : Int32, v = some (.int r) ∧ ((∃ y0 : Int32, hp_km D [(12, 8), (12, 9), (12, 10)] st.heap t.heap ∧ hp_on (fun q => q = ap0 ∨ q = A 5) st.heap t.heap ∧ hp_f D t.heap ap0 12 8 (.int y0) ∧ iv r 0 1 ∧ iv y0 0 400 ∧ (xp100.toInt ≤ y0.toInt))))) 0 0 (hp_F T) := by
  obtain ⟨gok, tpok, hp0, hp0tape, hp0sign, hp0len, hp0clause, hp0clauses, hp0read, hp0opn, hp0stack, hp0word, hp0said, hp0was, hp0fitting, hp0sums, hp0sort, hp0sumsBy, hp0oneOf, hp0otherOf, hp0kept, hp0images, hp0acts, hp0iUnd, hp0iFor, hp0iX, hp0made⟩ := id ip0
  have hpx := gok.1
  have gsok := gok.2.2.2.2
  have ggd := gok.2.2.2.1
  refine Met.ofW (cc := cX12_isTownHere) (maxL := 2) (ret := (some .boolean)) (by decide) rfl ?_
  intro p e s m args below meth c s₁ B hml hv
  obtain ⟨rfl, hok, hG, hB⟩ := hv
  have hx := B.exec
  have hb := B.bytes
  have hr := B.returns
  have hts := atoms_spec (ws := wsX12_isTownHere) B.pre
  have hown : s.vm.findClass RX12 = some m.cls := findClass_of_methodNamed B.named
  have hlocks := B.notSynchronized
  have hK := hG.1
  have hw : hp_w D T s s.heap [] := hp_w.rf hok
  have IX12 : ∀ w ∈ wsX120, w ∈ wsX12_isTownHere := by decide +kernel
  have L26 := hts (.fieldLink RX12 26 "PalmCensusModel" "read" "[I") (by decide +kernel)
  have L124 := hts (.fieldLink RX12 124 "PalmCensusModel" "number" "I") (by decide +kernel)
  have hon : hp_on (fun q => q = ap0 ∨ q = A 5) s.heap s.heap := fun _ _ => rfl
  have k0 : (0 : Int32).toInt = 0 := (by decide)
  have k1 : (1 : Int32).toInt = 1 := (by decide)
  have k2 : (2 : Int32).toInt = 2 := (by decide)
  have k4 : (4 : Int32).toInt = 4 := (by decide)
  have k6 : (6 : Int32).toInt = 6 := (by decide)
  have k12 : (12 : Int32).toInt = 12 := (by decide)
  have obp100 := iv_o bp100
  have obp101 := iv_o bp101
  have hkm : hp_km D [(12, 8), (12, 9), (12, 10)] s.heap s.heap := fun _ _ _ _ h _ => h
  have hl := lv_entry ([.ref ap0, .int xp1]) (n := 2) (Nat.le_of_ble_eq_true rfl)
  rw [lg_entry_eq]
  generalize (lg_sl ([.ref ap0, .int xp1]) ++ List.replicate (2 - (lg_sl ([.ref ap0, .int xp1])).length) Slot.unset).toArray = ls at hl ⊢
  have hl : lv_has ls 2 [(0, .ref ap0), (1, .int xp1)] := hl
  show WX12_isTownHere p l e s m below meth c D T ap0 xp1 xp100 xp101 A Tp s.heap [] (F0 m 0 ls [])
  have obp100 := iv_o bp100
  have obp101 := iv_o bp101
  refine lv_aload_n hx hb dX12_isTownHere_0 rfl (lv_at hl 0 rfl) ?_
  refine hp_getr hx hb hts IX12 hown hK hw.1 hp0 rfl 7 (by decide) L26 rfl dX12_isTownHere_1 ?_
  refine lv_iconst (v := 0) hx hb dX12_isTownHere_4 (by decide) ?_
  refine hp_iald hx hb hK hw.1 hp0read (vp_iv (show iv 0 0 0 from ⟨by decide, by decide⟩) (by decide)) dX12_isTownHere_5 (fun v5 h5 => ?_)
  obtain ⟨x5, rfl, bx5⟩ := rP_rd0 h5 (show iv 0 0 0 from ⟨by decide, by decide⟩)
  have obx5 := iv_o bx5
  refine lv_if_le (tgt := 16) hx hb dX12_isTownHere_6 (by decide) (fun c6 => ?_) (fun c6 => ?_)
  · have oc6 := Int32.le_iff_toInt_le.mp c6
    have r6tp : iv x5 0 0 := (iv_le_l c6 bx5 (show iv 0 0 0 from ⟨by decide, by decide⟩)).mono (by decide) (by decide)
    have or6tp := iv_o r6tp
    refine lv_aload_n hx hb dX12_isTownHere_16 rfl (lv_at hl 0 rfl) ?_
    refine hp_callev (va_runV (As := []) (rest := []) ⟨hx, hb, hml, hown, hts⟩ (sX12_passWord l D T ap0 xp100 xp101 A Gm Tp ip0 bp100 bp101) (cwV 0 hts gX12_isTownHere_X12_passWord rfl rfl rfl (by decide +kernel) ⟨Nat.le_of_ble_eq_true rfl, Nat.le_of_ble_eq_true rfl⟩) (hp_preV hG hw hp0 rfl ⟨hB.1, hB.2⟩) rfl rfl hl.1 rfl (lv_room (Nat.le_of_ble_eq_true rfl)) dX12_isTownHere_17 ⟨Nat.zero_le _, Nat.zero_le _⟩) hw (fun st17 t17 H17 locs17 eh17 eg17 bx17 hw => ?_)
    obtain ⟨x17p0, g17, on17, fx17p0, bx17p0, R17_0, R17_1⟩ := bx17
    rw [eh17, eg17] at g17 on17
    rw [eg17] at fx17p0
    have hkm := hkm.call g17 (by decide)
    have hon := hon.trans (hp_on.mono on17 (fun q h9 => by rcases h9 with rfl; exact Or.inl rfl))
    have f_p0_1 := g17 _ _ _ _ hB.2 (by decide)
    have obx17p0 := iv_o bx17p0
    refine lv_aload_n hx hb dX12_isTownHere_20 rfl (lv_at hl 0 rfl) ?_
    refine lv_iconst (v := 2) hx hb dX12_isTownHere_21 (by decide) ?_
    refine lv_bipush (v := 6) hx hb dX12_isTownHere_22 (by decide) ?_
    refine hp_callei (va_runV (As := [.int 2, .int 6]) (rest := []) ⟨hx, hb, hml, hown, hts⟩ (sX12_numberHere l D T ap0 (2 : Int32) (6 : Int32) x17p0 xp101 A Gm Tp ip0 bx17p0 bp101) (cwV 2 hts gX12_isTownHere_X12_numberHere rfl rfl rfl (by decide +kernel) ⟨Nat.le_of_ble_eq_true rfl, Nat.le_of_ble_eq_true rfl⟩) (hp_preV hG hw hp0 rfl ⟨fx17p0, f_p0_1⟩) rfl rfl hl.1 rfl (lv_room (Nat.le_of_ble_eq_true rfl)) dX12_isTownHere_24 ⟨Nat.zero_le _, Nat.zero_le _⟩) hw (fun x24 st24 t24 H24 locs24 eh24 eg24 bx24 hw => ?_)
    obtain ⟨x24p0, x24p1, g24, on24, fx24p0, fx24p1, cx24, bx24p0, bx24p1, R24_0, R24_1, R24_2⟩ := bx24
    rw [eh24, eg24] at g24 on24
    rw [eg24] at fx24p0
    rw [eg24] at fx24p1
    have hkm := hkm.call g24 (by decide)
    have hon := hon.trans (hp_on.mono on24 (fun q h9 => by rcases h9 with rfl; exact Or.inl rfl))
    have f_p0_1 := g24 _ _ _ _ f_p0_1 (by decide)
    have obx24p0 := iv_o bx24p0
    have obx24p1 := iv_o bx24p1
    have ocx24 := iv_o cx24
    have I24 : ¬ x24 = 0 → iv x24p1 2 6 := fun h9 => by have h8 := iv_neq h9; have h7 := R24_2 (by omega); exact ⟨by omega, by omega⟩
    refine lv_if_ne (tgt := 32) hx hb dX12_isTownHere_27 (by decide) (fun c27 => ?_) (fun c27 => ?_)
    · have oc27 := iv_neq c27
      have r27tp : iv x24 1 1 := (iv_ne_lo c27 cx24 rfl).mono (by decide) (by decide)
      have or27tp := iv_o r27tp
      have r27tpz : iv x24p1 2 6 := (iv_both bx24p1 (I24 (iv_ne0 r27tp (by decide)))).mono (by decide) (by decide)
      have or27tpz := iv_o r27tpz
      refine lv_aload_n hx hb dX12_isTownHere_32 rfl (lv_at hl 0 rfl) ?_
      refine hp_getr hx hb hts IX12 hown hK hw.1 hp0 rfl 7 (by decide) L26 rfl dX12_isTownHere_33 ?_
      refine lv_iconst (v := 0) hx hb dX12_isTownHere_36 (by decide) ?_
      refine lv_aload_n hx hb dX12_isTownHere_37 rfl (lv_at hl 0 rfl) ?_
      refine hp_getf hx hb hts IX12 hown hK fx24p1 rfl (by decide) L124 dX12_isTownHere_38 ?_
      refine hp_iastE hx hb hK hw hp0read (vp_iv (show iv 0 0 0 from ⟨by decide, by decide⟩) (by decide)) (rP_st0 (r27tpz.mono (by decide) (by decide))) dX12_isTownHere_41 (fun H41 locs41 hw g41 o41 ge41 E41 => ?_)
      have hon := hon.trans (hp_on.mono (show hp_on (fun q => q = A 5) _ _ from o41) (fun q h9 => by subst h9; exact Or.inr (rfl)))
      have hkm := hkm.ar g41
      have f_p0_1 := g41 _ _ _ _ f_p0_1
      have f_p0_8 := g41 _ _ _ _ fx24p0
      have f_p0_10 := g41 _ _ _ _ fx24p1
      refine lv_aload_n hx hb dX12_isTownHere_42 rfl (lv_at hl 0 rfl) ?_
      refine lv_iconst (v := 1) hx hb dX12_isTownHere_43 (by decide) ?_
      refine lv_bipush (v := 12) hx hb dX12_isTownHere_44 (by decide) ?_
      refine hp_callei (va_runV (As := [.int 1, .int 12]) (rest := []) ⟨hx, hb, hml, hown, hts⟩ (sX12_numberHere l D T ap0 (1 : Int32) (12 : Int32) x24p0 xp101 A Gm Tp ip0 bx24p0 bp101) (cwV 2 hts gX12_isTownHere_X12_numberHere rfl rfl rfl (by decide +kernel) ⟨Nat.le_of_ble_eq_true rfl, Nat.le_of_ble_eq_true rfl⟩) (hp_preV hG hw hp0 rfl ⟨f_p0_8, f_p0_1⟩) rfl rfl hl.1 rfl (lv_room (Nat.le_of_ble_eq_true rfl)) dX12_isTownHere_46 ⟨Nat.zero_le _, Nat.zero_le _⟩) hw (fun x46 st46 t46 H46 locs46 eh46 eg46 bx46 hw => ?_)
      obtain ⟨x46p0, x46p1, g46, on46, fx46p0, fx46p1, cx46, bx46p0, bx46p1, R46_0, R46_1, R46_2⟩ := bx46
      rw [eh46, eg46] at g46 on46
      have E46_p0read_0 := hp_et.kept E41 (on46 _ (fun h9 => hp_ne_ao hp0read hp0 h9))
      rw [eg46] at fx46p0
      rw [eg46] at fx46p1
      have hkm := hkm.call g46 (by decide)
      have hon := hon.trans (hp_on.mono on46 (fun q h9 => by rcases h9 with rfl; exact Or.inl rfl))
      have f_p0_1 := g46 _ _ _ _ f_p0_1 (by decide)
      have obx46p0 := iv_o bx46p0
      have obx46p1 := iv_o bx46p1
      have ocx46 := iv_o cx46
      have I46 : ¬ x46 = 0 → iv x46p1 1 12 := fun h9 => by have h8 := iv_neq h9; have h7 := R46_2 (by omega); exact ⟨by omega, by omega⟩
      refine lv_if_ne (tgt := 54) hx hb dX12_isTownHere_49 (by decide) (fun c49 => ?_) (fun c49 => ?_)
      · have oc49 := iv_neq c49
        have r49tp : iv x46 1 1 := (iv_ne_lo c49 cx46 rfl).mono (by decide) (by decide)
        have or49tp := iv_o r49tp
        have r49tpz : iv x46p1 1 12 := (iv_both bx46p1 (I46 (iv_ne0 r49tp (by decide)))).mono (by decide) (by decide)
        have or49tpz := iv_o r49tpz
        refine lv_aload_n hx hb dX12_isTownHere_54 rfl (lv_at hl 0 rfl) ?_
        refine hp_getr hx hb hts IX12 hown hK hw.1 hp0 rfl 7 (by decide) L26 rfl dX12_isTownHere_55 ?_
        refine lv_iconst (v := 1) hx hb dX12_isTownHere_58 (by decide) ?_
        refine lv_aload_n hx hb dX12_isTownHere_59 rfl (lv_at hl 0 rfl) ?_
        refine hp_getf hx hb hts IX12 hown hK fx46p1 rfl (by decide) L124 dX12_isTownHere_60 ?_
        refine hp_iastE hx hb hK hw hp0read (vp_iv (show iv 1 1 1 from ⟨by decide, by decide⟩) (by decide)) (rP_st1 (r49tpz.mono (by decide) (by decide))) dX12_isTownHere_63 (fun H63 locs63 hw g63 o63 ge63 E63 => ?_)
        have hon := hon.trans (hp_on.mono (show hp_on (fun q => q = A 5) _ _ from o63) (fun q h9 => by subst h9; exact Or.inr (rfl)))
        have E63_0_0 := ge63 _ _ (iv_nei (show iv 1 1 1 from ⟨by decide, by decide⟩) (by decide) (by decide)) E46_p0read_0
        have hkm := hkm.ar g63
        have f_p0_1 := g63 _ _ _ _ f_p0_1
        have f_p0_8 := g63 _ _ _ _ fx46p0
        have f_p0_10 := g63 _ _ _ _ fx46p1
        refine lv_iconst (v := 1) hx hb dX12_isTownHere_64 (by decide) ?_
        exact W.zret (v := 1) hx hb hr (iv_nz (show iv 1 0 1 from ⟨by decide, by decide⟩)) (fun t ht hW => ⟨some (.int 1), rfl, ⟨(1 : Int32), rfl, ⟨x46p0, by rw [ht]; exact hkm, by rw [ht]; exact hon, by rw [ht]; exact f_p0_8, (show iv 1 0 1 from ⟨by decide, by decide⟩), bx46p0, (by intros; omega)⟩⟩, by rw [ht]; exact hw.1, hw.2.F ht⟩) hw.2.2.2 dX12_isTownHere_65
      · have oc49 := congrArg Int32.toInt c49
        have r49fp : iv x46 0 0 := (iv_both cx46 (iv_eq (show iv 0 0 0 from ⟨by decide, by decide⟩) c49)).mono (by decide) (by decide)
        have or49fp := iv_o r49fp
        refine lv_iconst (v := 0) hx hb dX12_isTownHere_52 (by decide) ?_
        exact W.zret (v := 0) hx hb hr (iv_nz (show iv 0 0 1 from ⟨by decide, by decide⟩)) (fun t ht hW => ⟨some (.int 0), rfl, ⟨(0 : Int32), rfl, ⟨x46p0, by rw [ht]; exact hkm, by rw [ht]; exact hon, by rw [ht]; exact fx46p0, (show iv 0 0 1 from ⟨by decide, by decide⟩), bx46p0, (by intros; omega)⟩⟩, by rw [ht]; exact hw.1, hw.2.F ht⟩) hw.2.2.2 dX12_isTownHere_53
    · have oc27 := congrArg Int32.toInt c27
      have r27fp : iv x24 0 0 := (iv_both cx24 (iv_eq (show iv 0 0 0 from ⟨by decide, by decide⟩) c27)).mono (by decide) (by decide)
      have or27fp := iv_o r27fp
      refine lv_iconst (v := 0) hx hb dX12_isTownHere_30 (by decide) ?_
      exact W.zret (v := 0) hx hb hr (iv_nz (show iv 0 0 1 from ⟨by decide, by decide⟩)) (fun t ht hW => ⟨some (.int 0), rfl, ⟨(0 : Int32), rfl, ⟨x24p0, by rw [ht]; exact hkm, by rw [ht]; exact hon, by rw [ht]; exact fx24p0, (show iv 0 0 1 from ⟨by decide, by decide⟩), bx24p0, (by intros; omega)⟩⟩, by rw [ht]; exact hw.1, hw.2.F ht⟩) hw.2.2.2 dX12_isTownHere_31
  · have oc6 := Int32.lt_iff_toInt_lt.mp (iv_nle c6)
    have r6fq : iv x5 1 6 := (iv_lt_r (iv_nle c6) (show iv 0 0 0 from ⟨by decide, by decide⟩) bx5).mono (by decide) (by decide)
    have or6fq := iv_o r6fq
    refine lv_aload_n hx hb dX12_isTownHere_9 rfl (lv_at hl 0 rfl) ?_
    refine lv_iconst (v := 4) hx hb dX12_isTownHere_10 (by decide) ?_
    refine lv_iload_n hx hb dX12_isTownHere_11 rfl (lv_at hl 1 rfl) ?_
    refine hp_callei (va_runV (As := [.int 4, .int xp1]) (rest := []) ⟨hx, hb, hml, hown, hts⟩ (sX12_fails l D T ap0 (4 : Int32) xp1 A Gm Tp ip0) (cwV 2 hts gX12_isTownHere_X12_fails rfl rfl rfl (by decide +kernel) ⟨Nat.le_of_ble_eq_true rfl, Nat.le_of_ble_eq_true rfl⟩) (hp_preV hG hw hp0 rfl trivial) rfl rfl hl.1 rfl (lv_room (Nat.le_of_ble_eq_true rfl)) dX12_isTownHere_12 ⟨Nat.zero_le _, Nat.zero_le _⟩) hw (fun x12 st12 t12 H12 locs12 eh12 eg12 bx12 hw => ?_)
    obtain ⟨g12, on12, cx12⟩ := bx12
    rw [eh12, eg12] at g12 on12
    have hkm := hkm.call g12 (by decide)
    have hon := hon.trans (hp_on.mono on12 (fun q h9 => by rcases h9 with rfl; exact Or.inl rfl))
    have f_p0_8 := g12 _ _ _ _ hB.1 (by decide)
    have f_p0_1 := g12 _ _ _ _ hB.2 (by decide)
    have ocx12 := iv_o cx12
    exact W.zret (v := x12) hx hb hr (iv_nz (cx12.mono (by decide) (by decide))) (fun t ht hW => ⟨some (.int x12), rfl, ⟨x12, rfl, ⟨xp100, by rw [ht]; exact hkm, by rw [ht]; exact hon, by rw [ht]; exact f_p0_8, (cx12.mono (by decide) (by decide)), bp100, (by intros; omega)⟩⟩, by rw [ht]; exact hw.1, hw.2.F ht⟩) hw.2.2.2 dX12_isTownHere_15
abbrev WX12_isPersonHere (p : Program) (l : Launch) (e : Env) (s : State) (m : MethodId) (below : List Frame) (meth : Method) (c : Code) (D : hp_D) (T : hp_T) (ap0 : Nat) (xp1 : Int32) (xp100 : Int32) (xp101 : Int32) (A : Nat → Nat) (Tp : Nat → Value) (H : Heap) (locs : List Loc) (g : JFrame) : Prop := W p l e (headSpec wsX12_isPersonHere ({ frames := 2, cells := 0, slots := 0, locals := 41 })).room s m ([.ref ap0, .int xp1] : List Value).toArray below meth c H locs 0 0 (MQ below (hq_e D T (fun v st t => ∃ r : Int32, v = some (.int r) ∧ ((∃ y0 : Int32, hp_km D [(12, 8), (12, 9), (12, 10)] st.heap t.heap ∧ hp_on (fun q => q = ap0 ∨ q = A 5) st.heap t.heap ∧ hp_f D t.heap ap0 12 8 (.int y0) ∧ iv r 0 1 ∧ iv y0 0 400 ∧ (xp100.toInt ≤ y0.toInt))))) ([.ref ap0, .int xp1] : List Value).toArray s 0 0 (hp_F T)) g
set_option maxHeartbeats 4000000 in
set_option maxRecDepth 100000 in
theorem sX12_isPersonHere (l : Launch) (D : hp_D) (T : hp_T) (ap0 : Nat) (xp1 : Int32) (xp100 : Int32) (xp101 : Int32) (A : Nat → Nat) (Gm : moG) (Tp : Nat → Value) (ip0 : isMp T ap0 A Gm Tp) (bp100 : iv xp100 0 400) (bp101 : iv xp101 0 400) : Met l yX12_isPersonHere wsX12_isPersonHere ({ frames := 2, cells := 0, slots := 0, locals := 41 }) (hp_Pc D T [.ref ap0, .int xp1] (fun H => hp_f D H ap0 12 8 (.int xp100) ∧ hp_f D H ap0 12 1 (.int xp101))) (hq_e D T (fun v st t => ∃ r : Int32, v = some (.int r) ∧ ((∃ y0 : Int32, hp_km D [(12, 8), (12, 9), (12, 10)] st.heap t.heap ∧ hp_on (fun q => q = ap0 ∨ q = A 5) st.heap t.heap ∧ hp_f D t.heap ap0 12 8 (.int y0) ∧ iv r 0 1 ∧ iv y0 0 400 ∧ (xp100.toInt ≤ y0.toInt))))) 0 0 (hp_F T) := by
  obtain ⟨gok, tpok, hp0, hp0tape, hp0sign, hp0len, hp0clause, hp0clauses, hp0read, hp0opn, hp0stack, hp0word, hp0said, hp0was, hp0fitting, hp0sums, hp0sort, hp0sumsBy, hp0oneOf, hp0otherOf, hp0kept, hp0images, hp0acts, hp0iUnd, hp0iFor, hp0iX, hp0made⟩ := id ip0
  have hpx := gok.1
  have gsok := gok.2.2.2.2
  have ggd := gok.2.2.2.1
  refine Met.ofW (cc := cX12_isPersonHere) (maxL := 5) (ret := (some .boolean)) (by decide) rfl ?_
  intro p e s m args below meth c s₁ B hml hv
  obtain ⟨rfl, hok, hG, hB⟩ := hv
  have hx := B.exec
  have hb := B.bytes
  have hr := B.returns
  have hts := atoms_spec (ws := wsX12_isPersonHere) B.pre
  have hown : s.vm.findClass RX12 = some m.cls := findClass_of_methodNamed B.named
  have hlocks := B.notSynchronized
  have hK := hG.1
  have hw : hp_w D T s s.heap [] := hp_w.rf hok
  have IX12 : ∀ w ∈ wsX120, w ∈ wsX12_isPersonHere := by decide +kernel
  have L26 := hts (.fieldLink RX12 26 "PalmCensusModel" "read" "[I") (by decide +kernel)
  have L99 := hts (.fieldLink RX12 99 "PalmCensusModel" "next" "I") (by decide +kernel)
  have L89 := hts (.fieldLink RX12 89 "PalmCensusModel" "taped" "I") (by decide +kernel)
  have L7 := hts (.fieldLink RX12 7 "PalmCensusModel" "tape" "[B") (by decide +kernel)
  have hon : hp_on (fun q => q = ap0 ∨ q = A 5) s.heap s.heap := fun _ _ => rfl
  have k0 : (0 : Int32).toInt = 0 := (by decide)
  have k1 : (1 : Int32).toInt = 1 := (by decide)
  have k2 : (2 : Int32).toInt = 2 := (by decide)
  have k4 : (4 : Int32).toInt = 4 := (by decide)
  have k10 : (10 : Int32).toInt = 10 := (by decide)
  have k12 : (12 : Int32).toInt = 12 := (by decide)
  have k45 : (45 : Int32).toInt = 45 := (by decide)
  have k48 : (48 : Int32).toInt = 48 := (by decide)
  have k99 : (99 : Int32).toInt = 99 := (by decide)
  have k130 : (130 : Int32).toInt = 130 := (by decide)
  have obp100 := iv_o bp100
  have obp101 := iv_o bp101
  have hkm : hp_km D [(12, 8), (12, 9), (12, 10)] s.heap s.heap := fun _ _ _ _ h _ => h
  have hl := lv_entry ([.ref ap0, .int xp1]) (n := 5) (Nat.le_of_ble_eq_true rfl)
  rw [lg_entry_eq]
  generalize (lg_sl ([.ref ap0, .int xp1]) ++ List.replicate (5 - (lg_sl ([.ref ap0, .int xp1])).length) Slot.unset).toArray = ls at hl ⊢
  have hl : lv_has ls 5 [(0, .ref ap0), (1, .int xp1)] := hl
  show WX12_isPersonHere p l e s m below meth c D T ap0 xp1 xp100 xp101 A Tp s.heap [] (F0 m 0 ls [])
  have obp100 := iv_o bp100
  have obp101 := iv_o bp101
  refine lv_aload_n hx hb dX12_isPersonHere_0 rfl (lv_at hl 0 rfl) ?_
  refine hp_getr hx hb hts IX12 hown hK hw.1 hp0 rfl 7 (by decide) L26 rfl dX12_isPersonHere_1 ?_
  refine lv_iconst (v := 2) hx hb dX12_isPersonHere_4 (by decide) ?_
  refine hp_ialdE hx hb hK hw.1 hp0read (vp_iv (show iv 2 2 2 from ⟨by decide, by decide⟩) (by decide)) dX12_isPersonHere_5 (fun v5 h5 E5 => ?_)
  obtain ⟨x5, rfl, bx5⟩ := rP_rd2 h5 (show iv 2 2 2 from ⟨by decide, by decide⟩)
  have obx5 := iv_o bx5
  refine lv_bipush (v := 10) hx hb dX12_isPersonHere_6 (by decide) ?_
  refine lv_icmp_ne (tgt := 18) hx hb dX12_isPersonHere_8 (by decide) (fun c8 => ?_) (fun c8 => ?_)
  · have oc8 := iv_neq c8
    have r8tp : iv x5 0 9 := (iv_ne_hi c8 bx5 rfl).mono (by decide) (by decide)
    have or8tp := iv_o r8tp
    refine lv_aload_n hx hb dX12_isPersonHere_18 rfl (lv_at hl 0 rfl) ?_
    refine hp_callev (va_runV (As := []) (rest := []) ⟨hx, hb, hml, hown, hts⟩ (sX12_passWord l D T ap0 xp100 xp101 A Gm Tp ip0 bp100 bp101) (cwV 0 hts gX12_isPersonHere_X12_passWord rfl rfl rfl (by decide +kernel) ⟨Nat.le_of_ble_eq_true rfl, Nat.le_of_ble_eq_true rfl⟩) (hp_preV hG hw hp0 rfl ⟨hB.1, hB.2⟩) rfl rfl hl.1 rfl (lv_room (Nat.le_of_ble_eq_true rfl)) dX12_isPersonHere_19 ⟨Nat.zero_le _, Nat.zero_le _⟩) hw (fun st19 t19 H19 locs19 eh19 eg19 bx19 hw => ?_)
    obtain ⟨x19p0, g19, on19, fx19p0, bx19p0, R19_0, R19_1⟩ := bx19
    rw [eh19, eg19] at g19 on19
    have E19_p0read_0 := hp_et.kept E5 (on19 _ (fun h9 => hp_ne_ao hp0read hp0 h9))
    rw [eg19] at fx19p0
    have hkm := hkm.call g19 (by decide)
    have hon := hon.trans (hp_on.mono on19 (fun q h9 => by rcases h9 with rfl; exact Or.inl rfl))
    have f_p0_1 := g19 _ _ _ _ hB.2 (by decide)
    have obx19p0 := iv_o bx19p0
    refine lv_aload_n hx hb dX12_isPersonHere_22 rfl (lv_at hl 0 rfl) ?_
    refine hp_callei (va_runV (As := []) (rest := []) ⟨hx, hb, hml, hown, hts⟩ (sX12_see l D T ap0 x19p0 xp101 A Gm Tp ip0 bx19p0 bp101) (cwV 0 hts gX12_isPersonHere_X12_see rfl rfl rfl (by decide +kernel) ⟨Nat.le_of_ble_eq_true rfl, Nat.le_of_ble_eq_true rfl⟩) (hp_preV hG hw hp0 rfl ⟨fx19p0, f_p0_1⟩) rfl rfl hl.1 rfl (lv_room (Nat.le_of_ble_eq_true rfl)) dX12_isPersonHere_23 ⟨Nat.zero_le _, Nat.zero_le _⟩) hw (fun x23 st23 t23 H23 locs23 eh23 eg23 bx23 hw => ?_)
    obtain ⟨x23p0, g23, on23, fx23p0, cx23, bx23p0, R23_0, R23_1⟩ := bx23
    rw [eh23, eg23] at g23 on23
    have E23_p0read_0 := hp_et.kept E19_p0read_0 (on23 _ (fun h9 => hp_ne_ao hp0read hp0 h9))
    rw [eg23] at fx23p0
    have hkm := hkm.call g23 (by decide)
    have hon := hon.trans (hp_on.mono on23 (fun q h9 => by rcases h9 with rfl; exact Or.inl rfl))
    have f_p0_1 := g23 _ _ _ _ f_p0_1 (by decide)
    have obx23p0 := iv_o bx23p0
    have ocx23 := iv_o cx23
    refine lv_pop hx hb dX12_isPersonHere_26 rfl ?_
    refine lv_aload_n hx hb dX12_isPersonHere_27 rfl (lv_at hl 0 rfl) ?_
    refine hp_getr hx hb hts IX12 hown hK hw.1 hp0 rfl 7 (by decide) L26 rfl dX12_isPersonHere_28 ?_
    refine lv_iconst (v := 2) hx hb dX12_isPersonHere_31 (by decide) ?_
    refine hp_ialdE hx hb hK hw.1 hp0read (vp_iv (show iv 2 2 2 from ⟨by decide, by decide⟩) (by decide)) dX12_isPersonHere_32 (fun v32 h32 E32 => ?_)
    obtain ⟨x32, rfl, bx32⟩ := rP_rd2 h32 (show iv 2 2 2 from ⟨by decide, by decide⟩)
    have obx32 := iv_o bx32
    have u32 := E23_p0read_0.int E32
    have bu32 : iv x32 0 9 := (iv_both bx32 (iv_eq r8tp u32.symm)).mono (by decide) (by decide)
    have obu32 := iv_o bu32
    refine lv_istore_n (lv' := [(2, .int x32), (0, .ref ap0), (1, .int xp1)]) hx hb dX12_isPersonHere_33 rfl hl (by decide) rfl (fun ls hl => ?_)
    refine lv_iconst (v := 0) hx hb dX12_isPersonHere_34 (by decide) ?_
    refine lv_istore_n (lv' := [(3, .int 0), (2, .int x32), (0, .ref ap0), (1, .int xp1)]) hx hb dX12_isPersonHere_35 rfl hl (by decide) rfl (fun ls hl => ?_)
    have J36 : ∀ (n : Nat) (y36_l3 y36_fp0_8 : Int32), (12 - y36_l3.toInt).toNat < n → iv x32 0 9 → iv y36_l3 0 12 → iv xp101 0 400 → iv y36_fp0_8 0 400 → (xp100.toInt ≤ y36_fp0_8.toInt) → ∀ (H : Heap) (locs : List Loc), hp_w D T s H locs → hp_km D [(12, 8), (12, 9), (12, 10)] s.heap H → hp_on (fun q => q = ap0 ∨ q = A 5) s.heap H → hp_f D H ap0 12 1 (.int xp101) → hp_f D H ap0 12 8 (.int y36_fp0_8) → hp_et D 0 H (A 5) (2 : Int32).toNatClampNeg (.int x32) → ∀ (ls : Array Slot), lv_has ls 5 [(0, .ref ap0), (2, .int x32), (3, .int y36_l3)] → WX12_isPersonHere p l e s m below meth c D T ap0 xp1 xp100 xp101 A Tp H locs (F0 m 36 ls []) := by
      intro n
      induction n with
      | zero => intro y36_l3 y36_fp0_8 hmu36 c36_x32 c36_y36_l3 c36_xp101 c36_y36_fp0_8 hv36_0 H36 locs36 hw hkm hon f_p0_1 f_p0_8 EJ_p0read ls hl; exact absurd hmu36 (Nat.not_lt_zero _)
      | succ n ih36 =>
        intro y36_l3 y36_fp0_8 hmu36 c36_x32 c36_y36_l3 c36_xp101 c36_y36_fp0_8 hv36_0 H36 locs36 hw hkm hon f_p0_1 f_p0_8 EJ_p0read ls hl
        have oc36_x32 := iv_o c36_x32
        have oc36_y36_l3 := iv_o c36_y36_l3
        have oc36_xp101 := iv_o c36_xp101
        have oc36_y36_fp0_8 := iv_o c36_y36_fp0_8
        refine lv_iload_n hx hb dX12_isPersonHere_36 rfl (lv_at hl 2 rfl) ?_
        refine lv_aload_n hx hb dX12_isPersonHere_37 rfl (lv_at hl 0 rfl) ?_
        refine hp_getr hx hb hts IX12 hown hK hw.1 hp0 rfl 7 (by decide) L26 rfl dX12_isPersonHere_38 ?_
        refine lv_iconst (v := 1) hx hb dX12_isPersonHere_41 (by decide) ?_
        refine hp_ialdE hx hb hK hw.1 hp0read (vp_iv (show iv 1 1 1 from ⟨by decide, by decide⟩) (by decide)) dX12_isPersonHere_42 (fun v42 h42 E42 => ?_)
        obtain ⟨x42, rfl, bx42⟩ := rP_rd1 h42 (show iv 1 1 1 from ⟨by decide, by decide⟩)
        have obx42 := iv_o bx42
        refine lv_icmp_ge (tgt := 192) hx hb dX12_isPersonHere_43 (by decide) (fun c43 => ?_) (fun c43 => ?_)
        · have oc43 := Int32.le_iff_toInt_le.mp c43
          refine lv_iconst (v := 0) hx hb dX12_isPersonHere_192 (by decide) ?_
          refine lv_istore_n (lv' := [(3, .int 0), (0, .ref ap0), (2, .int x32)]) hx hb dX12_isPersonHere_193 rfl hl (by decide) rfl (fun ls hl => ?_)
          have J194 : ∀ (n : Nat) (y194_l3 y194_fp0_8 : Int32), (4 - y194_l3.toInt).toNat < n → iv x32 0 9 → iv y194_l3 0 4 → iv xp101 0 400 → iv y194_fp0_8 0 400 → (xp100.toInt ≤ y194_fp0_8.toInt) → ∀ (H : Heap) (locs : List Loc), hp_w D T s H locs → hp_km D [(12, 8), (12, 9), (12, 10)] s.heap H → hp_on (fun q => q = ap0 ∨ q = A 5) s.heap H → hp_f D H ap0 12 1 (.int xp101) → hp_f D H ap0 12 8 (.int y194_fp0_8) → hp_et D 0 H (A 5) (2 : Int32).toNatClampNeg (.int x32) → ∀ (ls : Array Slot), lv_has ls 5 [(0, .ref ap0), (2, .int x32), (3, .int y194_l3)] → WX12_isPersonHere p l e s m below meth c D T ap0 xp1 xp100 xp101 A Tp H locs (F0 m 194 ls []) := by
            intro n
            induction n with
            | zero => intro y194_l3 y194_fp0_8 hmu194 c194_x32 c194_y194_l3 c194_xp101 c194_y194_fp0_8 hv194_0 H194 locs194 hw hkm hon f_p0_1 f_p0_8 EJ_p0read ls hl; exact absurd hmu194 (Nat.not_lt_zero _)
            | succ n ih194 =>
              intro y194_l3 y194_fp0_8 hmu194 c194_x32 c194_y194_l3 c194_xp101 c194_y194_fp0_8 hv194_0 H194 locs194 hw hkm hon f_p0_1 f_p0_8 EJ_p0read ls hl
              have oc194_x32 := iv_o c194_x32
              have oc194_y194_l3 := iv_o c194_y194_l3
              have oc194_xp101 := iv_o c194_xp101
              have oc194_y194_fp0_8 := iv_o c194_y194_fp0_8
              refine lv_iload_n hx hb dX12_isPersonHere_194 rfl (lv_at hl 2 rfl) ?_
              refine lv_iconst (v := 4) hx hb dX12_isPersonHere_195 (by decide) ?_
              refine lv_icmp_ge (tgt := 220) hx hb dX12_isPersonHere_196 (by decide) (fun c196 => ?_) (fun c196 => ?_)
              · have oc196 := Int32.le_iff_toInt_le.mp c196
                have r196tq : iv y194_l3 4 4 := (iv_le_r c196 (show iv 4 4 4 from ⟨by decide, by decide⟩) c194_y194_l3).mono (by decide) (by decide)
                have or196tq := iv_o r196tq
                refine lv_aload_n hx hb dX12_isPersonHere_220 rfl (lv_at hl 0 rfl) ?_
                refine hp_getr hx hb hts IX12 hown hK hw.1 hp0 rfl 7 (by decide) L26 rfl dX12_isPersonHere_221 ?_
                refine lv_iconst (v := 2) hx hb dX12_isPersonHere_224 (by decide) ?_
                refine lv_dup2_11 hx hb dX12_isPersonHere_225 rfl rfl ?_
                refine hp_ialdE hx hb hK hw.1 hp0read (vp_iv (show iv 2 2 2 from ⟨by decide, by decide⟩) (by decide)) dX12_isPersonHere_226 (fun v226 h226 E226 => ?_)
                obtain ⟨x226, rfl, bx226⟩ := rP_rd2 h226 (show iv 2 2 2 from ⟨by decide, by decide⟩)
                have obx226 := iv_o bx226
                have u226 := EJ_p0read.int E226
                have bu226 : iv x226 0 9 := (iv_both bx226 (iv_eq c194_x32 u226.symm)).mono (by decide) (by decide)
                have obu226 := iv_o bu226
                refine lv_iconst (v := 1) hx hb dX12_isPersonHere_227 (by decide) ?_
                refine lv_iadd hx hb dX12_isPersonHere_228 ?_
                refine lv_topi (fun x228 ex228 => ?_)
                have bx228 : iv x228 1 10 := iv_add bu226 (show iv 1 1 1 from ⟨by decide, by decide⟩) ex228 (by decide)
                have obx228 := iv_o bx228
                have qx228 := iv_add_eq bu226 (show iv 1 1 1 from ⟨by decide, by decide⟩) ex228 (by decide)
                refine hp_iastE hx hb hK hw hp0read (vp_iv (show iv 2 2 2 from ⟨by decide, by decide⟩) (by decide)) (rP_st2 (bx228.mono (by decide) (by decide))) dX12_isPersonHere_229 (fun H229 locs229 hw g229 o229 ge229 E229 => ?_)
                have hon := hon.trans (hp_on.mono (show hp_on (fun q => q = A 5) _ _ from o229) (fun q h9 => by subst h9; exact Or.inr (rfl)))
                have hkm := hkm.ar g229
                have f_p0_1 := g229 _ _ _ _ f_p0_1
                have f_p0_8 := g229 _ _ _ _ f_p0_8
                refine lv_iconst (v := 1) hx hb dX12_isPersonHere_230 (by decide) ?_
                exact W.zret (v := 1) hx hb hr (iv_nz (show iv 1 0 1 from ⟨by decide, by decide⟩)) (fun t ht hW => ⟨some (.int 1), rfl, ⟨(1 : Int32), rfl, ⟨y194_fp0_8, by rw [ht]; exact hkm, by rw [ht]; exact hon, by rw [ht]; exact f_p0_8, (show iv 1 0 1 from ⟨by decide, by decide⟩), c194_y194_fp0_8, (by intros; omega)⟩⟩, by rw [ht]; exact hw.1, hw.2.F ht⟩) hw.2.2.2 dX12_isPersonHere_231
              · have oc196 := Int32.lt_iff_toInt_lt.mp (iv_nle c196)
                have r196fp : iv y194_l3 0 3 := (iv_lt_l (iv_nle c196) c194_y194_l3 (show iv 4 4 4 from ⟨by decide, by decide⟩)).mono (by decide) (by decide)
                have or196fp := iv_o r196fp
                refine lv_aload_n hx hb dX12_isPersonHere_199 rfl (lv_at hl 0 rfl) ?_
                refine hp_getr hx hb hts IX12 hown hK hw.1 hp0 rfl 7 (by decide) L26 rfl dX12_isPersonHere_200 ?_
                refine lv_sipush (v := 130) hx hb dX12_isPersonHere_203 (by decide) ?_
                refine lv_iconst (v := 4) hx hb dX12_isPersonHere_206 (by decide) ?_
                refine lv_iload_n hx hb dX12_isPersonHere_207 rfl (lv_at hl 1 rfl) ?_
                refine lv_imul hx hb dX12_isPersonHere_208 ?_
                refine lv_topi (fun x208 ex208 => ?_)
                have bx208 : iv x208 0 36 := iv_mul (show iv 4 4 4 from ⟨by decide, by decide⟩) c194_x32 ex208 (by decide)
                have obx208 := iv_o bx208
                refine lv_iadd hx hb dX12_isPersonHere_209 ?_
                refine lv_topi (fun x209 ex209 => ?_)
                have bx209 : iv x209 130 166 := iv_add (show iv 130 130 130 from ⟨by decide, by decide⟩) bx208 ex209 (by decide)
                have obx209 := iv_o bx209
                have qx209 := iv_add_eq (show iv 130 130 130 from ⟨by decide, by decide⟩) bx208 ex209 (by decide)
                refine lv_iload_n hx hb dX12_isPersonHere_210 rfl (lv_at hl 2 rfl) ?_
                refine lv_iadd hx hb dX12_isPersonHere_211 ?_
                refine lv_topi (fun x211 ex211 => ?_)
                have bx211 : iv x211 130 169 := iv_add bx209 r196fp ex211 (by decide)
                have obx211 := iv_o bx211
                have qx211 := iv_add_eq bx209 r196fp ex211 (by decide)
                refine lv_iconst (v := 0) hx hb dX12_isPersonHere_212 (by decide) ?_
                refine hp_iastE hx hb hK hw hp0read (vp_iv bx211 (by decide)) (rP_zero _) dX12_isPersonHere_213 (fun H213 locs213 hw g213 o213 ge213 E213 => ?_)
                have hon := hon.trans (hp_on.mono (show hp_on (fun q => q = A 5) _ _ from o213) (fun q h9 => by subst h9; exact Or.inr (rfl)))
                have E213_2_0 := ge213 _ _ (iv_nei bx211 (by decide) (by decide)) EJ_p0read
                have hkm := hkm.ar g213
                have f_p0_1 := g213 _ _ _ _ f_p0_1
                have f_p0_8 := g213 _ _ _ _ f_p0_8
                obtain ⟨x214, ex214⟩ : ∃ y : Int32, y = y194_l3 + 1 := ⟨_, rfl⟩
                have bx214 : iv x214 1 4 := iv_add r196fp (show iv 1 1 1 from ⟨by decide, by decide⟩) ex214 (by decide)
                have qx214 := iv_add_eq r196fp (show iv 1 1 1 from ⟨by decide, by decide⟩) ex214 (by decide)
                have obx214 := iv_o bx214
                refine lv_iinc (v := x214) (lv' := [(3, .int x214), (0, .ref ap0), (2, .int x32)]) hx hb dX12_isPersonHere_214 hl (k := 2) rfl (by rw [ex214]; rfl) (by decide) rfl (fun ls hl => ?_)
                refine lv_goto (tgt := 194) hx hb dX12_isPersonHere_217 (by decide) ?_
                exact ih194 x214 y194_fp0_8 (mu_up 1 hmu194 (qx214) (by decide) (show iv x214 0 4 from (bx214.mono (by decide) (by decide))).2) c194_x32 (bx214.mono (by decide) (by decide)) c194_xp101 c194_y194_fp0_8 (show xp100.toInt ≤ y194_fp0_8.toInt from by have := (c194_y194_fp0_8).1; have := (c194_y194_fp0_8).2; have := (r196fp).1; have := (r196fp).2; have := (Int32.lt_iff_toInt_lt.mp (iv_nle c196)); have : (4 : Int32).toInt = 4 := (by decide); omega) H213 locs213 hw hkm hon f_p0_1 f_p0_8 E213_2_0 _ (lv_sub hl [1, 2, 0] rfl)
          exact J194 _ (0 : Int32) y36_fp0_8 (Nat.lt_succ_self _) c36_x32 (show iv 0 0 4 from ⟨by decide, by decide⟩) c36_xp101 c36_y36_fp0_8 (show xp100.toInt ≤ y36_fp0_8.toInt from by have := (c36_y36_fp0_8).1; have := (c36_y36_fp0_8).2; have := (bx42).1; have := (bx42).2; have := (c36_y36_l3).1; have := (c36_y36_l3).2; have := (Int32.le_iff_toInt_le.mp c43); omega) H36 locs36 hw hkm hon f_p0_1 f_p0_8 EJ_p0read _ (lv_sub hl [1, 2, 0] rfl)
        · have oc43 := Int32.lt_iff_toInt_lt.mp (iv_nle c43)
          have r43fp : iv y36_l3 0 11 := (iv_lt_l (iv_nle c43) c36_y36_l3 bx42).mono (by decide) (by decide)
          have or43fp := iv_o r43fp
          have r43fq : iv x42 1 12 := (iv_lt_r (iv_nle c43) c36_y36_l3 bx42).mono (by decide) (by decide)
          have or43fq := iv_o r43fq
          refine lv_aload_n hx hb dX12_isPersonHere_46 rfl (lv_at hl 0 rfl) ?_
          refine hp_getf hx hb hts IX12 hown hK f_p0_8 rfl (by decide) L99 dX12_isPersonHere_47 ?_
          refine lv_aload_n hx hb dX12_isPersonHere_50 rfl (lv_at hl 0 rfl) ?_
          refine hp_getf hx hb hts IX12 hown hK f_p0_1 rfl (by decide) L89 dX12_isPersonHere_51 ?_
          refine lv_icmp_ge (tgt := 75) hx hb dX12_isPersonHere_54 (by decide) (fun c54 => ?_) (fun c54 => ?_)
          · have oc54 := Int32.le_iff_toInt_le.mp c54
            refine lv_iconst (v := 0) hx hb dX12_isPersonHere_75 (by decide) ?_
            refine lv_istore (lv' := [(4, .int 0), (0, .ref ap0), (2, .int x32), (3, .int y36_l3)]) hx hb dX12_isPersonHere_76 hl (by decide) rfl (fun ls hl => ?_)
            refine lv_iload hx hb dX12_isPersonHere_78 (lv_at hl 0 rfl) ?_
            have J104_75 : iv x32 0 9 → iv y36_l3 0 11 → iv xp101 0 400 → iv y36_fp0_8 0 399 → (xp100.toInt ≤ y36_fp0_8.toInt) → (y36_fp0_8.toInt ≤ 399) → ∀ (H : Heap) (locs : List Loc), hp_w D T s H locs → hp_km D [(12, 8), (12, 9), (12, 10)] s.heap H → hp_on (fun q => q = ap0 ∨ q = A 5) s.heap H → hp_f D H ap0 12 1 (.int xp101) → hp_f D H ap0 12 8 (.int y36_fp0_8) → hp_et D 0 H (A 5) (2 : Int32).toNatClampNeg (.int x32) → ∀ (ls : Array Slot), lv_has ls 5 [(0, .ref ap0), (2, .int x32), (3, .int y36_l3), (4, .int 0)] → WX12_isPersonHere p l e s m below meth c D T ap0 xp1 xp100 xp101 A Tp H locs (F0 m 104 ls []) := by
              intro c104_x32 c104_y36_l3 c104_xp101 c104_y36_fp0_8 hv104_0 hv104_1 H104 locs104 hw hkm hon f_p0_1 f_p0_8 EJ_p0read ls hl
              have oc104_x32 := iv_o c104_x32
              have oc104_y36_l3 := iv_o c104_y36_l3
              have oc104_xp101 := iv_o c104_xp101
              have oc104_y36_fp0_8 := iv_o c104_y36_fp0_8
              refine lv_iload hx hb dX12_isPersonHere_104 (lv_at hl 3 rfl) ?_
              refine lv_if_ne (tgt := 140) hx hb dX12_isPersonHere_106 (by decide) (fun c106 => ?_) (fun c106 => ?_)
              · have oc106 := iv_neq c106
                exact absurd rfl c106
              · have oc106 := congrArg Int32.toInt c106
                refine lv_aload_n hx hb dX12_isPersonHere_109 rfl (lv_at hl 0 rfl) ?_
                refine hp_getr hx hb hts IX12 hown hK hw.1 hp0 rfl 0 (by decide) L7 rfl dX12_isPersonHere_110 ?_
                refine lv_aload_n hx hb dX12_isPersonHere_113 rfl (lv_at hl 0 rfl) ?_
                refine hp_getf hx hb hts IX12 hown hK f_p0_8 rfl (by decide) L99 dX12_isPersonHere_114 ?_
                refine hp_bald hx hb hK hw.1 hp0tape (vp_iv c104_y36_fp0_8 (by decide)) dX12_isPersonHere_117 (fun v117 h117 => ?_)
                obtain ⟨x117, rfl⟩ := tpok _ _ h117
                have ex117 : Value.int x117 = Tp (y36_fp0_8).toNatClampNeg := h117
                refine lv_bipush (v := 48) hx hb dX12_isPersonHere_118 (by decide) ?_
                refine lv_isub hx hb dX12_isPersonHere_120 ?_
                refine lv_topi (fun x120 ex120 => ?_)
                refine lv_aload_n hx hb dX12_isPersonHere_121 rfl (lv_at hl 0 rfl) ?_
                refine hp_getr hx hb hts IX12 hown hK hw.1 hp0 rfl 7 (by decide) L26 rfl dX12_isPersonHere_122 ?_
                refine lv_iconst (v := 0) hx hb dX12_isPersonHere_125 (by decide) ?_
                refine hp_ialdE hx hb hK hw.1 hp0read (vp_iv (show iv 0 0 0 from ⟨by decide, by decide⟩) (by decide)) dX12_isPersonHere_126 (fun v126 h126 E126 => ?_)
                obtain ⟨x126, rfl, bx126⟩ := rP_rd0 h126 (show iv 0 0 0 from ⟨by decide, by decide⟩)
                have obx126 := iv_o bx126
                refine lv_icmp_lt (tgt := 140) hx hb dX12_isPersonHere_127 (by decide) (fun c127 => ?_) (fun c127 => ?_)
                · have oc127 := Int32.lt_iff_toInt_lt.mp c127
                  have r127tp : iv x120 (-2147483648) 5 := (iv_lt_l c127 (iv_any x120) bx126).mono (by decide) (by decide)
                  have or127tp := iv_o r127tp
                  refine lv_aload_n hx hb dX12_isPersonHere_140 rfl (lv_at hl 0 rfl) ?_
                  refine hp_getr hx hb hts IX12 hown hK hw.1 hp0 rfl 7 (by decide) L26 rfl dX12_isPersonHere_141 ?_
                  refine lv_bipush (v := 10) hx hb dX12_isPersonHere_144 (by decide) ?_
                  refine lv_bipush (v := 12) hx hb dX12_isPersonHere_146 (by decide) ?_
                  refine lv_iload_n hx hb dX12_isPersonHere_148 rfl (lv_at hl 1 rfl) ?_
                  refine lv_imul hx hb dX12_isPersonHere_149 ?_
                  refine lv_topi (fun x149 ex149 => ?_)
                  have bx149 : iv x149 0 108 := iv_mul (show iv 12 12 12 from ⟨by decide, by decide⟩) c104_x32 ex149 (by decide)
                  have obx149 := iv_o bx149
                  refine lv_iadd hx hb dX12_isPersonHere_150 ?_
                  refine lv_topi (fun x150 ex150 => ?_)
                  have bx150 : iv x150 10 118 := iv_add (show iv 10 10 10 from ⟨by decide, by decide⟩) bx149 ex150 (by decide)
                  have obx150 := iv_o bx150
                  have qx150 := iv_add_eq (show iv 10 10 10 from ⟨by decide, by decide⟩) bx149 ex150 (by decide)
                  refine lv_iload_n hx hb dX12_isPersonHere_151 rfl (lv_at hl 2 rfl) ?_
                  refine lv_iadd hx hb dX12_isPersonHere_152 ?_
                  refine lv_topi (fun x152 ex152 => ?_)
                  have bx152 : iv x152 10 129 := iv_add bx150 c104_y36_l3 ex152 (by decide)
                  have obx152 := iv_o bx152
                  have qx152 := iv_add_eq bx150 c104_y36_l3 ex152 (by decide)
                  refine lv_iload hx hb dX12_isPersonHere_153 (lv_at hl 3 rfl) ?_
                  refine lv_if_eq (tgt := 163) hx hb dX12_isPersonHere_155 (by decide) (fun c155 => ?_) (fun c155 => ?_)
                  · have oc155 := congrArg Int32.toInt c155
                    refine lv_aload_n hx hb dX12_isPersonHere_163 rfl (lv_at hl 0 rfl) ?_
                    refine hp_getr hx hb hts IX12 hown hK hw.1 hp0 rfl 0 (by decide) L7 rfl dX12_isPersonHere_164 ?_
                    refine lv_aload_n hx hb dX12_isPersonHere_167 rfl (lv_at hl 0 rfl) ?_
                    refine hp_getf hx hb hts IX12 hown hK f_p0_8 rfl (by decide) L99 dX12_isPersonHere_168 ?_
                    refine hp_bald hx hb hK hw.1 hp0tape (vp_iv c104_y36_fp0_8 (by decide)) dX12_isPersonHere_171 (fun v171 h171 => ?_)
                    obtain ⟨x171, rfl⟩ := tpok _ _ h171
                    have ex171 : Value.int x171 = Tp (y36_fp0_8).toNatClampNeg := h171
                    refine lv_bipush (v := 48) hx hb dX12_isPersonHere_172 (by decide) ?_
                    refine lv_isub hx hb dX12_isPersonHere_174 ?_
                    refine lv_topi (fun x174 ex174 => ?_)
                    refine hp_iastE hx hb hK hw hp0read (vp_iv bx152 (by decide)) (rP_st bx152 (by decide)) dX12_isPersonHere_175 (fun H175 locs175 hw g175 o175 ge175 E175 => ?_)
                    have hon := hon.trans (hp_on.mono (show hp_on (fun q => q = A 5) _ _ from o175) (fun q h9 => by subst h9; exact Or.inr (rfl)))
                    have E175_2_0 := ge175 _ _ (iv_nei bx152 (by decide) (by decide)) EJ_p0read
                    have E175_0_1 := ge175 _ _ (iv_nei bx152 (by decide) (by decide)) E126
                    have hkm := hkm.ar g175
                    have f_p0_1 := g175 _ _ _ _ f_p0_1
                    have f_p0_8 := g175 _ _ _ _ f_p0_8
                    refine lv_aload_n hx hb dX12_isPersonHere_176 rfl (lv_at hl 0 rfl) ?_
                    refine lv_dup hx hb dX12_isPersonHere_177 rfl ?_
                    refine hp_getf hx hb hts IX12 hown hK f_p0_8 rfl (by decide) L99 dX12_isPersonHere_178 ?_
                    refine lv_iconst (v := 1) hx hb dX12_isPersonHere_181 (by decide) ?_
                    refine lv_iadd hx hb dX12_isPersonHere_182 ?_
                    refine lv_topi (fun x182 ex182 => ?_)
                    have bx182 : iv x182 1 400 := iv_add c104_y36_fp0_8 (show iv 1 1 1 from ⟨by decide, by decide⟩) ex182 (by decide)
                    have obx182 := iv_o bx182
                    have qx182 := iv_add_eq c104_y36_fp0_8 (show iv 1 1 1 from ⟨by decide, by decide⟩) ex182 (by decide)
                    refine hp_putE hx hb hts IX12 tyX12 tyX12_ok nmX12 hown hK hw hp0 rfl 8 (by decide) L99 rfl rfl ⟨_, rfl, (bx182.mono (by decide) (by decide))⟩ rfl rfl dX12_isPersonHere_183 (fun H183 locs183 hw f183n g183 on183 => ?_)
                    have hon := hon.trans (hp_on.mono (show hp_on (fun q => q = ap0) _ _ from on183) (fun q h9 => by rcases h9 with rfl; exact Or.inl rfl))
                    have E183_p0read_0 := hp_et.kept E175_2_0 (on183 _ (fun h9 => hp_ne_ao hp0read hp0 h9))
                    have E183_p0read_1 := hp_et.kept E175_0_1 (on183 _ (fun h9 => hp_ne_ao hp0read hp0 h9))
                    have hkm := hkm.put g183 (by decide)
                    have f_p0_1 := g183 _ _ _ _ f_p0_1 (Or.inr ⟨rfl, by decide⟩)
                    obtain ⟨x186, ex186⟩ : ∃ y : Int32, y = y36_l3 + 1 := ⟨_, rfl⟩
                    have bx186 : iv x186 1 12 := iv_add c104_y36_l3 (show iv 1 1 1 from ⟨by decide, by decide⟩) ex186 (by decide)
                    have qx186 := iv_add_eq c104_y36_l3 (show iv 1 1 1 from ⟨by decide, by decide⟩) ex186 (by decide)
                    have obx186 := iv_o bx186
                    refine lv_iinc (v := x186) (lv' := [(3, .int x186), (0, .ref ap0), (2, .int x32), (4, .int 0)]) hx hb dX12_isPersonHere_186 hl (k := 2) rfl (by rw [ex186]; rfl) (by decide) rfl (fun ls hl => ?_)
                    refine lv_goto (tgt := 36) hx hb dX12_isPersonHere_189 (by decide) ?_
                    exact ih36 x186 x182 (mu_up 1 hmu36 (qx186) (by decide) (show iv x186 0 12 from (bx186.mono (by decide) (by decide))).2) c104_x32 (bx186.mono (by decide) (by decide)) c104_xp101 (bx182.mono (by decide) (by decide)) (show xp100.toInt ≤ x182.toInt from by have := (bx182).1; have := (bx182).2; have := (r127tp).1; have := (r127tp).2; have := (bx126).1; have := (bx126).2; have := (c104_y36_fp0_8).1; have := (c104_y36_fp0_8).2; have := (Int32.lt_iff_toInt_lt.mp c127); have : (1 : Int32).toInt = 1 := (by decide); omega) H183 locs183 hw hkm hon f_p0_1 f183n E183_p0read_0 _ (lv_sub hl [1, 2, 0] rfl)
                  · have oc155 := iv_neq c155
                    exact absurd rfl c155
                · have oc127 := Int32.le_iff_toInt_le.mp (iv_nlt c127)
                  have r127fq : iv x120 0 2147483647 := (iv_le_r (iv_nlt c127) bx126 (iv_any x120)).mono (by decide) (by decide)
                  have or127fq := iv_o r127fq
                  refine lv_aload_n hx hb dX12_isPersonHere_130 rfl (lv_at hl 0 rfl) ?_
                  refine lv_iconst (v := 1) hx hb dX12_isPersonHere_131 (by decide) ?_
                  refine lv_aload_n hx hb dX12_isPersonHere_132 rfl (lv_at hl 0 rfl) ?_
                  refine hp_getf hx hb hts IX12 hown hK f_p0_8 rfl (by decide) L99 dX12_isPersonHere_133 ?_
                  refine hp_callei (va_runV (As := [.int 1, .int y36_fp0_8]) (rest := []) ⟨hx, hb, hml, hown, hts⟩ (sX12_fails l D T ap0 (1 : Int32) y36_fp0_8 A Gm Tp ip0) (cwV 2 hts gX12_isPersonHere_X12_fails rfl rfl rfl (by decide +kernel) ⟨Nat.le_of_ble_eq_true rfl, Nat.le_of_ble_eq_true rfl⟩) (hp_preV hG hw hp0 rfl trivial) rfl rfl hl.1 rfl (lv_room (Nat.le_of_ble_eq_true rfl)) dX12_isPersonHere_136 ⟨Nat.zero_le _, Nat.zero_le _⟩) hw (fun x136 st136 t136 H136 locs136 eh136 eg136 bx136 hw => ?_)
                  obtain ⟨g136, on136, cx136⟩ := bx136
                  rw [eh136, eg136] at g136 on136
                  have E136_p0read_0 := hp_et.kept EJ_p0read (on136 _ (fun h9 => hp_ne_ao hp0read hp0 h9))
                  have E136_p0read_1 := hp_et.kept E126 (on136 _ (fun h9 => hp_ne_ao hp0read hp0 h9))
                  have hkm := hkm.call g136 (by decide)
                  have hon := hon.trans (hp_on.mono on136 (fun q h9 => by rcases h9 with rfl; exact Or.inl rfl))
                  have f_p0_1 := g136 _ _ _ _ f_p0_1 (by decide)
                  have f_p0_8 := g136 _ _ _ _ f_p0_8 (by decide)
                  have ocx136 := iv_o cx136
                  exact W.zret (v := x136) hx hb hr (iv_nz (cx136.mono (by decide) (by decide))) (fun t ht hW => ⟨some (.int x136), rfl, ⟨x136, rfl, ⟨y36_fp0_8, by rw [ht]; exact hkm, by rw [ht]; exact hon, by rw [ht]; exact f_p0_8, (cx136.mono (by decide) (by decide)), (c104_y36_fp0_8.mono (by decide) (by decide)), (by intros; omega)⟩⟩, by rw [ht]; exact hw.1, hw.2.F ht⟩) hw.2.2.2 dX12_isPersonHere_139
            refine lv_if_ne (tgt := 104) hx hb dX12_isPersonHere_80 (by decide) (fun c80 => ?_) (fun c80 => ?_)
            · have oc80 := iv_neq c80
              exact absurd rfl c80
            · have oc80 := congrArg Int32.toInt c80
              refine lv_aload_n hx hb dX12_isPersonHere_83 rfl (lv_at hl 1 rfl) ?_
              refine lv_aload_n hx hb dX12_isPersonHere_84 rfl (lv_at hl 1 rfl) ?_
              refine hp_getf hx hb hts IX12 hown hK f_p0_8 rfl (by decide) L99 dX12_isPersonHere_85 ?_
              refine hp_callpi (va_runV (As := [.int y36_fp0_8]) (rest := []) ⟨hx, hb, hml, hown, hts⟩ (sX12_isDigit l D T ap0 y36_fp0_8 xp101 A Gm Tp ip0 (c36_y36_fp0_8.mono (by decide) (by decide)) c36_xp101) (cwV 1 hts gX12_isPersonHere_X12_isDigit rfl rfl rfl (by decide +kernel) ⟨Nat.le_of_ble_eq_true rfl, Nat.le_of_ble_eq_true rfl⟩) (hp_preV hG hw hp0 rfl f_p0_1) rfl rfl hl.1 rfl (lv_room (Nat.le_of_ble_eq_true rfl)) dX12_isPersonHere_88 ⟨Nat.zero_le _, Nat.zero_le _⟩) (fun x88 bx88 => ?_)
              obtain ⟨cx88, R88_0, R88_1, R88_2⟩ := bx88
              have ocx88 := iv_o cx88
              refine lv_if_ne (tgt := 104) hx hb dX12_isPersonHere_91 (by decide) (fun c91 => ?_) (fun c91 => ?_)
              · have oc91 := iv_neq c91
                have r91tp : iv x88 1 1 := (iv_ne_lo c91 cx88 rfl).mono (by decide) (by decide)
                have or91tp := iv_o r91tp
                have r91tpz : iv y36_fp0_8 0 399 := (iv_both c36_y36_fp0_8 (R88_2 (iv_ne0 r91tp (by decide)))).mono (by decide) (by decide)
                have or91tpz := iv_o r91tpz
                exact J104_75 c36_x32 r43fp c36_xp101 r91tpz (show xp100.toInt ≤ y36_fp0_8.toInt from by have := (r91tpz).1; have := (r91tpz).2; have := (r43fp).1; have := (r43fp).2; have := (r43fq).1; have := (r43fq).2; have := (c36_xp101).1; have := (c36_xp101).2; have := (Int32.lt_iff_toInt_lt.mp (iv_nle c43)); have := (Int32.le_iff_toInt_le.mp c54); have : (0 : Int32).toInt = 0 := (by decide); omega) (show y36_fp0_8.toInt ≤ 399 from by have := (r91tpz).1; have := (r91tpz).2; have := (r43fp).1; have := (r43fp).2; have := (r43fq).1; have := (r43fq).2; have := (c36_xp101).1; have := (c36_xp101).2; have := (Int32.lt_iff_toInt_lt.mp (iv_nle c43)); have := (Int32.le_iff_toInt_le.mp c54); have : (0 : Int32).toInt = 0 := (by decide); omega) H36 locs36 hw hkm hon f_p0_1 f_p0_8 EJ_p0read _ (lv_sub hl [1, 2, 3, 0] rfl)
              · have oc91 := congrArg Int32.toInt c91
                have r91fp : iv x88 0 0 := (iv_both cx88 (iv_eq (show iv 0 0 0 from ⟨by decide, by decide⟩) c91)).mono (by decide) (by decide)
                have or91fp := iv_o r91fp
                refine lv_aload_n hx hb dX12_isPersonHere_94 rfl (lv_at hl 1 rfl) ?_
                refine lv_iconst (v := 0) hx hb dX12_isPersonHere_95 (by decide) ?_
                refine lv_aload_n hx hb dX12_isPersonHere_96 rfl (lv_at hl 1 rfl) ?_
                refine hp_getf hx hb hts IX12 hown hK f_p0_8 rfl (by decide) L99 dX12_isPersonHere_97 ?_
                refine hp_callei (va_runV (As := [.int 0, .int y36_fp0_8]) (rest := []) ⟨hx, hb, hml, hown, hts⟩ (sX12_fails l D T ap0 (0 : Int32) y36_fp0_8 A Gm Tp ip0) (cwV 2 hts gX12_isPersonHere_X12_fails rfl rfl rfl (by decide +kernel) ⟨Nat.le_of_ble_eq_true rfl, Nat.le_of_ble_eq_true rfl⟩) (hp_preV hG hw hp0 rfl trivial) rfl rfl hl.1 rfl (lv_room (Nat.le_of_ble_eq_true rfl)) dX12_isPersonHere_100 ⟨Nat.zero_le _, Nat.zero_le _⟩) hw (fun x100 st100 t100 H100 locs100 eh100 eg100 bx100 hw => ?_)
                obtain ⟨g100, on100, cx100⟩ := bx100
                rw [eh100, eg100] at g100 on100
                have E100_p0read_0 := hp_et.kept EJ_p0read (on100 _ (fun h9 => hp_ne_ao hp0read hp0 h9))
                have E100_p0read_1 := hp_et.kept E42 (on100 _ (fun h9 => hp_ne_ao hp0read hp0 h9))
                have hkm := hkm.call g100 (by decide)
                have hon := hon.trans (hp_on.mono on100 (fun q h9 => by rcases h9 with rfl; exact Or.inl rfl))
                have f_p0_1 := g100 _ _ _ _ f_p0_1 (by decide)
                have f_p0_8 := g100 _ _ _ _ f_p0_8 (by decide)
                have ocx100 := iv_o cx100
                exact W.zret (v := x100) hx hb hr (iv_nz (cx100.mono (by decide) (by decide))) (fun t ht hW => ⟨some (.int x100), rfl, ⟨x100, rfl, ⟨y36_fp0_8, by rw [ht]; exact hkm, by rw [ht]; exact hon, by rw [ht]; exact f_p0_8, (cx100.mono (by decide) (by decide)), c36_y36_fp0_8, (by intros; omega)⟩⟩, by rw [ht]; exact hw.1, hw.2.F ht⟩) hw.2.2.2 dX12_isPersonHere_103
          · have oc54 := Int32.lt_iff_toInt_lt.mp (iv_nle c54)
            have r54fp : iv y36_fp0_8 0 399 := (iv_lt_l (iv_nle c54) c36_y36_fp0_8 c36_xp101).mono (by decide) (by decide)
            have or54fp := iv_o r54fp
            have r54fq : iv xp101 1 400 := (iv_lt_r (iv_nle c54) c36_y36_fp0_8 c36_xp101).mono (by decide) (by decide)
            have or54fq := iv_o r54fq
            refine lv_aload_n hx hb dX12_isPersonHere_57 rfl (lv_at hl 0 rfl) ?_
            refine hp_getr hx hb hts IX12 hown hK hw.1 hp0 rfl 0 (by decide) L7 rfl dX12_isPersonHere_58 ?_
            refine lv_aload_n hx hb dX12_isPersonHere_61 rfl (lv_at hl 0 rfl) ?_
            refine hp_getf hx hb hts IX12 hown hK f_p0_8 rfl (by decide) L99 dX12_isPersonHere_62 ?_
            refine hp_bald hx hb hK hw.1 hp0tape (vp_iv r54fp (by decide)) dX12_isPersonHere_65 (fun v65 h65 => ?_)
            obtain ⟨x65, rfl⟩ := tpok _ _ h65
            have ex65 : Value.int x65 = Tp (y36_fp0_8).toNatClampNeg := h65
            refine lv_bipush (v := 45) hx hb dX12_isPersonHere_66 (by decide) ?_
            refine lv_icmp_ne (tgt := 75) hx hb dX12_isPersonHere_68 (by decide) (fun c68 => ?_) (fun c68 => ?_)
            · have oc68 := iv_neq c68
              refine lv_iconst (v := 0) hx hb dX12_isPersonHere_75 (by decide) ?_
              refine lv_istore (lv' := [(4, .int 0), (0, .ref ap0), (2, .int x32), (3, .int y36_l3)]) hx hb dX12_isPersonHere_76 hl (by decide) rfl (fun ls hl => ?_)
              refine lv_iload hx hb dX12_isPersonHere_78 (lv_at hl 0 rfl) ?_
              have J104_75 : iv x32 0 9 → iv y36_l3 0 11 → iv xp101 0 400 → iv y36_fp0_8 0 399 → (xp100.toInt ≤ y36_fp0_8.toInt) → (y36_fp0_8.toInt ≤ 399) → ∀ (H : Heap) (locs : List Loc), hp_w D T s H locs → hp_km D [(12, 8), (12, 9), (12, 10)] s.heap H → hp_on (fun q => q = ap0 ∨ q = A 5) s.heap H → hp_f D H ap0 12 1 (.int xp101) → hp_f D H ap0 12 8 (.int y36_fp0_8) → hp_et D 0 H (A 5) (2 : Int32).toNatClampNeg (.int x32) → ∀ (ls : Array Slot), lv_has ls 5 [(0, .ref ap0), (2, .int x32), (3, .int y36_l3), (4, .int 0)] → WX12_isPersonHere p l e s m below meth c D T ap0 xp1 xp100 xp101 A Tp H locs (F0 m 104 ls []) := by
                intro c104_x32 c104_y36_l3 c104_xp101 c104_y36_fp0_8 hv104_0 hv104_1 H104 locs104 hw hkm hon f_p0_1 f_p0_8 EJ_p0read ls hl
                have oc104_x32 := iv_o c104_x32
                have oc104_y36_l3 := iv_o c104_y36_l3
                have oc104_xp101 := iv_o c104_xp101
                have oc104_y36_fp0_8 := iv_o c104_y36_fp0_8
                refine lv_iload hx hb dX12_isPersonHere_104 (lv_at hl 3 rfl) ?_
                refine lv_if_ne (tgt := 140) hx hb dX12_isPersonHere_106 (by decide) (fun c106 => ?_) (fun c106 => ?_)
                · have oc106 := iv_neq c106
                  exact absurd rfl c106
                · have oc106 := congrArg Int32.toInt c106
                  refine lv_aload_n hx hb dX12_isPersonHere_109 rfl (lv_at hl 0 rfl) ?_
                  refine hp_getr hx hb hts IX12 hown hK hw.1 hp0 rfl 0 (by decide) L7 rfl dX12_isPersonHere_110 ?_
                  refine lv_aload_n hx hb dX12_isPersonHere_113 rfl (lv_at hl 0 rfl) ?_
                  refine hp_getf hx hb hts IX12 hown hK f_p0_8 rfl (by decide) L99 dX12_isPersonHere_114 ?_
                  refine hp_bald hx hb hK hw.1 hp0tape (vp_iv c104_y36_fp0_8 (by decide)) dX12_isPersonHere_117 (fun v117 h117 => ?_)
                  obtain ⟨x117, rfl⟩ := tpok _ _ h117
                  have ex117 : Value.int x117 = Tp (y36_fp0_8).toNatClampNeg := h117
                  refine lv_bipush (v := 48) hx hb dX12_isPersonHere_118 (by decide) ?_
                  refine lv_isub hx hb dX12_isPersonHere_120 ?_
                  refine lv_topi (fun x120 ex120 => ?_)
                  refine lv_aload_n hx hb dX12_isPersonHere_121 rfl (lv_at hl 0 rfl) ?_
                  refine hp_getr hx hb hts IX12 hown hK hw.1 hp0 rfl 7 (by decide) L26 rfl dX12_isPersonHere_122 ?_
                  refine lv_iconst (v := 0) hx hb dX12_isPersonHere_125 (by decide) ?_
                  refine hp_ialdE hx hb hK hw.1 hp0read (vp_iv (show iv 0 0 0 from ⟨by decide, by decide⟩) (by decide)) dX12_isPersonHere_126 (fun v126 h126 E126 => ?_)
                  obtain ⟨x126, rfl, bx126⟩ := rP_rd0 h126 (show iv 0 0 0 from ⟨by decide, by decide⟩)
                  have obx126 := iv_o bx126
                  refine lv_icmp_lt (tgt := 140) hx hb dX12_isPersonHere_127 (by decide) (fun c127 => ?_) (fun c127 => ?_)
                  · have oc127 := Int32.lt_iff_toInt_lt.mp c127
                    have r127tp : iv x120 (-2147483648) 5 := (iv_lt_l c127 (iv_any x120) bx126).mono (by decide) (by decide)
                    have or127tp := iv_o r127tp
                    refine lv_aload_n hx hb dX12_isPersonHere_140 rfl (lv_at hl 0 rfl) ?_
                    refine hp_getr hx hb hts IX12 hown hK hw.1 hp0 rfl 7 (by decide) L26 rfl dX12_isPersonHere_141 ?_
                    refine lv_bipush (v := 10) hx hb dX12_isPersonHere_144 (by decide) ?_
                    refine lv_bipush (v := 12) hx hb dX12_isPersonHere_146 (by decide) ?_
                    refine lv_iload_n hx hb dX12_isPersonHere_148 rfl (lv_at hl 1 rfl) ?_
                    refine lv_imul hx hb dX12_isPersonHere_149 ?_
                    refine lv_topi (fun x149 ex149 => ?_)
                    have bx149 : iv x149 0 108 := iv_mul (show iv 12 12 12 from ⟨by decide, by decide⟩) c104_x32 ex149 (by decide)
                    have obx149 := iv_o bx149
                    refine lv_iadd hx hb dX12_isPersonHere_150 ?_
                    refine lv_topi (fun x150 ex150 => ?_)
                    have bx150 : iv x150 10 118 := iv_add (show iv 10 10 10 from ⟨by decide, by decide⟩) bx149 ex150 (by decide)
                    have obx150 := iv_o bx150
                    have qx150 := iv_add_eq (show iv 10 10 10 from ⟨by decide, by decide⟩) bx149 ex150 (by decide)
                    refine lv_iload_n hx hb dX12_isPersonHere_151 rfl (lv_at hl 2 rfl) ?_
                    refine lv_iadd hx hb dX12_isPersonHere_152 ?_
                    refine lv_topi (fun x152 ex152 => ?_)
                    have bx152 : iv x152 10 129 := iv_add bx150 c104_y36_l3 ex152 (by decide)
                    have obx152 := iv_o bx152
                    have qx152 := iv_add_eq bx150 c104_y36_l3 ex152 (by decide)
                    refine lv_iload hx hb dX12_isPersonHere_153 (lv_at hl 3 rfl) ?_
                    refine lv_if_eq (tgt := 163) hx hb dX12_isPersonHere_155 (by decide) (fun c155 => ?_) (fun c155 => ?_)
                    · have oc155 := congrArg Int32.toInt c155
                      refine lv_aload_n hx hb dX12_isPersonHere_163 rfl (lv_at hl 0 rfl) ?_
                      refine hp_getr hx hb hts IX12 hown hK hw.1 hp0 rfl 0 (by decide) L7 rfl dX12_isPersonHere_164 ?_
                      refine lv_aload_n hx hb dX12_isPersonHere_167 rfl (lv_at hl 0 rfl) ?_
                      refine hp_getf hx hb hts IX12 hown hK f_p0_8 rfl (by decide) L99 dX12_isPersonHere_168 ?_
                      refine hp_bald hx hb hK hw.1 hp0tape (vp_iv c104_y36_fp0_8 (by decide)) dX12_isPersonHere_171 (fun v171 h171 => ?_)
                      obtain ⟨x171, rfl⟩ := tpok _ _ h171
                      have ex171 : Value.int x171 = Tp (y36_fp0_8).toNatClampNeg := h171
                      refine lv_bipush (v := 48) hx hb dX12_isPersonHere_172 (by decide) ?_
                      refine lv_isub hx hb dX12_isPersonHere_174 ?_
                      refine lv_topi (fun x174 ex174 => ?_)
                      refine hp_iastE hx hb hK hw hp0read (vp_iv bx152 (by decide)) (rP_st bx152 (by decide)) dX12_isPersonHere_175 (fun H175 locs175 hw g175 o175 ge175 E175 => ?_)
                      have hon := hon.trans (hp_on.mono (show hp_on (fun q => q = A 5) _ _ from o175) (fun q h9 => by subst h9; exact Or.inr (rfl)))
                      have E175_2_0 := ge175 _ _ (iv_nei bx152 (by decide) (by decide)) EJ_p0read
                      have E175_0_1 := ge175 _ _ (iv_nei bx152 (by decide) (by decide)) E126
                      have hkm := hkm.ar g175
                      have f_p0_1 := g175 _ _ _ _ f_p0_1
                      have f_p0_8 := g175 _ _ _ _ f_p0_8
                      refine lv_aload_n hx hb dX12_isPersonHere_176 rfl (lv_at hl 0 rfl) ?_
                      refine lv_dup hx hb dX12_isPersonHere_177 rfl ?_
                      refine hp_getf hx hb hts IX12 hown hK f_p0_8 rfl (by decide) L99 dX12_isPersonHere_178 ?_
                      refine lv_iconst (v := 1) hx hb dX12_isPersonHere_181 (by decide) ?_
                      refine lv_iadd hx hb dX12_isPersonHere_182 ?_
                      refine lv_topi (fun x182 ex182 => ?_)
                      have bx182 : iv x182 1 400 := iv_add c104_y36_fp0_8 (show iv 1 1 1 from ⟨by decide, by decide⟩) ex182 (by decide)
                      have obx182 := iv_o bx182
                      have qx182 := iv_add_eq c104_y36_fp0_8 (show iv 1 1 1 from ⟨by decide, by decide⟩) ex182 (by decide)
                      refine hp_putE hx hb hts IX12 tyX12 tyX12_ok nmX12 hown hK hw hp0 rfl 8 (by decide) L99 rfl rfl ⟨_, rfl, (bx182.mono (by decide) (by decide))⟩ rfl rfl dX12_isPersonHere_183 (fun H183 locs183 hw f183n g183 on183 => ?_)
                      have hon := hon.trans (hp_on.mono (show hp_on (fun q => q = ap0) _ _ from on183) (fun q h9 => by rcases h9 with rfl; exact Or.inl rfl))
                      have E183_p0read_0 := hp_et.kept E175_2_0 (on183 _ (fun h9 => hp_ne_ao hp0read hp0 h9))
                      have E183_p0read_1 := hp_et.kept E175_0_1 (on183 _ (fun h9 => hp_ne_ao hp0read hp0 h9))
                      have hkm := hkm.put g183 (by decide)
                      have f_p0_1 := g183 _ _ _ _ f_p0_1 (Or.inr ⟨rfl, by decide⟩)
                      obtain ⟨x186, ex186⟩ : ∃ y : Int32, y = y36_l3 + 1 := ⟨_, rfl⟩
                      have bx186 : iv x186 1 12 := iv_add c104_y36_l3 (show iv 1 1 1 from ⟨by decide, by decide⟩) ex186 (by decide)
                      have qx186 := iv_add_eq c104_y36_l3 (show iv 1 1 1 from ⟨by decide, by decide⟩) ex186 (by decide)
                      have obx186 := iv_o bx186
                      refine lv_iinc (v := x186) (lv' := [(3, .int x186), (0, .ref ap0), (2, .int x32), (4, .int 0)]) hx hb dX12_isPersonHere_186 hl (k := 2) rfl (by rw [ex186]; rfl) (by decide) rfl (fun ls hl => ?_)
                      refine lv_goto (tgt := 36) hx hb dX12_isPersonHere_189 (by decide) ?_
                      exact ih36 x186 x182 (mu_up 1 hmu36 (qx186) (by decide) (show iv x186 0 12 from (bx186.mono (by decide) (by decide))).2) c104_x32 (bx186.mono (by decide) (by decide)) c104_xp101 (bx182.mono (by decide) (by decide)) (show xp100.toInt ≤ x182.toInt from by have := (bx182).1; have := (bx182).2; have := (r127tp).1; have := (r127tp).2; have := (bx126).1; have := (bx126).2; have := (c104_y36_fp0_8).1; have := (c104_y36_fp0_8).2; have := (Int32.lt_iff_toInt_lt.mp c127); have : (1 : Int32).toInt = 1 := (by decide); omega) H183 locs183 hw hkm hon f_p0_1 f183n E183_p0read_0 _ (lv_sub hl [1, 2, 0] rfl)
                    · have oc155 := iv_neq c155
                      exact absurd rfl c155
                  · have oc127 := Int32.le_iff_toInt_le.mp (iv_nlt c127)
                    have r127fq : iv x120 0 2147483647 := (iv_le_r (iv_nlt c127) bx126 (iv_any x120)).mono (by decide) (by decide)
                    have or127fq := iv_o r127fq
                    refine lv_aload_n hx hb dX12_isPersonHere_130 rfl (lv_at hl 0 rfl) ?_
                    refine lv_iconst (v := 1) hx hb dX12_isPersonHere_131 (by decide) ?_
                    refine lv_aload_n hx hb dX12_isPersonHere_132 rfl (lv_at hl 0 rfl) ?_
                    refine hp_getf hx hb hts IX12 hown hK f_p0_8 rfl (by decide) L99 dX12_isPersonHere_133 ?_
                    refine hp_callei (va_runV (As := [.int 1, .int y36_fp0_8]) (rest := []) ⟨hx, hb, hml, hown, hts⟩ (sX12_fails l D T ap0 (1 : Int32) y36_fp0_8 A Gm Tp ip0) (cwV 2 hts gX12_isPersonHere_X12_fails rfl rfl rfl (by decide +kernel) ⟨Nat.le_of_ble_eq_true rfl, Nat.le_of_ble_eq_true rfl⟩) (hp_preV hG hw hp0 rfl trivial) rfl rfl hl.1 rfl (lv_room (Nat.le_of_ble_eq_true rfl)) dX12_isPersonHere_136 ⟨Nat.zero_le _, Nat.zero_le _⟩) hw (fun x136 st136 t136 H136 locs136 eh136 eg136 bx136 hw => ?_)
                    obtain ⟨g136, on136, cx136⟩ := bx136
                    rw [eh136, eg136] at g136 on136
                    have E136_p0read_0 := hp_et.kept EJ_p0read (on136 _ (fun h9 => hp_ne_ao hp0read hp0 h9))
                    have E136_p0read_1 := hp_et.kept E126 (on136 _ (fun h9 => hp_ne_ao hp0read hp0 h9))
                    have hkm := hkm.call g136 (by decide)
                    have hon := hon.trans (hp_on.mono on136 (fun q h9 => by rcases h9 with rfl; exact Or.inl rfl))
                    have f_p0_1 := g136 _ _ _ _ f_p0_1 (by decide)
                    have f_p0_8 := g136 _ _ _ _ f_p0_8 (by decide)
                    have ocx136 := iv_o cx136
                    exact W.zret (v := x136) hx hb hr (iv_nz (cx136.mono (by decide) (by decide))) (fun t ht hW => ⟨some (.int x136), rfl, ⟨x136, rfl, ⟨y36_fp0_8, by rw [ht]; exact hkm, by rw [ht]; exact hon, by rw [ht]; exact f_p0_8, (cx136.mono (by decide) (by decide)), (c104_y36_fp0_8.mono (by decide) (by decide)), (by intros; omega)⟩⟩, by rw [ht]; exact hw.1, hw.2.F ht⟩) hw.2.2.2 dX12_isPersonHere_139
              refine lv_if_ne (tgt := 104) hx hb dX12_isPersonHere_80 (by decide) (fun c80 => ?_) (fun c80 => ?_)
              · have oc80 := iv_neq c80
                exact absurd rfl c80
              · have oc80 := congrArg Int32.toInt c80
                refine lv_aload_n hx hb dX12_isPersonHere_83 rfl (lv_at hl 1 rfl) ?_
                refine lv_aload_n hx hb dX12_isPersonHere_84 rfl (lv_at hl 1 rfl) ?_
                refine hp_getf hx hb hts IX12 hown hK f_p0_8 rfl (by decide) L99 dX12_isPersonHere_85 ?_
                refine hp_callpi (va_runV (As := [.int y36_fp0_8]) (rest := []) ⟨hx, hb, hml, hown, hts⟩ (sX12_isDigit l D T ap0 y36_fp0_8 xp101 A Gm Tp ip0 (r54fp.mono (by decide) (by decide)) (r54fq.mono (by decide) (by decide))) (cwV 1 hts gX12_isPersonHere_X12_isDigit rfl rfl rfl (by decide +kernel) ⟨Nat.le_of_ble_eq_true rfl, Nat.le_of_ble_eq_true rfl⟩) (hp_preV hG hw hp0 rfl f_p0_1) rfl rfl hl.1 rfl (lv_room (Nat.le_of_ble_eq_true rfl)) dX12_isPersonHere_88 ⟨Nat.zero_le _, Nat.zero_le _⟩) (fun x88 bx88 => ?_)
                obtain ⟨cx88, R88_0, R88_1, R88_2⟩ := bx88
                have ocx88 := iv_o cx88
                refine lv_if_ne (tgt := 104) hx hb dX12_isPersonHere_91 (by decide) (fun c91 => ?_) (fun c91 => ?_)
                · have oc91 := iv_neq c91
                  have r91tp : iv x88 1 1 := (iv_ne_lo c91 cx88 rfl).mono (by decide) (by decide)
                  have or91tp := iv_o r91tp
                  exact J104_75 c36_x32 r43fp (r54fq.mono (by decide) (by decide)) r54fp (show xp100.toInt ≤ y36_fp0_8.toInt from by have := (r54fp).1; have := (r54fp).2; have := (r43fp).1; have := (r43fp).2; have := (r43fq).1; have := (r43fq).2; have := (r54fq).1; have := (r54fq).2; have := (Int32.lt_iff_toInt_lt.mp (iv_nle c43)); have := (Int32.lt_iff_toInt_lt.mp (iv_nle c54)); have : (0 : Int32).toInt = 0 := (by decide); have : (45 : Int32).toInt = 45 := (by decide); omega) (show y36_fp0_8.toInt ≤ 399 from by have := (r54fp).1; have := (r54fp).2; have := (r43fp).1; have := (r43fp).2; have := (r43fq).1; have := (r43fq).2; have := (r54fq).1; have := (r54fq).2; have := (Int32.lt_iff_toInt_lt.mp (iv_nle c43)); have := (Int32.lt_iff_toInt_lt.mp (iv_nle c54)); have : (0 : Int32).toInt = 0 := (by decide); have : (45 : Int32).toInt = 45 := (by decide); omega) H36 locs36 hw hkm hon f_p0_1 f_p0_8 EJ_p0read _ (lv_sub hl [1, 2, 3, 0] rfl)
                · have oc91 := congrArg Int32.toInt c91
                  have r91fp : iv x88 0 0 := (iv_both cx88 (iv_eq (show iv 0 0 0 from ⟨by decide, by decide⟩) c91)).mono (by decide) (by decide)
                  have or91fp := iv_o r91fp
                  refine lv_aload_n hx hb dX12_isPersonHere_94 rfl (lv_at hl 1 rfl) ?_
                  refine lv_iconst (v := 0) hx hb dX12_isPersonHere_95 (by decide) ?_
                  refine lv_aload_n hx hb dX12_isPersonHere_96 rfl (lv_at hl 1 rfl) ?_
                  refine hp_getf hx hb hts IX12 hown hK f_p0_8 rfl (by decide) L99 dX12_isPersonHere_97 ?_
                  refine hp_callei (va_runV (As := [.int 0, .int y36_fp0_8]) (rest := []) ⟨hx, hb, hml, hown, hts⟩ (sX12_fails l D T ap0 (0 : Int32) y36_fp0_8 A Gm Tp ip0) (cwV 2 hts gX12_isPersonHere_X12_fails rfl rfl rfl (by decide +kernel) ⟨Nat.le_of_ble_eq_true rfl, Nat.le_of_ble_eq_true rfl⟩) (hp_preV hG hw hp0 rfl trivial) rfl rfl hl.1 rfl (lv_room (Nat.le_of_ble_eq_true rfl)) dX12_isPersonHere_100 ⟨Nat.zero_le _, Nat.zero_le _⟩) hw (fun x100 st100 t100 H100 locs100 eh100 eg100 bx100 hw => ?_)
                  obtain ⟨g100, on100, cx100⟩ := bx100
                  rw [eh100, eg100] at g100 on100
                  have E100_p0read_0 := hp_et.kept EJ_p0read (on100 _ (fun h9 => hp_ne_ao hp0read hp0 h9))
                  have E100_p0read_1 := hp_et.kept E42 (on100 _ (fun h9 => hp_ne_ao hp0read hp0 h9))
                  have hkm := hkm.call g100 (by decide)
                  have hon := hon.trans (hp_on.mono on100 (fun q h9 => by rcases h9 with rfl; exact Or.inl rfl))
                  have f_p0_1 := g100 _ _ _ _ f_p0_1 (by decide)
                  have f_p0_8 := g100 _ _ _ _ f_p0_8 (by decide)
                  have ocx100 := iv_o cx100
                  exact W.zret (v := x100) hx hb hr (iv_nz (cx100.mono (by decide) (by decide))) (fun t ht hW => ⟨some (.int x100), rfl, ⟨x100, rfl, ⟨y36_fp0_8, by rw [ht]; exact hkm, by rw [ht]; exact hon, by rw [ht]; exact f_p0_8, (cx100.mono (by decide) (by decide)), (r54fp.mono (by decide) (by decide)), (by intros; omega)⟩⟩, by rw [ht]; exact hw.1, hw.2.F ht⟩) hw.2.2.2 dX12_isPersonHere_103
            · have oc68 := congrArg Int32.toInt c68
              have r68fp : iv x65 45 45 := (iv_both (iv_any x65) (iv_eq (show iv 45 45 45 from ⟨by decide, by decide⟩) c68)).mono (by decide) (by decide)
              have or68fp := iv_o r68fp
              refine lv_iconst (v := 1) hx hb dX12_isPersonHere_71 (by decide) ?_
              refine lv_goto (tgt := 76) hx hb dX12_isPersonHere_72 (by decide) ?_
              refine lv_istore (lv' := [(4, .int 1), (0, .ref ap0), (2, .int x32), (3, .int y36_l3)]) hx hb dX12_isPersonHere_76 hl (by decide) rfl (fun ls hl => ?_)
              refine lv_iload hx hb dX12_isPersonHere_78 (lv_at hl 0 rfl) ?_
              refine lv_if_ne (tgt := 104) hx hb dX12_isPersonHere_80 (by decide) (fun c80 => ?_) (fun c80 => ?_)
              · have oc80 := iv_neq c80
                refine lv_iload hx hb dX12_isPersonHere_104 (lv_at hl 0 rfl) ?_
                refine lv_if_ne (tgt := 140) hx hb dX12_isPersonHere_106 (by decide) (fun c106 => ?_) (fun c106 => ?_)
                · have oc106 := iv_neq c106
                  refine lv_aload_n hx hb dX12_isPersonHere_140 rfl (lv_at hl 1 rfl) ?_
                  refine hp_getr hx hb hts IX12 hown hK hw.1 hp0 rfl 7 (by decide) L26 rfl dX12_isPersonHere_141 ?_
                  refine lv_bipush (v := 10) hx hb dX12_isPersonHere_144 (by decide) ?_
                  refine lv_bipush (v := 12) hx hb dX12_isPersonHere_146 (by decide) ?_
                  refine lv_iload_n hx hb dX12_isPersonHere_148 rfl (lv_at hl 2 rfl) ?_
                  refine lv_imul hx hb dX12_isPersonHere_149 ?_
                  refine lv_topi (fun x149 ex149 => ?_)
                  have bx149 : iv x149 0 108 := iv_mul (show iv 12 12 12 from ⟨by decide, by decide⟩) c36_x32 ex149 (by decide)
                  have obx149 := iv_o bx149
                  refine lv_iadd hx hb dX12_isPersonHere_150 ?_
                  refine lv_topi (fun x150 ex150 => ?_)
                  have bx150 : iv x150 10 118 := iv_add (show iv 10 10 10 from ⟨by decide, by decide⟩) bx149 ex150 (by decide)
                  have obx150 := iv_o bx150
                  have qx150 := iv_add_eq (show iv 10 10 10 from ⟨by decide, by decide⟩) bx149 ex150 (by decide)
                  refine lv_iload_n hx hb dX12_isPersonHere_151 rfl (lv_at hl 3 rfl) ?_
                  refine lv_iadd hx hb dX12_isPersonHere_152 ?_
                  refine lv_topi (fun x152 ex152 => ?_)
                  have bx152 : iv x152 10 129 := iv_add bx150 r43fp ex152 (by decide)
                  have obx152 := iv_o bx152
                  have qx152 := iv_add_eq bx150 r43fp ex152 (by decide)
                  refine lv_iload hx hb dX12_isPersonHere_153 (lv_at hl 0 rfl) ?_
                  refine lv_if_eq (tgt := 163) hx hb dX12_isPersonHere_155 (by decide) (fun c155 => ?_) (fun c155 => ?_)
                  · have oc155 := congrArg Int32.toInt c155
                    exact iv_abs2 c155 (show iv 1 1 1 from ⟨by decide, by decide⟩) (show iv 0 0 0 from ⟨by decide, by decide⟩) (by decide)
                  · have oc155 := iv_neq c155
                    refine lv_bipush (v := 99) hx hb dX12_isPersonHere_158 (by decide) ?_
                    refine lv_goto (tgt := 175) hx hb dX12_isPersonHere_160 (by decide) ?_
                    refine hp_iastE hx hb hK hw hp0read (vp_iv bx152 (by decide)) (rP_st bx152 (by decide)) dX12_isPersonHere_175 (fun H175 locs175 hw g175 o175 ge175 E175 => ?_)
                    have hon := hon.trans (hp_on.mono (show hp_on (fun q => q = A 5) _ _ from o175) (fun q h9 => by subst h9; exact Or.inr (rfl)))
                    have E175_2_0 := ge175 _ _ (iv_nei bx152 (by decide) (by decide)) EJ_p0read
                    have E175_1_1 := ge175 _ _ (iv_nei bx152 (by decide) (by decide)) E42
                    have hkm := hkm.ar g175
                    have f_p0_1 := g175 _ _ _ _ f_p0_1
                    have f_p0_8 := g175 _ _ _ _ f_p0_8
                    refine lv_aload_n hx hb dX12_isPersonHere_176 rfl (lv_at hl 1 rfl) ?_
                    refine lv_dup hx hb dX12_isPersonHere_177 rfl ?_
                    refine hp_getf hx hb hts IX12 hown hK f_p0_8 rfl (by decide) L99 dX12_isPersonHere_178 ?_
                    refine lv_iconst (v := 1) hx hb dX12_isPersonHere_181 (by decide) ?_
                    refine lv_iadd hx hb dX12_isPersonHere_182 ?_
                    refine lv_topi (fun x182 ex182 => ?_)
                    have bx182 : iv x182 1 400 := iv_add r54fp (show iv 1 1 1 from ⟨by decide, by decide⟩) ex182 (by decide)
                    have obx182 := iv_o bx182
                    have qx182 := iv_add_eq r54fp (show iv 1 1 1 from ⟨by decide, by decide⟩) ex182 (by decide)
                    refine hp_putE hx hb hts IX12 tyX12 tyX12_ok nmX12 hown hK hw hp0 rfl 8 (by decide) L99 rfl rfl ⟨_, rfl, (bx182.mono (by decide) (by decide))⟩ rfl rfl dX12_isPersonHere_183 (fun H183 locs183 hw f183n g183 on183 => ?_)
                    have hon := hon.trans (hp_on.mono (show hp_on (fun q => q = ap0) _ _ from on183) (fun q h9 => by rcases h9 with rfl; exact Or.inl rfl))
                    have E183_p0read_0 := hp_et.kept E175_2_0 (on183 _ (fun h9 => hp_ne_ao hp0read hp0 h9))
                    have E183_p0read_1 := hp_et.kept E175_1_1 (on183 _ (fun h9 => hp_ne_ao hp0read hp0 h9))
                    have hkm := hkm.put g183 (by decide)
                    have f_p0_1 := g183 _ _ _ _ f_p0_1 (Or.inr ⟨rfl, by decide⟩)
                    obtain ⟨x186, ex186⟩ : ∃ y : Int32, y = y36_l3 + 1 := ⟨_, rfl⟩
                    have bx186 : iv x186 1 12 := iv_add r43fp (show iv 1 1 1 from ⟨by decide, by decide⟩) ex186 (by decide)
                    have qx186 := iv_add_eq r43fp (show iv 1 1 1 from ⟨by decide, by decide⟩) ex186 (by decide)
                    have obx186 := iv_o bx186
                    refine lv_iinc (v := x186) (lv' := [(3, .int x186), (4, .int 1), (0, .ref ap0), (2, .int x32)]) hx hb dX12_isPersonHere_186 hl (k := 3) rfl (by rw [ex186]; rfl) (by decide) rfl (fun ls hl => ?_)
                    refine lv_goto (tgt := 36) hx hb dX12_isPersonHere_189 (by decide) ?_
                    exact ih36 x186 x182 (mu_up 1 hmu36 (qx186) (by decide) (show iv x186 0 12 from (bx186.mono (by decide) (by decide))).2) c36_x32 (bx186.mono (by decide) (by decide)) (r54fq.mono (by decide) (by decide)) (bx182.mono (by decide) (by decide)) (show xp100.toInt ≤ x182.toInt from by have := (bx182).1; have := (bx182).2; have := (r43fp).1; have := (r43fp).2; have := (r43fq).1; have := (r43fq).2; have := (r54fp).1; have := (r54fp).2; have := (r54fq).1; have := (r54fq).2; have := (Int32.lt_iff_toInt_lt.mp (iv_nle c43)); have := (Int32.lt_iff_toInt_lt.mp (iv_nle c54)); have : (0 : Int32).toInt = 0 := (by decide); have : (1 : Int32).toInt = 1 := (by decide); omega) H183 locs183 hw hkm hon f_p0_1 f183n E183_p0read_0 _ (lv_sub hl [2, 3, 0] rfl)
                · have oc106 := congrArg Int32.toInt c106
                  exact iv_abs2 c106 (show iv 1 1 1 from ⟨by decide, by decide⟩) (show iv 0 0 0 from ⟨by decide, by decide⟩) (by decide)
              · have oc80 := congrArg Int32.toInt c80
                exact iv_abs2 c80 (show iv 1 1 1 from ⟨by decide, by decide⟩) (show iv 0 0 0 from ⟨by decide, by decide⟩) (by decide)
    exact J36 _ (0 : Int32) x23p0 (Nat.lt_succ_self _) bu32 (show iv 0 0 12 from ⟨by decide, by decide⟩) bp101 bx23p0 (show xp100.toInt ≤ x23p0.toInt from by have := (bx23p0).1; have := (bx23p0).2; have : (10 : Int32).toInt = 10 := (by decide); omega) H23 locs23 hw hkm hon f_p0_1 fx23p0 E32 _ (lv_sub hl [2, 1, 0] rfl)
  · have oc8 := congrArg Int32.toInt c8
    have r8fp : iv x5 10 10 := (iv_both bx5 (iv_eq (show iv 10 10 10 from ⟨by decide, by decide⟩) c8)).mono (by decide) (by decide)
    have or8fp := iv_o r8fp
    refine lv_aload_n hx hb dX12_isPersonHere_11 rfl (lv_at hl 0 rfl) ?_
    refine lv_iconst (v := 4) hx hb dX12_isPersonHere_12 (by decide) ?_
    refine lv_iload_n hx hb dX12_isPersonHere_13 rfl (lv_at hl 1 rfl) ?_
    refine hp_callei (va_runV (As := [.int 4, .int xp1]) (rest := []) ⟨hx, hb, hml, hown, hts⟩ (sX12_fails l D T ap0 (4 : Int32) xp1 A Gm Tp ip0) (cwV 2 hts gX12_isPersonHere_X12_fails rfl rfl rfl (by decide +kernel) ⟨Nat.le_of_ble_eq_true rfl, Nat.le_of_ble_eq_true rfl⟩) (hp_preV hG hw hp0 rfl trivial) rfl rfl hl.1 rfl (lv_room (Nat.le_of_ble_eq_true rfl)) dX12_isPersonHere_14 ⟨Nat.zero_le _, Nat.zero_le _⟩) hw (fun x14 st14 t14 H14 locs14 eh14 eg14 bx14 hw => ?_)
    obtain ⟨g14, on14, cx14⟩ := bx14
    rw [eh14, eg14] at g14 on14
    have E14_p0read_0 := hp_et.kept E5 (on14 _ (fun h9 => hp_ne_ao hp0read hp0 h9))
    have hkm := hkm.call g14 (by decide)
    have hon := hon.trans (hp_on.mono on14 (fun q h9 => by rcases h9 with rfl; exact Or.inl rfl))
    have f_p0_8 := g14 _ _ _ _ hB.1 (by decide)
    have f_p0_1 := g14 _ _ _ _ hB.2 (by decide)
    have ocx14 := iv_o cx14
    exact W.zret (v := x14) hx hb hr (iv_nz (cx14.mono (by decide) (by decide))) (fun t ht hW => ⟨some (.int x14), rfl, ⟨x14, rfl, ⟨xp100, by rw [ht]; exact hkm, by rw [ht]; exact hon, by rw [ht]; exact f_p0_8, (cx14.mono (by decide) (by decide)), bp100, (by intros; omega)⟩⟩, by rw [ht]; exact hw.1, hw.2.F ht⟩) hw.2.2.2 dX12_isPersonHere_17
abbrev WX12_isMarkHere (p : Program) (l : Launch) (e : Env) (s : State) (m : MethodId) (below : List Frame) (meth : Method) (c : Code) (D : hp_D) (T : hp_T) (ap0 : Nat) (xp1 : Int32) (xp100 : Int32) (xp101 : Int32) (A : Nat → Nat) (Tp : Nat → Value) (H : Heap) (locs : List Loc) (g : JFrame) : Prop := W p l e (headSpec wsX12_isMarkHere ({ frames := 2, cells := 0, slots := 0, locals := 49 })).room s m ([.ref ap0, .int xp1] : List Value).toArray below meth c H locs 0 0 (MQ below (hq_e D T (fun v st t => ∃ r : Int32, v = some (.int r) ∧ ((∃ y0 : Int32, hp_km D [(12, 8), (12, 9), (12, 10)] st.heap t.heap ∧ hp_on (fun q => q = ap0 ∨ q = A 5) st.heap t.heap ∧ hp_f D t.heap ap0 12 8 (.int y0) ∧ iv r 0 1 ∧ iv y0 0 400 ∧ (xp100.toInt ≤ y0.toInt))))) ([.ref ap0, .int xp1] : List Value).toArray s 0 0 (hp_F T)) g
set_option maxHeartbeats 4000000 in
set_option maxRecDepth 100000 in
theorem sX12_isMarkHere (l : Launch) (D : hp_D) (T : hp_T) (ap0 : Nat) (xp1 : Int32) (xp100 : Int32) (xp101 : Int32) (A : Nat → Nat) (Gm : moG) (Tp : Nat → Value) (ip0 : isMp T ap0 A Gm Tp) (bp1 : iv xp1 0 2) (bp100 : iv xp100 0 400) (bp101 : iv xp101 0 400) : Met l yX12_isMarkHere wsX12_isMarkHere ({ frames := 2, cells := 0, slots := 0, locals := 49 }) (hp_Pc D T [.ref ap0, .int xp1] (fun H => hp_f D H ap0 12 8 (.int xp100) ∧ hp_f D H ap0 12 1 (.int xp101))) (hq_e D T (fun v st t => ∃ r : Int32, v = some (.int r) ∧ ((∃ y0 : Int32, hp_km D [(12, 8), (12, 9), (12, 10)] st.heap t.heap ∧ hp_on (fun q => q = ap0 ∨ q = A 5) st.heap t.heap ∧ hp_f D t.heap ap0 12 8 (.int y0) ∧ iv r 0 1 ∧ iv y0 0 400 ∧ (xp100.toInt ≤ y0.toInt))))) 0 0 (hp_F T) := by
  obtain ⟨gok, tpok, hp0, hp0tape, hp0sign, hp0len, hp0clause, hp0clauses, hp0read, hp0opn, hp0stack, hp0word, hp0said, hp0was, hp0fitting, hp0sums, hp0sort, hp0sumsBy, hp0oneOf, hp0otherOf, hp0kept, hp0images, hp0acts, hp0iUnd, hp0iFor, hp0iX, hp0made⟩ := id ip0
  have hpx := gok.1
  have gsok := gok.2.2.2.2
  have ggd := gok.2.2.2.1
  refine Met.ofW (cc := cX12_isMarkHere) (maxL := 2) (ret := (some .boolean)) (by decide) rfl ?_
  intro p e s m args below meth c s₁ B hml hv
  obtain ⟨rfl, hok, hG, hB⟩ := hv
  have hx := B.exec
  have hb := B.bytes
  have hr := B.returns
  have hts := atoms_spec (ws := wsX12_isMarkHere) B.pre
  have hown : s.vm.findClass RX12 = some m.cls := findClass_of_methodNamed B.named
  have hlocks := B.notSynchronized
  have hK := hG.1
  have hw : hp_w D T s s.heap [] := hp_w.rf hok
  have IX12 : ∀ w ∈ wsX120, w ∈ wsX12_isMarkHere := by decide +kernel
  have L26 := hts (.fieldLink RX12 26 "PalmCensusModel" "read" "[I") (by decide +kernel)
  have L124 := hts (.fieldLink RX12 124 "PalmCensusModel" "number" "I") (by decide +kernel)
  have hon : hp_on (fun q => q = ap0 ∨ q = A 5) s.heap s.heap := fun _ _ => rfl
  have k0 : (0 : Int32).toInt = 0 := (by decide)
  have k1 : (1 : Int32).toInt = 1 := (by decide)
  have k2 : (2 : Int32).toInt = 2 := (by decide)
  have k4 : (4 : Int32).toInt = 4 := (by decide)
  have k130 : (130 : Int32).toInt = 130 := (by decide)
  have obp100 := iv_o bp100
  have obp101 := iv_o bp101
  have obp1 := iv_o bp1
  have hkm : hp_km D [(12, 8), (12, 9), (12, 10)] s.heap s.heap := fun _ _ _ _ h _ => h
  have hl := lv_entry ([.ref ap0, .int xp1]) (n := 2) (Nat.le_of_ble_eq_true rfl)
  rw [lg_entry_eq]
  generalize (lg_sl ([.ref ap0, .int xp1]) ++ List.replicate (2 - (lg_sl ([.ref ap0, .int xp1])).length) Slot.unset).toArray = ls at hl ⊢
  have hl : lv_has ls 2 [(0, .ref ap0), (1, .int xp1)] := hl
  show WX12_isMarkHere p l e s m below meth c D T ap0 xp1 xp100 xp101 A Tp s.heap [] (F0 m 0 ls [])
  have obp100 := iv_o bp100
  have obp101 := iv_o bp101
  refine lv_aload_n hx hb dX12_isMarkHere_0 rfl (lv_at hl 0 rfl) ?_
  refine hp_callev (va_runV (As := []) (rest := []) ⟨hx, hb, hml, hown, hts⟩ (sX12_passWord l D T ap0 xp100 xp101 A Gm Tp ip0 bp100 bp101) (cwV 0 hts gX12_isMarkHere_X12_passWord rfl rfl rfl (by decide +kernel) ⟨Nat.le_of_ble_eq_true rfl, Nat.le_of_ble_eq_true rfl⟩) (hp_preV hG hw hp0 rfl ⟨hB.1, hB.2⟩) rfl rfl hl.1 rfl (lv_room (Nat.le_of_ble_eq_true rfl)) dX12_isMarkHere_1 ⟨Nat.zero_le _, Nat.zero_le _⟩) hw (fun st1 t1 H1 locs1 eh1 eg1 bx1 hw => ?_)
  obtain ⟨x1p0, g1, on1, fx1p0, bx1p0, R1_0, R1_1⟩ := bx1
  rw [eh1, eg1] at g1 on1
  rw [eg1] at fx1p0
  have hkm := hkm.call g1 (by decide)
  have hon := hon.trans (hp_on.mono on1 (fun q h9 => by rcases h9 with rfl; exact Or.inl rfl))
  have f_p0_1 := g1 _ _ _ _ hB.2 (by decide)
  have obx1p0 := iv_o bx1p0
  refine lv_aload_n hx hb dX12_isMarkHere_4 rfl (lv_at hl 0 rfl) ?_
  refine lv_iconst (v := 0) hx hb dX12_isMarkHere_5 (by decide) ?_
  refine lv_aload_n hx hb dX12_isMarkHere_6 rfl (lv_at hl 0 rfl) ?_
  refine hp_getr hx hb hts IX12 hown hK hw.1 hp0 rfl 7 (by decide) L26 rfl dX12_isMarkHere_7 ?_
  refine lv_iconst (v := 2) hx hb dX12_isMarkHere_10 (by decide) ?_
  refine hp_iald hx hb hK hw.1 hp0read (vp_iv (show iv 2 2 2 from ⟨by decide, by decide⟩) (by decide)) dX12_isMarkHere_11 (fun v11 h11 => ?_)
  obtain ⟨x11, rfl, bx11⟩ := rP_rd2 h11 (show iv 2 2 2 from ⟨by decide, by decide⟩)
  have obx11 := iv_o bx11
  refine lv_iconst (v := 1) hx hb dX12_isMarkHere_12 (by decide) ?_
  refine lv_isub hx hb dX12_isMarkHere_13 ?_
  refine lv_topi (fun x13 ex13 => ?_)
  have bx13 : iv x13 (-1) 9 := iv_sub bx11 (show iv 1 1 1 from ⟨by decide, by decide⟩) ex13 (by decide)
  have obx13 := iv_o bx13
  have qx13 := iv_sub_eq bx11 (show iv 1 1 1 from ⟨by decide, by decide⟩) ex13 (by decide)
  refine hp_callei (va_runV (As := [.int 0, .int x13]) (rest := []) ⟨hx, hb, hml, hown, hts⟩ (sX12_numberHere l D T ap0 (0 : Int32) x13 x1p0 xp101 A Gm Tp ip0 bx1p0 bp101) (cwV 2 hts gX12_isMarkHere_X12_numberHere rfl rfl rfl (by decide +kernel) ⟨Nat.le_of_ble_eq_true rfl, Nat.le_of_ble_eq_true rfl⟩) (hp_preV hG hw hp0 rfl ⟨fx1p0, f_p0_1⟩) rfl rfl hl.1 rfl (lv_room (Nat.le_of_ble_eq_true rfl)) dX12_isMarkHere_14 ⟨Nat.zero_le _, Nat.zero_le _⟩) hw (fun x14 st14 t14 H14 locs14 eh14 eg14 bx14 hw => ?_)
  obtain ⟨x14p0, x14p1, g14, on14, fx14p0, fx14p1, cx14, bx14p0, bx14p1, R14_0, R14_1, R14_2⟩ := bx14
  rw [eh14, eg14] at g14 on14
  rw [eg14] at fx14p0
  rw [eg14] at fx14p1
  have hkm := hkm.call g14 (by decide)
  have hon := hon.trans (hp_on.mono on14 (fun q h9 => by rcases h9 with rfl; exact Or.inl rfl))
  have f_p0_1 := g14 _ _ _ _ f_p0_1 (by decide)
  have obx14p0 := iv_o bx14p0
  have obx14p1 := iv_o bx14p1
  have ocx14 := iv_o cx14
  have I14 : ¬ x14 = 0 → iv x14p1 0 9 := fun h9 => by have h8 := iv_neq h9; have h7 := R14_2 (by omega); exact ⟨by omega, by omega⟩
  refine lv_if_ne (tgt := 22) hx hb dX12_isMarkHere_17 (by decide) (fun c17 => ?_) (fun c17 => ?_)
  · have oc17 := iv_neq c17
    have r17tp : iv x14 1 1 := (iv_ne_lo c17 cx14 rfl).mono (by decide) (by decide)
    have or17tp := iv_o r17tp
    have r17tpz : iv x14p1 0 9 := (iv_both bx14p1 (I14 (iv_ne0 r17tp (by decide)))).mono (by decide) (by decide)
    have or17tpz := iv_o r17tpz
    refine lv_aload_n hx hb dX12_isMarkHere_22 rfl (lv_at hl 0 rfl) ?_
    refine hp_getr hx hb hts IX12 hown hK hw.1 hp0 rfl 7 (by decide) L26 rfl dX12_isMarkHere_23 ?_
    refine lv_sipush (v := 130) hx hb dX12_isMarkHere_26 (by decide) ?_
    refine lv_iconst (v := 4) hx hb dX12_isMarkHere_29 (by decide) ?_
    refine lv_aload_n hx hb dX12_isMarkHere_30 rfl (lv_at hl 0 rfl) ?_
    refine hp_getf hx hb hts IX12 hown hK fx14p1 rfl (by decide) L124 dX12_isMarkHere_31 ?_
    refine lv_imul hx hb dX12_isMarkHere_34 ?_
    refine lv_topi (fun x34 ex34 => ?_)
    have bx34 : iv x34 0 36 := iv_mul (show iv 4 4 4 from ⟨by decide, by decide⟩) r17tpz ex34 (by decide)
    have obx34 := iv_o bx34
    refine lv_iadd hx hb dX12_isMarkHere_35 ?_
    refine lv_topi (fun x35 ex35 => ?_)
    have bx35 : iv x35 130 166 := iv_add (show iv 130 130 130 from ⟨by decide, by decide⟩) bx34 ex35 (by decide)
    have obx35 := iv_o bx35
    have qx35 := iv_add_eq (show iv 130 130 130 from ⟨by decide, by decide⟩) bx34 ex35 (by decide)
    refine lv_iload_n hx hb dX12_isMarkHere_36 rfl (lv_at hl 1 rfl) ?_
    refine lv_iadd hx hb dX12_isMarkHere_37 ?_
    refine lv_topi (fun x37 ex37 => ?_)
    have bx37 : iv x37 130 168 := iv_add bx35 bp1 ex37 (by decide)
    have obx37 := iv_o bx37
    have qx37 := iv_add_eq bx35 bp1 ex37 (by decide)
    refine lv_iconst (v := 1) hx hb dX12_isMarkHere_38 (by decide) ?_
    refine hp_iastE hx hb hK hw hp0read (vp_iv bx37 (by decide)) (rP_st bx37 (by decide)) dX12_isMarkHere_39 (fun H39 locs39 hw g39 o39 ge39 E39 => ?_)
    have hon := hon.trans (hp_on.mono (show hp_on (fun q => q = A 5) _ _ from o39) (fun q h9 => by subst h9; exact Or.inr (rfl)))
    have hkm := hkm.ar g39
    have f_p0_1 := g39 _ _ _ _ f_p0_1
    have f_p0_8 := g39 _ _ _ _ fx14p0
    have f_p0_10 := g39 _ _ _ _ fx14p1
    refine lv_iconst (v := 1) hx hb dX12_isMarkHere_40 (by decide) ?_
    exact W.zret (v := 1) hx hb hr (iv_nz (show iv 1 0 1 from ⟨by decide, by decide⟩)) (fun t ht hW => ⟨some (.int 1), rfl, ⟨(1 : Int32), rfl, ⟨x14p0, by rw [ht]; exact hkm, by rw [ht]; exact hon, by rw [ht]; exact f_p0_8, (show iv 1 0 1 from ⟨by decide, by decide⟩), bx14p0, (by intros; omega)⟩⟩, by rw [ht]; exact hw.1, hw.2.F ht⟩) hw.2.2.2 dX12_isMarkHere_41
  · have oc17 := congrArg Int32.toInt c17
    have r17fp : iv x14 0 0 := (iv_both cx14 (iv_eq (show iv 0 0 0 from ⟨by decide, by decide⟩) c17)).mono (by decide) (by decide)
    have or17fp := iv_o r17fp
    refine lv_iconst (v := 0) hx hb dX12_isMarkHere_20 (by decide) ?_
    exact W.zret (v := 0) hx hb hr (iv_nz (show iv 0 0 1 from ⟨by decide, by decide⟩)) (fun t ht hW => ⟨some (.int 0), rfl, ⟨(0 : Int32), rfl, ⟨x14p0, by rw [ht]; exact hkm, by rw [ht]; exact hon, by rw [ht]; exact fx14p0, (show iv 0 0 1 from ⟨by decide, by decide⟩), bx14p0, (by intros; omega)⟩⟩, by rw [ht]; exact hw.1, hw.2.F ht⟩) hw.2.2.2 dX12_isMarkHere_21
abbrev WX12_areKinHere (p : Program) (l : Launch) (e : Env) (s : State) (m : MethodId) (below : List Frame) (meth : Method) (c : Code) (D : hp_D) (T : hp_T) (ap0 : Nat) (xp100 : Int32) (xp101 : Int32) (A : Nat → Nat) (Tp : Nat → Value) (H : Heap) (locs : List Loc) (g : JFrame) : Prop := W p l e (headSpec wsX12_areKinHere ({ frames := 2, cells := 0, slots := 0, locals := 49 })).room s m ([.ref ap0] : List Value).toArray below meth c H locs 0 0 (MQ below (hq_e D T (fun v st t => ∃ r : Int32, v = some (.int r) ∧ ((∃ y0 : Int32, hp_km D [(12, 8), (12, 9), (12, 10)] st.heap t.heap ∧ hp_on (fun q => q = ap0 ∨ q = A 5) st.heap t.heap ∧ hp_f D t.heap ap0 12 8 (.int y0) ∧ iv r 0 1 ∧ iv y0 0 400 ∧ (xp100.toInt ≤ y0.toInt))))) ([.ref ap0] : List Value).toArray s 0 0 (hp_F T)) g
set_option maxHeartbeats 4000000 in
set_option maxRecDepth 100000 in
theorem sX12_areKinHere (l : Launch) (D : hp_D) (T : hp_T) (ap0 : Nat) (xp100 : Int32) (xp101 : Int32) (A : Nat → Nat) (Gm : moG) (Tp : Nat → Value) (ip0 : isMp T ap0 A Gm Tp) (bp100 : iv xp100 0 400) (bp101 : iv xp101 0 400) : Met l yX12_areKinHere wsX12_areKinHere ({ frames := 2, cells := 0, slots := 0, locals := 49 }) (hp_Pc D T [.ref ap0] (fun H => hp_f D H ap0 12 8 (.int xp100) ∧ hp_f D H ap0 12 1 (.int xp101))) (hq_e D T (fun v st t => ∃ r : Int32, v = some (.int r) ∧ ((∃ y0 : Int32, hp_km D [(12, 8), (12, 9), (12, 10)] st.heap t.heap ∧ hp_on (fun q => q = ap0 ∨ q = A 5) st.heap t.heap ∧ hp_f D t.heap ap0 12 8 (.int y0) ∧ iv r 0 1 ∧ iv y0 0 400 ∧ (xp100.toInt ≤ y0.toInt))))) 0 0 (hp_F T) := by
  obtain ⟨gok, tpok, hp0, hp0tape, hp0sign, hp0len, hp0clause, hp0clauses, hp0read, hp0opn, hp0stack, hp0word, hp0said, hp0was, hp0fitting, hp0sums, hp0sort, hp0sumsBy, hp0oneOf, hp0otherOf, hp0kept, hp0images, hp0acts, hp0iUnd, hp0iFor, hp0iX, hp0made⟩ := id ip0
  have hpx := gok.1
  have gsok := gok.2.2.2.2
  have ggd := gok.2.2.2.1
  refine Met.ofW (cc := cX12_areKinHere) (maxL := 3) (ret := (some .boolean)) (by decide) rfl ?_
  intro p e s m args below meth c s₁ B hml hv
  obtain ⟨rfl, hok, hG, hB⟩ := hv
  have hx := B.exec
  have hb := B.bytes
  have hr := B.returns
  have hts := atoms_spec (ws := wsX12_areKinHere) B.pre
  have hown : s.vm.findClass RX12 = some m.cls := findClass_of_methodNamed B.named
  have hlocks := B.notSynchronized
  have hK := hG.1
  have hw : hp_w D T s s.heap [] := hp_w.rf hok
  have IX12 : ∀ w ∈ wsX120, w ∈ wsX12_areKinHere := by decide +kernel
  have L26 := hts (.fieldLink RX12 26 "PalmCensusModel" "read" "[I") (by decide +kernel)
  have L124 := hts (.fieldLink RX12 124 "PalmCensusModel" "number" "I") (by decide +kernel)
  have L99 := hts (.fieldLink RX12 99 "PalmCensusModel" "next" "I") (by decide +kernel)
  have hon : hp_on (fun q => q = ap0 ∨ q = A 5) s.heap s.heap := fun _ _ => rfl
  have k0 : (0 : Int32).toInt = 0 := (by decide)
  have k1 : (1 : Int32).toInt = 1 := (by decide)
  have k2 : (2 : Int32).toInt = 2 := (by decide)
  have k3 : (3 : Int32).toInt = 3 := (by decide)
  have k4 : (4 : Int32).toInt = 4 := (by decide)
  have k130 : (130 : Int32).toInt = 130 := (by decide)
  have obp100 := iv_o bp100
  have obp101 := iv_o bp101
  have hkm : hp_km D [(12, 8), (12, 9), (12, 10)] s.heap s.heap := fun _ _ _ _ h _ => h
  have hl := lv_entry ([.ref ap0]) (n := 3) (Nat.le_of_ble_eq_true rfl)
  rw [lg_entry_eq]
  generalize (lg_sl ([.ref ap0]) ++ List.replicate (3 - (lg_sl ([.ref ap0])).length) Slot.unset).toArray = ls at hl ⊢
  have hl : lv_has ls 3 [(0, .ref ap0)] := hl
  show WX12_areKinHere p l e s m below meth c D T ap0 xp100 xp101 A Tp s.heap [] (F0 m 0 ls [])
  have obp100 := iv_o bp100
  have obp101 := iv_o bp101
  refine lv_aload_n hx hb dX12_areKinHere_0 rfl (lv_at hl 0 rfl) ?_
  refine hp_callev (va_runV (As := []) (rest := []) ⟨hx, hb, hml, hown, hts⟩ (sX12_passWord l D T ap0 xp100 xp101 A Gm Tp ip0 bp100 bp101) (cwV 0 hts gX12_areKinHere_X12_passWord rfl rfl rfl (by decide +kernel) ⟨Nat.le_of_ble_eq_true rfl, Nat.le_of_ble_eq_true rfl⟩) (hp_preV hG hw hp0 rfl ⟨hB.1, hB.2⟩) rfl rfl hl.1 rfl (lv_room (Nat.le_of_ble_eq_true rfl)) dX12_areKinHere_1 ⟨Nat.zero_le _, Nat.zero_le _⟩) hw (fun st1 t1 H1 locs1 eh1 eg1 bx1 hw => ?_)
  obtain ⟨x1p0, g1, on1, fx1p0, bx1p0, R1_0, R1_1⟩ := bx1
  rw [eh1, eg1] at g1 on1
  rw [eg1] at fx1p0
  have hkm := hkm.call g1 (by decide)
  have hon := hon.trans (hp_on.mono on1 (fun q h9 => by rcases h9 with rfl; exact Or.inl rfl))
  have f_p0_1 := g1 _ _ _ _ hB.2 (by decide)
  have obx1p0 := iv_o bx1p0
  refine lv_aload_n hx hb dX12_areKinHere_4 rfl (lv_at hl 0 rfl) ?_
  refine lv_iconst (v := 0) hx hb dX12_areKinHere_5 (by decide) ?_
  refine lv_aload_n hx hb dX12_areKinHere_6 rfl (lv_at hl 0 rfl) ?_
  refine hp_getr hx hb hts IX12 hown hK hw.1 hp0 rfl 7 (by decide) L26 rfl dX12_areKinHere_7 ?_
  refine lv_iconst (v := 2) hx hb dX12_areKinHere_10 (by decide) ?_
  refine hp_iald hx hb hK hw.1 hp0read (vp_iv (show iv 2 2 2 from ⟨by decide, by decide⟩) (by decide)) dX12_areKinHere_11 (fun v11 h11 => ?_)
  obtain ⟨x11, rfl, bx11⟩ := rP_rd2 h11 (show iv 2 2 2 from ⟨by decide, by decide⟩)
  have obx11 := iv_o bx11
  refine lv_iconst (v := 1) hx hb dX12_areKinHere_12 (by decide) ?_
  refine lv_isub hx hb dX12_areKinHere_13 ?_
  refine lv_topi (fun x13 ex13 => ?_)
  have bx13 : iv x13 (-1) 9 := iv_sub bx11 (show iv 1 1 1 from ⟨by decide, by decide⟩) ex13 (by decide)
  have obx13 := iv_o bx13
  have qx13 := iv_sub_eq bx11 (show iv 1 1 1 from ⟨by decide, by decide⟩) ex13 (by decide)
  refine hp_callei (va_runV (As := [.int 0, .int x13]) (rest := []) ⟨hx, hb, hml, hown, hts⟩ (sX12_numberHere l D T ap0 (0 : Int32) x13 x1p0 xp101 A Gm Tp ip0 bx1p0 bp101) (cwV 2 hts gX12_areKinHere_X12_numberHere rfl rfl rfl (by decide +kernel) ⟨Nat.le_of_ble_eq_true rfl, Nat.le_of_ble_eq_true rfl⟩) (hp_preV hG hw hp0 rfl ⟨fx1p0, f_p0_1⟩) rfl rfl hl.1 rfl (lv_room (Nat.le_of_ble_eq_true rfl)) dX12_areKinHere_14 ⟨Nat.zero_le _, Nat.zero_le _⟩) hw (fun x14 st14 t14 H14 locs14 eh14 eg14 bx14 hw => ?_)
  obtain ⟨x14p0, x14p1, g14, on14, fx14p0, fx14p1, cx14, bx14p0, bx14p1, R14_0, R14_1, R14_2⟩ := bx14
  rw [eh14, eg14] at g14 on14
  rw [eg14] at fx14p0
  rw [eg14] at fx14p1
  have hkm := hkm.call g14 (by decide)
  have hon := hon.trans (hp_on.mono on14 (fun q h9 => by rcases h9 with rfl; exact Or.inl rfl))
  have f_p0_1 := g14 _ _ _ _ f_p0_1 (by decide)
  have obx14p0 := iv_o bx14p0
  have obx14p1 := iv_o bx14p1
  have ocx14 := iv_o cx14
  have I14 : ¬ x14 = 0 → iv x14p1 0 9 := fun h9 => by have h8 := iv_neq h9; have h7 := R14_2 (by omega); exact ⟨by omega, by omega⟩
  refine lv_if_ne (tgt := 22) hx hb dX12_areKinHere_17 (by decide) (fun c17 => ?_) (fun c17 => ?_)
  · have oc17 := iv_neq c17
    have r17tp : iv x14 1 1 := (iv_ne_lo c17 cx14 rfl).mono (by decide) (by decide)
    have or17tp := iv_o r17tp
    have r17tpz : iv x14p1 0 9 := (iv_both bx14p1 (I14 (iv_ne0 r17tp (by decide)))).mono (by decide) (by decide)
    have or17tpz := iv_o r17tpz
    refine lv_aload_n hx hb dX12_areKinHere_22 rfl (lv_at hl 0 rfl) ?_
    refine hp_getf hx hb hts IX12 hown hK fx14p1 rfl (by decide) L124 dX12_areKinHere_23 ?_
    refine lv_istore_n (lv' := [(1, .int x14p1), (0, .ref ap0)]) hx hb dX12_areKinHere_26 rfl hl (by decide) rfl (fun ls hl => ?_)
    refine lv_aload_n hx hb dX12_areKinHere_27 rfl (lv_at hl 1 rfl) ?_
    refine hp_callei (va_runV (As := []) (rest := []) ⟨hx, hb, hml, hown, hts⟩ (sX12_see l D T ap0 x14p0 xp101 A Gm Tp ip0 bx14p0 bp101) (cwV 0 hts gX12_areKinHere_X12_see rfl rfl rfl (by decide +kernel) ⟨Nat.le_of_ble_eq_true rfl, Nat.le_of_ble_eq_true rfl⟩) (hp_preV hG hw hp0 rfl ⟨fx14p0, f_p0_1⟩) rfl rfl hl.1 rfl (lv_room (Nat.le_of_ble_eq_true rfl)) dX12_areKinHere_28 ⟨Nat.zero_le _, Nat.zero_le _⟩) hw (fun x28 st28 t28 H28 locs28 eh28 eg28 bx28 hw => ?_)
    obtain ⟨x28p0, g28, on28, fx28p0, cx28, bx28p0, R28_0, R28_1⟩ := bx28
    rw [eh28, eg28] at g28 on28
    rw [eg28] at fx28p0
    have hkm := hkm.call g28 (by decide)
    have hon := hon.trans (hp_on.mono on28 (fun q h9 => by rcases h9 with rfl; exact Or.inl rfl))
    have f_p0_1 := g28 _ _ _ _ f_p0_1 (by decide)
    have f_p0_10 := g28 _ _ _ _ fx14p1 (by decide)
    have obx28p0 := iv_o bx28p0
    have ocx28 := iv_o cx28
    refine lv_pop hx hb dX12_areKinHere_31 rfl ?_
    refine lv_aload_n hx hb dX12_areKinHere_32 rfl (lv_at hl 1 rfl) ?_
    refine hp_getf hx hb hts IX12 hown hK fx28p0 rfl (by decide) L99 dX12_areKinHere_33 ?_
    refine lv_istore_n (lv' := [(2, .int x28p0), (1, .int x14p1), (0, .ref ap0)]) hx hb dX12_areKinHere_36 rfl hl (by decide) rfl (fun ls hl => ?_)
    refine lv_aload_n hx hb dX12_areKinHere_37 rfl (lv_at hl 2 rfl) ?_
    refine lv_iconst (v := 0) hx hb dX12_areKinHere_38 (by decide) ?_
    refine lv_aload_n hx hb dX12_areKinHere_39 rfl (lv_at hl 2 rfl) ?_
    refine hp_getr hx hb hts IX12 hown hK hw.1 hp0 rfl 7 (by decide) L26 rfl dX12_areKinHere_40 ?_
    refine lv_iconst (v := 2) hx hb dX12_areKinHere_43 (by decide) ?_
    refine hp_iald hx hb hK hw.1 hp0read (vp_iv (show iv 2 2 2 from ⟨by decide, by decide⟩) (by decide)) dX12_areKinHere_44 (fun v44 h44 => ?_)
    obtain ⟨x44, rfl, bx44⟩ := rP_rd2 h44 (show iv 2 2 2 from ⟨by decide, by decide⟩)
    have obx44 := iv_o bx44
    refine lv_iconst (v := 1) hx hb dX12_areKinHere_45 (by decide) ?_
    refine lv_isub hx hb dX12_areKinHere_46 ?_
    refine lv_topi (fun x46 ex46 => ?_)
    have bx46 : iv x46 (-1) 9 := iv_sub bx44 (show iv 1 1 1 from ⟨by decide, by decide⟩) ex46 (by decide)
    have obx46 := iv_o bx46
    have qx46 := iv_sub_eq bx44 (show iv 1 1 1 from ⟨by decide, by decide⟩) ex46 (by decide)
    refine hp_callei (va_runV (As := [.int 0, .int x46]) (rest := []) ⟨hx, hb, hml, hown, hts⟩ (sX12_numberHere l D T ap0 (0 : Int32) x46 x28p0 xp101 A Gm Tp ip0 bx28p0 bp101) (cwV 2 hts gX12_areKinHere_X12_numberHere rfl rfl rfl (by decide +kernel) ⟨Nat.le_of_ble_eq_true rfl, Nat.le_of_ble_eq_true rfl⟩) (hp_preV hG hw hp0 rfl ⟨fx28p0, f_p0_1⟩) rfl rfl hl.1 rfl (lv_room (Nat.le_of_ble_eq_true rfl)) dX12_areKinHere_47 ⟨Nat.zero_le _, Nat.zero_le _⟩) hw (fun x47 st47 t47 H47 locs47 eh47 eg47 bx47 hw => ?_)
    obtain ⟨x47p0, x47p1, g47, on47, fx47p0, fx47p1, cx47, bx47p0, bx47p1, R47_0, R47_1, R47_2⟩ := bx47
    rw [eh47, eg47] at g47 on47
    rw [eg47] at fx47p0
    rw [eg47] at fx47p1
    have hkm := hkm.call g47 (by decide)
    have hon := hon.trans (hp_on.mono on47 (fun q h9 => by rcases h9 with rfl; exact Or.inl rfl))
    have f_p0_1 := g47 _ _ _ _ f_p0_1 (by decide)
    have obx47p0 := iv_o bx47p0
    have obx47p1 := iv_o bx47p1
    have ocx47 := iv_o cx47
    have I47 : ¬ x47 = 0 → iv x47p1 0 9 := fun h9 => by have h8 := iv_neq h9; have h7 := R47_2 (by omega); exact ⟨by omega, by omega⟩
    refine lv_if_ne (tgt := 55) hx hb dX12_areKinHere_50 (by decide) (fun c50 => ?_) (fun c50 => ?_)
    · have oc50 := iv_neq c50
      have r50tp : iv x47 1 1 := (iv_ne_lo c50 cx47 rfl).mono (by decide) (by decide)
      have or50tp := iv_o r50tp
      have r50tpz : iv x47p1 0 9 := (iv_both bx47p1 (I47 (iv_ne0 r50tp (by decide)))).mono (by decide) (by decide)
      have or50tpz := iv_o r50tpz
      refine lv_aload_n hx hb dX12_areKinHere_55 rfl (lv_at hl 2 rfl) ?_
      refine hp_getf hx hb hts IX12 hown hK fx47p1 rfl (by decide) L124 dX12_areKinHere_56 ?_
      refine lv_iload_n hx hb dX12_areKinHere_59 rfl (lv_at hl 1 rfl) ?_
      refine lv_icmp_ne (tgt := 70) hx hb dX12_areKinHere_60 (by decide) (fun c60 => ?_) (fun c60 => ?_)
      · have oc60 := iv_neq c60
        refine lv_aload_n hx hb dX12_areKinHere_70 rfl (lv_at hl 2 rfl) ?_
        refine hp_getr hx hb hts IX12 hown hK hw.1 hp0 rfl 7 (by decide) L26 rfl dX12_areKinHere_71 ?_
        refine lv_sipush (v := 130) hx hb dX12_areKinHere_74 (by decide) ?_
        refine lv_iconst (v := 4) hx hb dX12_areKinHere_77 (by decide) ?_
        refine lv_iload_n hx hb dX12_areKinHere_78 rfl (lv_at hl 1 rfl) ?_
        refine lv_imul hx hb dX12_areKinHere_79 ?_
        refine lv_topi (fun x79 ex79 => ?_)
        have bx79 : iv x79 0 36 := iv_mul (show iv 4 4 4 from ⟨by decide, by decide⟩) r17tpz ex79 (by decide)
        have obx79 := iv_o bx79
        refine lv_iadd hx hb dX12_areKinHere_80 ?_
        refine lv_topi (fun x80 ex80 => ?_)
        have bx80 : iv x80 130 166 := iv_add (show iv 130 130 130 from ⟨by decide, by decide⟩) bx79 ex80 (by decide)
        have obx80 := iv_o bx80
        have qx80 := iv_add_eq (show iv 130 130 130 from ⟨by decide, by decide⟩) bx79 ex80 (by decide)
        refine lv_iconst (v := 3) hx hb dX12_areKinHere_81 (by decide) ?_
        refine lv_iadd hx hb dX12_areKinHere_82 ?_
        refine lv_topi (fun x82 ex82 => ?_)
        have bx82 : iv x82 133 169 := iv_add bx80 (show iv 3 3 3 from ⟨by decide, by decide⟩) ex82 (by decide)
        have obx82 := iv_o bx82
        have qx82 := iv_add_eq bx80 (show iv 3 3 3 from ⟨by decide, by decide⟩) ex82 (by decide)
        refine lv_dup2_11 hx hb dX12_areKinHere_83 rfl rfl ?_
        refine hp_iald hx hb hK hw.1 hp0read (vp_iv bx82 (by decide)) dX12_areKinHere_84 (fun v84 h84 => ?_)
        obtain ⟨x84, rfl⟩ := rP_any h84
        refine lv_iconst (v := 1) hx hb dX12_areKinHere_85 (by decide) ?_
        refine lv_aload_n hx hb dX12_areKinHere_86 rfl (lv_at hl 2 rfl) ?_
        refine hp_getf hx hb hts IX12 hown hK fx47p1 rfl (by decide) L124 dX12_areKinHere_87 ?_
        refine lv_ishl hx hb dX12_areKinHere_90 ?_
        refine lv_topi (fun x90 ex90 => ?_)
        have bx90 : iv x90 1 512 := iv_shl 9 (show iv 1 1 1 from ⟨by decide, by decide⟩) r50tpz ex90 (by decide)
        have obx90 := iv_o bx90
        refine lv_ior hx hb dX12_areKinHere_91 ?_
        refine lv_topi (fun x91 ex91 => ?_)
        refine hp_iastE hx hb hK hw hp0read (vp_iv bx82 (by decide)) (rP_st bx82 (by decide)) dX12_areKinHere_92 (fun H92 locs92 hw g92 o92 ge92 E92 => ?_)
        have hon := hon.trans (hp_on.mono (show hp_on (fun q => q = A 5) _ _ from o92) (fun q h9 => by subst h9; exact Or.inr (rfl)))
        have hkm := hkm.ar g92
        have f_p0_1 := g92 _ _ _ _ f_p0_1
        have f_p0_8 := g92 _ _ _ _ fx47p0
        have f_p0_10 := g92 _ _ _ _ fx47p1
        refine lv_aload_n hx hb dX12_areKinHere_93 rfl (lv_at hl 2 rfl) ?_
        refine hp_getr hx hb hts IX12 hown hK hw.1 hp0 rfl 7 (by decide) L26 rfl dX12_areKinHere_94 ?_
        refine lv_sipush (v := 130) hx hb dX12_areKinHere_97 (by decide) ?_
        refine lv_iconst (v := 4) hx hb dX12_areKinHere_100 (by decide) ?_
        refine lv_aload_n hx hb dX12_areKinHere_101 rfl (lv_at hl 2 rfl) ?_
        refine hp_getf hx hb hts IX12 hown hK f_p0_10 rfl (by decide) L124 dX12_areKinHere_102 ?_
        refine lv_imul hx hb dX12_areKinHere_105 ?_
        refine lv_topi (fun x105 ex105 => ?_)
        have bx105 : iv x105 0 36 := iv_mul (show iv 4 4 4 from ⟨by decide, by decide⟩) r50tpz ex105 (by decide)
        have obx105 := iv_o bx105
        refine lv_iadd hx hb dX12_areKinHere_106 ?_
        refine lv_topi (fun x106 ex106 => ?_)
        have bx106 : iv x106 130 166 := iv_add (show iv 130 130 130 from ⟨by decide, by decide⟩) bx105 ex106 (by decide)
        have obx106 := iv_o bx106
        have qx106 := iv_add_eq (show iv 130 130 130 from ⟨by decide, by decide⟩) bx105 ex106 (by decide)
        refine lv_iconst (v := 3) hx hb dX12_areKinHere_107 (by decide) ?_
        refine lv_iadd hx hb dX12_areKinHere_108 ?_
        refine lv_topi (fun x108 ex108 => ?_)
        have bx108 : iv x108 133 169 := iv_add bx106 (show iv 3 3 3 from ⟨by decide, by decide⟩) ex108 (by decide)
        have obx108 := iv_o bx108
        have qx108 := iv_add_eq bx106 (show iv 3 3 3 from ⟨by decide, by decide⟩) ex108 (by decide)
        refine lv_dup2_11 hx hb dX12_areKinHere_109 rfl rfl ?_
        refine hp_iald hx hb hK hw.1 hp0read (vp_iv bx108 (by decide)) dX12_areKinHere_110 (fun v110 h110 => ?_)
        obtain ⟨x110, rfl⟩ := rP_any h110
        refine lv_iconst (v := 1) hx hb dX12_areKinHere_111 (by decide) ?_
        refine lv_iload_n hx hb dX12_areKinHere_112 rfl (lv_at hl 1 rfl) ?_
        refine lv_ishl hx hb dX12_areKinHere_113 ?_
        refine lv_topi (fun x113 ex113 => ?_)
        have bx113 : iv x113 1 512 := iv_shl 9 (show iv 1 1 1 from ⟨by decide, by decide⟩) r17tpz ex113 (by decide)
        have obx113 := iv_o bx113
        refine lv_ior hx hb dX12_areKinHere_114 ?_
        refine lv_topi (fun x114 ex114 => ?_)
        refine hp_iastE hx hb hK hw hp0read (vp_iv bx108 (by decide)) (rP_st bx108 (by decide)) dX12_areKinHere_115 (fun H115 locs115 hw g115 o115 ge115 E115 => ?_)
        have hon := hon.trans (hp_on.mono (show hp_on (fun q => q = A 5) _ _ from o115) (fun q h9 => by subst h9; exact Or.inr (rfl)))
        have hkm := hkm.ar g115
        have f_p0_1 := g115 _ _ _ _ f_p0_1
        have f_p0_8 := g115 _ _ _ _ f_p0_8
        have f_p0_10 := g115 _ _ _ _ f_p0_10
        refine lv_iconst (v := 1) hx hb dX12_areKinHere_116 (by decide) ?_
        exact W.zret (v := 1) hx hb hr (iv_nz (show iv 1 0 1 from ⟨by decide, by decide⟩)) (fun t ht hW => ⟨some (.int 1), rfl, ⟨(1 : Int32), rfl, ⟨x47p0, by rw [ht]; exact hkm, by rw [ht]; exact hon, by rw [ht]; exact f_p0_8, (show iv 1 0 1 from ⟨by decide, by decide⟩), bx47p0, (by intros; omega)⟩⟩, by rw [ht]; exact hw.1, hw.2.F ht⟩) hw.2.2.2 dX12_areKinHere_117
      · have oc60 := congrArg Int32.toInt c60
        refine lv_aload_n hx hb dX12_areKinHere_63 rfl (lv_at hl 2 rfl) ?_
        refine lv_iconst (v := 1) hx hb dX12_areKinHere_64 (by decide) ?_
        refine lv_iload_n hx hb dX12_areKinHere_65 rfl (lv_at hl 0 rfl) ?_
        refine hp_callei (va_runV (As := [.int 1, .int x28p0]) (rest := []) ⟨hx, hb, hml, hown, hts⟩ (sX12_fails l D T ap0 (1 : Int32) x28p0 A Gm Tp ip0) (cwV 2 hts gX12_areKinHere_X12_fails rfl rfl rfl (by decide +kernel) ⟨Nat.le_of_ble_eq_true rfl, Nat.le_of_ble_eq_true rfl⟩) (hp_preV hG hw hp0 rfl trivial) rfl rfl hl.1 rfl (lv_room (Nat.le_of_ble_eq_true rfl)) dX12_areKinHere_66 ⟨Nat.zero_le _, Nat.zero_le _⟩) hw (fun x66 st66 t66 H66 locs66 eh66 eg66 bx66 hw => ?_)
        obtain ⟨g66, on66, cx66⟩ := bx66
        rw [eh66, eg66] at g66 on66
        have hkm := hkm.call g66 (by decide)
        have hon := hon.trans (hp_on.mono on66 (fun q h9 => by rcases h9 with rfl; exact Or.inl rfl))
        have f_p0_1 := g66 _ _ _ _ f_p0_1 (by decide)
        have f_p0_8 := g66 _ _ _ _ fx47p0 (by decide)
        have f_p0_10 := g66 _ _ _ _ fx47p1 (by decide)
        have ocx66 := iv_o cx66
        exact W.zret (v := x66) hx hb hr (iv_nz (cx66.mono (by decide) (by decide))) (fun t ht hW => ⟨some (.int x66), rfl, ⟨x66, rfl, ⟨x47p0, by rw [ht]; exact hkm, by rw [ht]; exact hon, by rw [ht]; exact f_p0_8, (cx66.mono (by decide) (by decide)), bx47p0, (by intros; omega)⟩⟩, by rw [ht]; exact hw.1, hw.2.F ht⟩) hw.2.2.2 dX12_areKinHere_69
    · have oc50 := congrArg Int32.toInt c50
      have r50fp : iv x47 0 0 := (iv_both cx47 (iv_eq (show iv 0 0 0 from ⟨by decide, by decide⟩) c50)).mono (by decide) (by decide)
      have or50fp := iv_o r50fp
      refine lv_iconst (v := 0) hx hb dX12_areKinHere_53 (by decide) ?_
      exact W.zret (v := 0) hx hb hr (iv_nz (show iv 0 0 1 from ⟨by decide, by decide⟩)) (fun t ht hW => ⟨some (.int 0), rfl, ⟨(0 : Int32), rfl, ⟨x47p0, by rw [ht]; exact hkm, by rw [ht]; exact hon, by rw [ht]; exact fx47p0, (show iv 0 0 1 from ⟨by decide, by decide⟩), bx47p0, (by intros; omega)⟩⟩, by rw [ht]; exact hw.1, hw.2.F ht⟩) hw.2.2.2 dX12_areKinHere_54
  · have oc17 := congrArg Int32.toInt c17
    have r17fp : iv x14 0 0 := (iv_both cx14 (iv_eq (show iv 0 0 0 from ⟨by decide, by decide⟩) c17)).mono (by decide) (by decide)
    have or17fp := iv_o r17fp
    refine lv_iconst (v := 0) hx hb dX12_areKinHere_20 (by decide) ?_
    exact W.zret (v := 0) hx hb hr (iv_nz (show iv 0 0 1 from ⟨by decide, by decide⟩)) (fun t ht hW => ⟨some (.int 0), rfl, ⟨(0 : Int32), rfl, ⟨x14p0, by rw [ht]; exact hkm, by rw [ht]; exact hon, by rw [ht]; exact fx14p0, (show iv 0 0 1 from ⟨by decide, by decide⟩), bx14p0, (by intros; omega)⟩⟩, by rw [ht]; exact hw.1, hw.2.F ht⟩) hw.2.2.2 dX12_areKinHere_21
abbrev WX12_isCounterHere (p : Program) (l : Launch) (e : Env) (s : State) (m : MethodId) (below : List Frame) (meth : Method) (c : Code) (D : hp_D) (T : hp_T) (ap0 : Nat) (xp100 : Int32) (xp101 : Int32) (A : Nat → Nat) (Tp : Nat → Value) (H : Heap) (locs : List Loc) (g : JFrame) : Prop := W p l e (headSpec wsX12_isCounterHere ({ frames := 2, cells := 0, slots := 0, locals := 49 })).room s m ([.ref ap0] : List Value).toArray below meth c H locs 0 0 (MQ below (hq_e D T (fun v st t => ∃ r : Int32, v = some (.int r) ∧ ((∃ y0 : Int32, hp_km D [(12, 8), (12, 9), (12, 10)] st.heap t.heap ∧ hp_on (fun q => q = ap0 ∨ q = A 5) st.heap t.heap ∧ hp_f D t.heap ap0 12 8 (.int y0) ∧ iv r 0 1 ∧ iv y0 0 400 ∧ (xp100.toInt ≤ y0.toInt))))) ([.ref ap0] : List Value).toArray s 0 0 (hp_F T)) g
set_option maxHeartbeats 4000000 in
set_option maxRecDepth 100000 in
theorem sX12_isCounterHere (l : Launch) (D : hp_D) (T : hp_T) (ap0 : Nat) (xp100 : Int32) (xp101 : Int32) (A : Nat → Nat) (Gm : moG) (Tp : Nat → Value) (ip0 : isMp T ap0 A Gm Tp) (bp100 : iv xp100 0 400) (bp101 : iv xp101 0 400) : Met l yX12_isCounterHere wsX12_isCounterHere ({ frames := 2, cells := 0, slots := 0, locals := 49 }) (hp_Pc D T [.ref ap0] (fun H => hp_f D H ap0 12 8 (.int xp100) ∧ hp_f D H ap0 12 1 (.int xp101))) (hq_e D T (fun v st t => ∃ r : Int32, v = some (.int r) ∧ ((∃ y0 : Int32, hp_km D [(12, 8), (12, 9), (12, 10)] st.heap t.heap ∧ hp_on (fun q => q = ap0 ∨ q = A 5) st.heap t.heap ∧ hp_f D t.heap ap0 12 8 (.int y0) ∧ iv r 0 1 ∧ iv y0 0 400 ∧ (xp100.toInt ≤ y0.toInt))))) 0 0 (hp_F T) := by
  obtain ⟨gok, tpok, hp0, hp0tape, hp0sign, hp0len, hp0clause, hp0clauses, hp0read, hp0opn, hp0stack, hp0word, hp0said, hp0was, hp0fitting, hp0sums, hp0sort, hp0sumsBy, hp0oneOf, hp0otherOf, hp0kept, hp0images, hp0acts, hp0iUnd, hp0iFor, hp0iX, hp0made⟩ := id ip0
  have hpx := gok.1
  have gsok := gok.2.2.2.2
  have ggd := gok.2.2.2.1
  refine Met.ofW (cc := cX12_isCounterHere) (maxL := 1) (ret := (some .boolean)) (by decide) rfl ?_
  intro p e s m args below meth c s₁ B hml hv
  obtain ⟨rfl, hok, hG, hB⟩ := hv
  have hx := B.exec
  have hb := B.bytes
  have hr := B.returns
  have hts := atoms_spec (ws := wsX12_isCounterHere) B.pre
  have hown : s.vm.findClass RX12 = some m.cls := findClass_of_methodNamed B.named
  have hlocks := B.notSynchronized
  have hK := hG.1
  have hw : hp_w D T s s.heap [] := hp_w.rf hok
  have IX12 : ∀ w ∈ wsX120, w ∈ wsX12_isCounterHere := by decide +kernel
  have L26 := hts (.fieldLink RX12 26 "PalmCensusModel" "read" "[I") (by decide +kernel)
  have L124 := hts (.fieldLink RX12 124 "PalmCensusModel" "number" "I") (by decide +kernel)
  have hon : hp_on (fun q => q = ap0 ∨ q = A 5) s.heap s.heap := fun _ _ => rfl
  have k0 : (0 : Int32).toInt = 0 := (by decide)
  have k1 : (1 : Int32).toInt = 1 := (by decide)
  have k4 : (4 : Int32).toInt = 4 := (by decide)
  have obp100 := iv_o bp100
  have obp101 := iv_o bp101
  have hkm : hp_km D [(12, 8), (12, 9), (12, 10)] s.heap s.heap := fun _ _ _ _ h _ => h
  have hl := lv_entry ([.ref ap0]) (n := 1) (Nat.le_of_ble_eq_true rfl)
  rw [lg_entry_eq]
  generalize (lg_sl ([.ref ap0]) ++ List.replicate (1 - (lg_sl ([.ref ap0])).length) Slot.unset).toArray = ls at hl ⊢
  have hl : lv_has ls 1 [(0, .ref ap0)] := hl
  show WX12_isCounterHere p l e s m below meth c D T ap0 xp100 xp101 A Tp s.heap [] (F0 m 0 ls [])
  have obp100 := iv_o bp100
  have obp101 := iv_o bp101
  refine lv_aload_n hx hb dX12_isCounterHere_0 rfl (lv_at hl 0 rfl) ?_
  refine hp_callev (va_runV (As := []) (rest := []) ⟨hx, hb, hml, hown, hts⟩ (sX12_passWord l D T ap0 xp100 xp101 A Gm Tp ip0 bp100 bp101) (cwV 0 hts gX12_isCounterHere_X12_passWord rfl rfl rfl (by decide +kernel) ⟨Nat.le_of_ble_eq_true rfl, Nat.le_of_ble_eq_true rfl⟩) (hp_preV hG hw hp0 rfl ⟨hB.1, hB.2⟩) rfl rfl hl.1 rfl (lv_room (Nat.le_of_ble_eq_true rfl)) dX12_isCounterHere_1 ⟨Nat.zero_le _, Nat.zero_le _⟩) hw (fun st1 t1 H1 locs1 eh1 eg1 bx1 hw => ?_)
  obtain ⟨x1p0, g1, on1, fx1p0, bx1p0, R1_0, R1_1⟩ := bx1
  rw [eh1, eg1] at g1 on1
  rw [eg1] at fx1p0
  have hkm := hkm.call g1 (by decide)
  have hon := hon.trans (hp_on.mono on1 (fun q h9 => by rcases h9 with rfl; exact Or.inl rfl))
  have f_p0_1 := g1 _ _ _ _ hB.2 (by decide)
  have obx1p0 := iv_o bx1p0
  refine lv_aload_n hx hb dX12_isCounterHere_4 rfl (lv_at hl 0 rfl) ?_
  refine lv_iconst (v := 0) hx hb dX12_isCounterHere_5 (by decide) ?_
  refine lv_aload_n hx hb dX12_isCounterHere_6 rfl (lv_at hl 0 rfl) ?_
  refine hp_getr hx hb hts IX12 hown hK hw.1 hp0 rfl 7 (by decide) L26 rfl dX12_isCounterHere_7 ?_
  refine lv_iconst (v := 0) hx hb dX12_isCounterHere_10 (by decide) ?_
  refine hp_iald hx hb hK hw.1 hp0read (vp_iv (show iv 0 0 0 from ⟨by decide, by decide⟩) (by decide)) dX12_isCounterHere_11 (fun v11 h11 => ?_)
  obtain ⟨x11, rfl, bx11⟩ := rP_rd0 h11 (show iv 0 0 0 from ⟨by decide, by decide⟩)
  have obx11 := iv_o bx11
  refine lv_iconst (v := 1) hx hb dX12_isCounterHere_12 (by decide) ?_
  refine lv_isub hx hb dX12_isCounterHere_13 ?_
  refine lv_topi (fun x13 ex13 => ?_)
  have bx13 : iv x13 (-1) 5 := iv_sub bx11 (show iv 1 1 1 from ⟨by decide, by decide⟩) ex13 (by decide)
  have obx13 := iv_o bx13
  have qx13 := iv_sub_eq bx11 (show iv 1 1 1 from ⟨by decide, by decide⟩) ex13 (by decide)
  refine hp_callei (va_runV (As := [.int 0, .int x13]) (rest := []) ⟨hx, hb, hml, hown, hts⟩ (sX12_numberHere l D T ap0 (0 : Int32) x13 x1p0 xp101 A Gm Tp ip0 bx1p0 bp101) (cwV 2 hts gX12_isCounterHere_X12_numberHere rfl rfl rfl (by decide +kernel) ⟨Nat.le_of_ble_eq_true rfl, Nat.le_of_ble_eq_true rfl⟩) (hp_preV hG hw hp0 rfl ⟨fx1p0, f_p0_1⟩) rfl rfl hl.1 rfl (lv_room (Nat.le_of_ble_eq_true rfl)) dX12_isCounterHere_14 ⟨Nat.zero_le _, Nat.zero_le _⟩) hw (fun x14 st14 t14 H14 locs14 eh14 eg14 bx14 hw => ?_)
  obtain ⟨x14p0, x14p1, g14, on14, fx14p0, fx14p1, cx14, bx14p0, bx14p1, R14_0, R14_1, R14_2⟩ := bx14
  rw [eh14, eg14] at g14 on14
  rw [eg14] at fx14p0
  rw [eg14] at fx14p1
  have hkm := hkm.call g14 (by decide)
  have hon := hon.trans (hp_on.mono on14 (fun q h9 => by rcases h9 with rfl; exact Or.inl rfl))
  have f_p0_1 := g14 _ _ _ _ f_p0_1 (by decide)
  have obx14p0 := iv_o bx14p0
  have obx14p1 := iv_o bx14p1
  have ocx14 := iv_o cx14
  have I14 : ¬ x14 = 0 → iv x14p1 0 5 := fun h9 => by have h8 := iv_neq h9; have h7 := R14_2 (by omega); exact ⟨by omega, by omega⟩
  refine lv_if_ne (tgt := 22) hx hb dX12_isCounterHere_17 (by decide) (fun c17 => ?_) (fun c17 => ?_)
  · have oc17 := iv_neq c17
    have r17tp : iv x14 1 1 := (iv_ne_lo c17 cx14 rfl).mono (by decide) (by decide)
    have or17tp := iv_o r17tp
    have r17tpz : iv x14p1 0 5 := (iv_both bx14p1 (I14 (iv_ne0 r17tp (by decide)))).mono (by decide) (by decide)
    have or17tpz := iv_o r17tpz
    refine lv_aload_n hx hb dX12_isCounterHere_22 rfl (lv_at hl 0 rfl) ?_
    refine hp_getr hx hb hts IX12 hown hK hw.1 hp0 rfl 7 (by decide) L26 rfl dX12_isCounterHere_23 ?_
    refine lv_iconst (v := 4) hx hb dX12_isCounterHere_26 (by decide) ?_
    refine lv_dup2_11 hx hb dX12_isCounterHere_27 rfl rfl ?_
    refine hp_iald hx hb hK hw.1 hp0read (vp_iv (show iv 4 4 4 from ⟨by decide, by decide⟩) (by decide)) dX12_isCounterHere_28 (fun v28 h28 => ?_)
    obtain ⟨x28, rfl⟩ := rP_any h28
    refine lv_iconst (v := 1) hx hb dX12_isCounterHere_29 (by decide) ?_
    refine lv_aload_n hx hb dX12_isCounterHere_30 rfl (lv_at hl 0 rfl) ?_
    refine hp_getf hx hb hts IX12 hown hK fx14p1 rfl (by decide) L124 dX12_isCounterHere_31 ?_
    refine lv_ishl hx hb dX12_isCounterHere_34 ?_
    refine lv_topi (fun x34 ex34 => ?_)
    have bx34 : iv x34 1 32 := iv_shl 5 (show iv 1 1 1 from ⟨by decide, by decide⟩) r17tpz ex34 (by decide)
    have obx34 := iv_o bx34
    refine lv_ior hx hb dX12_isCounterHere_35 ?_
    refine lv_topi (fun x35 ex35 => ?_)
    refine hp_iastE hx hb hK hw hp0read (vp_iv (show iv 4 4 4 from ⟨by decide, by decide⟩) (by decide)) (rP_st (show iv 4 4 4 from ⟨by decide, by decide⟩) (by decide)) dX12_isCounterHere_36 (fun H36 locs36 hw g36 o36 ge36 E36 => ?_)
    have hon := hon.trans (hp_on.mono (show hp_on (fun q => q = A 5) _ _ from o36) (fun q h9 => by subst h9; exact Or.inr (rfl)))
    have hkm := hkm.ar g36
    have f_p0_1 := g36 _ _ _ _ f_p0_1
    have f_p0_8 := g36 _ _ _ _ fx14p0
    have f_p0_10 := g36 _ _ _ _ fx14p1
    refine lv_iconst (v := 1) hx hb dX12_isCounterHere_37 (by decide) ?_
    exact W.zret (v := 1) hx hb hr (iv_nz (show iv 1 0 1 from ⟨by decide, by decide⟩)) (fun t ht hW => ⟨some (.int 1), rfl, ⟨(1 : Int32), rfl, ⟨x14p0, by rw [ht]; exact hkm, by rw [ht]; exact hon, by rw [ht]; exact f_p0_8, (show iv 1 0 1 from ⟨by decide, by decide⟩), bx14p0, (by intros; omega)⟩⟩, by rw [ht]; exact hw.1, hw.2.F ht⟩) hw.2.2.2 dX12_isCounterHere_38
  · have oc17 := congrArg Int32.toInt c17
    have r17fp : iv x14 0 0 := (iv_both cx14 (iv_eq (show iv 0 0 0 from ⟨by decide, by decide⟩) c17)).mono (by decide) (by decide)
    have or17fp := iv_o r17fp
    refine lv_iconst (v := 0) hx hb dX12_isCounterHere_20 (by decide) ?_
    exact W.zret (v := 0) hx hb hr (iv_nz (show iv 0 0 1 from ⟨by decide, by decide⟩)) (fun t ht hW => ⟨some (.int 0), rfl, ⟨(0 : Int32), rfl, ⟨x14p0, by rw [ht]; exact hkm, by rw [ht]; exact hon, by rw [ht]; exact fx14p0, (show iv 0 0 1 from ⟨by decide, by decide⟩), bx14p0, (by intros; omega)⟩⟩, by rw [ht]; exact hw.1, hw.2.F ht⟩) hw.2.2.2 dX12_isCounterHere_21
abbrev WX12_townLineHere (p : Program) (l : Launch) (e : Env) (s : State) (m : MethodId) (below : List Frame) (meth : Method) (c : Code) (D : hp_D) (T : hp_T) (ap0 : Nat) (xp1 : Int32) (xp100 : Int32) (xp101 : Int32) (A : Nat → Nat) (Tp : Nat → Value) (H : Heap) (locs : List Loc) (g : JFrame) : Prop := W p l e (headSpec wsX12_townLineHere ({ frames := 3, cells := 0, slots := 0, locals := 71 })).room s m ([.ref ap0, .int xp1] : List Value).toArray below meth c H locs 0 0 (MQ below (hq_e D T (fun v st t => ∃ r : Int32, v = some (.int r) ∧ ((∃ y0 : Int32, hp_km D [(12, 8), (12, 9), (12, 10)] st.heap t.heap ∧ hp_on (fun q => q = ap0 ∨ q = A 5) st.heap t.heap ∧ hp_f D t.heap ap0 12 8 (.int y0) ∧ iv r 0 1 ∧ iv y0 0 400 ∧ (xp100.toInt ≤ y0.toInt))))) ([.ref ap0, .int xp1] : List Value).toArray s 0 0 (hp_F T)) g
set_option maxHeartbeats 4000000 in
set_option maxRecDepth 100000 in
theorem sX12_townLineHere (l : Launch) (D : hp_D) (T : hp_T) (ap0 : Nat) (xp1 : Int32) (xp100 : Int32) (xp101 : Int32) (A : Nat → Nat) (Gm : moG) (Tp : Nat → Value) (ip0 : isMp T ap0 A Gm Tp) (bp100 : iv xp100 0 400) (bp101 : iv xp101 0 400) : Met l yX12_townLineHere wsX12_townLineHere ({ frames := 3, cells := 0, slots := 0, locals := 71 }) (hp_Pc D T [.ref ap0, .int xp1] (fun H => hp_f D H ap0 12 8 (.int xp100) ∧ hp_f D H ap0 12 1 (.int xp101))) (hq_e D T (fun v st t => ∃ r : Int32, v = some (.int r) ∧ ((∃ y0 : Int32, hp_km D [(12, 8), (12, 9), (12, 10)] st.heap t.heap ∧ hp_on (fun q => q = ap0 ∨ q = A 5) st.heap t.heap ∧ hp_f D t.heap ap0 12 8 (.int y0) ∧ iv r 0 1 ∧ iv y0 0 400 ∧ (xp100.toInt ≤ y0.toInt))))) 0 0 (hp_F T) := by
  obtain ⟨gok, tpok, hp0, hp0tape, hp0sign, hp0len, hp0clause, hp0clauses, hp0read, hp0opn, hp0stack, hp0word, hp0said, hp0was, hp0fitting, hp0sums, hp0sort, hp0sumsBy, hp0oneOf, hp0otherOf, hp0kept, hp0images, hp0acts, hp0iUnd, hp0iFor, hp0iX, hp0made⟩ := id ip0
  have hpx := gok.1
  have gsok := gok.2.2.2.2
  have ggd := gok.2.2.2.1
  refine Met.ofW (cc := cX12_townLineHere) (maxL := 2) (ret := (some .boolean)) (by decide) rfl ?_
  intro p e s m args below meth c s₁ B hml hv
  obtain ⟨rfl, hok, hG, hB⟩ := hv
  have hx := B.exec
  have hb := B.bytes
  have hr := B.returns
  have hts := atoms_spec (ws := wsX12_townLineHere) B.pre
  have hown : s.vm.findClass RX12 = some m.cls := findClass_of_methodNamed B.named
  have hlocks := B.notSynchronized
  have hK := hG.1
  have hw : hp_w D T s s.heap [] := hp_w.rf hok
  have IX12 : ∀ w ∈ wsX120, w ∈ wsX12_townLineHere := by decide +kernel
  have K225 := hts (.constantLong RX12 225 1953462126) (by decide +kernel)
  have L26 := hts (.fieldLink RX12 26 "PalmCensusModel" "read" "[I") (by decide +kernel)
  have K230 := hts (.constantLong RX12 230 123581014175598) (by decide +kernel)
  have K145 := hts (.constantLong RX12 145 1818584692) (by decide +kernel)
  have K238 := hts (.constantLong RX12 238 113715424159076) (by decide +kernel)
  have K240 := hts (.constantLong RX12 240 426953501796) (by decide +kernel)
  have K143 := hts (.constantLong RX12 143 7039342) (by decide +kernel)
  have hon : hp_on (fun q => q = ap0 ∨ q = A 5) s.heap s.heap := fun _ _ => rfl
  have k0 : (0 : Int32).toInt = 0 := (by decide)
  have k1 : (1 : Int32).toInt = 1 := (by decide)
  have k2 : (2 : Int32).toInt = 2 := (by decide)
  have k4 : (4 : Int32).toInt = 4 := (by decide)
  have obp100 := iv_o bp100
  have obp101 := iv_o bp101
  have hkm : hp_km D [(12, 8), (12, 9), (12, 10)] s.heap s.heap := fun _ _ _ _ h _ => h
  have hl := lv_entry ([.ref ap0, .int xp1]) (n := 2) (Nat.le_of_ble_eq_true rfl)
  rw [lg_entry_eq]
  generalize (lg_sl ([.ref ap0, .int xp1]) ++ List.replicate (2 - (lg_sl ([.ref ap0, .int xp1])).length) Slot.unset).toArray = ls at hl ⊢
  have hl : lv_has ls 2 [(0, .ref ap0), (1, .int xp1)] := hl
  show WX12_townLineHere p l e s m below meth c D T ap0 xp1 xp100 xp101 A Tp s.heap [] (F0 m 0 ls [])
  have obp100 := iv_o bp100
  have obp101 := iv_o bp101
  refine lv_aload_n hx hb dX12_townLineHere_0 rfl (lv_at hl 0 rfl) ?_
  refine lv_ldc2 (v := 1953462126) hx hb hown K225 dX12_townLineHere_1 ?_
  refine hp_callei (va_runV (As := [.long 1953462126]) (rest := []) ⟨hx, hb, hml, hown, hts⟩ (sX12_isWord l D T ap0 1953462126 xp100 xp101 A Gm Tp ip0 bp100 bp101) (cwV 1 hts gX12_townLineHere_X12_isWord rfl rfl rfl (by decide +kernel) ⟨Nat.le_of_ble_eq_true rfl, Nat.le_of_ble_eq_true rfl⟩) (hp_preV hG hw hp0 rfl ⟨hB.1, hB.2⟩) rfl rfl hl.1 rfl (lv_room (Nat.le_of_ble_eq_true rfl)) dX12_townLineHere_4 ⟨Nat.zero_le _, Nat.zero_le _⟩) hw (fun x4 st4 t4 H4 locs4 eh4 eg4 bx4 hw => ?_)
  obtain ⟨x4p0, g4, on4, fx4p0, cx4, bx4p0, R4_0, R4_1⟩ := bx4
  rw [eh4, eg4] at g4 on4
  rw [eg4] at fx4p0
  have hkm := hkm.call g4 (by decide)
  have hon := hon.trans (hp_on.mono on4 (fun q h9 => by rcases h9 with rfl; exact Or.inl rfl))
  have f_p0_1 := g4 _ _ _ _ hB.2 (by decide)
  have obx4p0 := iv_o bx4p0
  have ocx4 := iv_o cx4
  refine lv_if_eq (tgt := 16) hx hb dX12_townLineHere_7 (by decide) (fun c7 => ?_) (fun c7 => ?_)
  · have oc7 := congrArg Int32.toInt c7
    have r7tp : iv x4 0 0 := (iv_both cx4 (iv_eq (show iv 0 0 0 from ⟨by decide, by decide⟩) c7)).mono (by decide) (by decide)
    have or7tp := iv_o r7tp
    refine lv_aload_n hx hb dX12_townLineHere_16 rfl (lv_at hl 0 rfl) ?_
    refine hp_getr hx hb hts IX12 hown hK hw.1 hp0 rfl 7 (by decide) L26 rfl dX12_townLineHere_17 ?_
    refine lv_iconst (v := 0) hx hb dX12_townLineHere_20 (by decide) ?_
    refine hp_iald hx hb hK hw.1 hp0read (vp_iv (show iv 0 0 0 from ⟨by decide, by decide⟩) (by decide)) dX12_townLineHere_21 (fun v21 h21 => ?_)
    obtain ⟨x21, rfl, bx21⟩ := rP_rd0 h21 (show iv 0 0 0 from ⟨by decide, by decide⟩)
    have obx21 := iv_o bx21
    refine lv_if_ne (tgt := 32) hx hb dX12_townLineHere_22 (by decide) (fun c22 => ?_) (fun c22 => ?_)
    · have oc22 := iv_neq c22
      have r22tp : iv x21 1 6 := (iv_ne_lo c22 bx21 rfl).mono (by decide) (by decide)
      have or22tp := iv_o r22tp
      refine lv_aload_n hx hb dX12_townLineHere_32 rfl (lv_at hl 0 rfl) ?_
      refine lv_ldc2 (v := 123581014175598) hx hb hown K230 dX12_townLineHere_33 ?_
      refine hp_callei (va_runV (As := [.long 123581014175598]) (rest := []) ⟨hx, hb, hml, hown, hts⟩ (sX12_isWord l D T ap0 123581014175598 x4p0 xp101 A Gm Tp ip0 bx4p0 bp101) (cwV 1 hts gX12_townLineHere_X12_isWord rfl rfl rfl (by decide +kernel) ⟨Nat.le_of_ble_eq_true rfl, Nat.le_of_ble_eq_true rfl⟩) (hp_preV hG hw hp0 rfl ⟨fx4p0, f_p0_1⟩) rfl rfl hl.1 rfl (lv_room (Nat.le_of_ble_eq_true rfl)) dX12_townLineHere_36 ⟨Nat.zero_le _, Nat.zero_le _⟩) hw (fun x36 st36 t36 H36 locs36 eh36 eg36 bx36 hw => ?_)
      obtain ⟨x36p0, g36, on36, fx36p0, cx36, bx36p0, R36_0, R36_1⟩ := bx36
      rw [eh36, eg36] at g36 on36
      rw [eg36] at fx36p0
      have hkm := hkm.call g36 (by decide)
      have hon := hon.trans (hp_on.mono on36 (fun q h9 => by rcases h9 with rfl; exact Or.inl rfl))
      have f_p0_1 := g36 _ _ _ _ f_p0_1 (by decide)
      have obx36p0 := iv_o bx36p0
      have ocx36 := iv_o cx36
      refine lv_if_eq (tgt := 48) hx hb dX12_townLineHere_39 (by decide) (fun c39 => ?_) (fun c39 => ?_)
      · have oc39 := congrArg Int32.toInt c39
        have r39tp : iv x36 0 0 := (iv_both cx36 (iv_eq (show iv 0 0 0 from ⟨by decide, by decide⟩) c39)).mono (by decide) (by decide)
        have or39tp := iv_o r39tp
        refine lv_aload_n hx hb dX12_townLineHere_48 rfl (lv_at hl 0 rfl) ?_
        refine lv_ldc2 (v := 1818584692) hx hb hown K145 dX12_townLineHere_49 ?_
        refine hp_callei (va_runV (As := [.long 1818584692]) (rest := []) ⟨hx, hb, hml, hown, hts⟩ (sX12_isWord l D T ap0 1818584692 x36p0 xp101 A Gm Tp ip0 bx36p0 bp101) (cwV 1 hts gX12_townLineHere_X12_isWord rfl rfl rfl (by decide +kernel) ⟨Nat.le_of_ble_eq_true rfl, Nat.le_of_ble_eq_true rfl⟩) (hp_preV hG hw hp0 rfl ⟨fx36p0, f_p0_1⟩) rfl rfl hl.1 rfl (lv_room (Nat.le_of_ble_eq_true rfl)) dX12_townLineHere_52 ⟨Nat.zero_le _, Nat.zero_le _⟩) hw (fun x52 st52 t52 H52 locs52 eh52 eg52 bx52 hw => ?_)
        obtain ⟨x52p0, g52, on52, fx52p0, cx52, bx52p0, R52_0, R52_1⟩ := bx52
        rw [eh52, eg52] at g52 on52
        rw [eg52] at fx52p0
        have hkm := hkm.call g52 (by decide)
        have hon := hon.trans (hp_on.mono on52 (fun q h9 => by rcases h9 with rfl; exact Or.inl rfl))
        have f_p0_1 := g52 _ _ _ _ f_p0_1 (by decide)
        have obx52p0 := iv_o bx52p0
        have ocx52 := iv_o cx52
        refine lv_if_eq (tgt := 64) hx hb dX12_townLineHere_55 (by decide) (fun c55 => ?_) (fun c55 => ?_)
        · have oc55 := congrArg Int32.toInt c55
          have r55tp : iv x52 0 0 := (iv_both cx52 (iv_eq (show iv 0 0 0 from ⟨by decide, by decide⟩) c55)).mono (by decide) (by decide)
          have or55tp := iv_o r55tp
          refine lv_aload_n hx hb dX12_townLineHere_64 rfl (lv_at hl 0 rfl) ?_
          refine lv_ldc2 (v := 113715424159076) hx hb hown K238 dX12_townLineHere_65 ?_
          refine hp_callei (va_runV (As := [.long 113715424159076]) (rest := []) ⟨hx, hb, hml, hown, hts⟩ (sX12_isWord l D T ap0 113715424159076 x52p0 xp101 A Gm Tp ip0 bx52p0 bp101) (cwV 1 hts gX12_townLineHere_X12_isWord rfl rfl rfl (by decide +kernel) ⟨Nat.le_of_ble_eq_true rfl, Nat.le_of_ble_eq_true rfl⟩) (hp_preV hG hw hp0 rfl ⟨fx52p0, f_p0_1⟩) rfl rfl hl.1 rfl (lv_room (Nat.le_of_ble_eq_true rfl)) dX12_townLineHere_68 ⟨Nat.zero_le _, Nat.zero_le _⟩) hw (fun x68 st68 t68 H68 locs68 eh68 eg68 bx68 hw => ?_)
          obtain ⟨x68p0, g68, on68, fx68p0, cx68, bx68p0, R68_0, R68_1⟩ := bx68
          rw [eh68, eg68] at g68 on68
          rw [eg68] at fx68p0
          have hkm := hkm.call g68 (by decide)
          have hon := hon.trans (hp_on.mono on68 (fun q h9 => by rcases h9 with rfl; exact Or.inl rfl))
          have f_p0_1 := g68 _ _ _ _ f_p0_1 (by decide)
          have obx68p0 := iv_o bx68p0
          have ocx68 := iv_o cx68
          refine lv_if_eq (tgt := 80) hx hb dX12_townLineHere_71 (by decide) (fun c71 => ?_) (fun c71 => ?_)
          · have oc71 := congrArg Int32.toInt c71
            have r71tp : iv x68 0 0 := (iv_both cx68 (iv_eq (show iv 0 0 0 from ⟨by decide, by decide⟩) c71)).mono (by decide) (by decide)
            have or71tp := iv_o r71tp
            refine lv_aload_n hx hb dX12_townLineHere_80 rfl (lv_at hl 0 rfl) ?_
            refine lv_ldc2 (v := 426953501796) hx hb hown K240 dX12_townLineHere_81 ?_
            refine hp_callei (va_runV (As := [.long 426953501796]) (rest := []) ⟨hx, hb, hml, hown, hts⟩ (sX12_isWord l D T ap0 426953501796 x68p0 xp101 A Gm Tp ip0 bx68p0 bp101) (cwV 1 hts gX12_townLineHere_X12_isWord rfl rfl rfl (by decide +kernel) ⟨Nat.le_of_ble_eq_true rfl, Nat.le_of_ble_eq_true rfl⟩) (hp_preV hG hw hp0 rfl ⟨fx68p0, f_p0_1⟩) rfl rfl hl.1 rfl (lv_room (Nat.le_of_ble_eq_true rfl)) dX12_townLineHere_84 ⟨Nat.zero_le _, Nat.zero_le _⟩) hw (fun x84 st84 t84 H84 locs84 eh84 eg84 bx84 hw => ?_)
            obtain ⟨x84p0, g84, on84, fx84p0, cx84, bx84p0, R84_0, R84_1⟩ := bx84
            rw [eh84, eg84] at g84 on84
            rw [eg84] at fx84p0
            have hkm := hkm.call g84 (by decide)
            have hon := hon.trans (hp_on.mono on84 (fun q h9 => by rcases h9 with rfl; exact Or.inl rfl))
            have f_p0_1 := g84 _ _ _ _ f_p0_1 (by decide)
            have obx84p0 := iv_o bx84p0
            have ocx84 := iv_o cx84
            refine lv_if_eq (tgt := 96) hx hb dX12_townLineHere_87 (by decide) (fun c87 => ?_) (fun c87 => ?_)
            · have oc87 := congrArg Int32.toInt c87
              have r87tp : iv x84 0 0 := (iv_both cx84 (iv_eq (show iv 0 0 0 from ⟨by decide, by decide⟩) c87)).mono (by decide) (by decide)
              have or87tp := iv_o r87tp
              refine lv_aload_n hx hb dX12_townLineHere_96 rfl (lv_at hl 0 rfl) ?_
              refine lv_ldc2 (v := 7039342) hx hb hown K143 dX12_townLineHere_97 ?_
              refine hp_callei (va_runV (As := [.long 7039342]) (rest := []) ⟨hx, hb, hml, hown, hts⟩ (sX12_isWord l D T ap0 7039342 x84p0 xp101 A Gm Tp ip0 bx84p0 bp101) (cwV 1 hts gX12_townLineHere_X12_isWord rfl rfl rfl (by decide +kernel) ⟨Nat.le_of_ble_eq_true rfl, Nat.le_of_ble_eq_true rfl⟩) (hp_preV hG hw hp0 rfl ⟨fx84p0, f_p0_1⟩) rfl rfl hl.1 rfl (lv_room (Nat.le_of_ble_eq_true rfl)) dX12_townLineHere_100 ⟨Nat.zero_le _, Nat.zero_le _⟩) hw (fun x100 st100 t100 H100 locs100 eh100 eg100 bx100 hw => ?_)
              obtain ⟨x100p0, g100, on100, fx100p0, cx100, bx100p0, R100_0, R100_1⟩ := bx100
              rw [eh100, eg100] at g100 on100
              rw [eg100] at fx100p0
              have hkm := hkm.call g100 (by decide)
              have hon := hon.trans (hp_on.mono on100 (fun q h9 => by rcases h9 with rfl; exact Or.inl rfl))
              have f_p0_1 := g100 _ _ _ _ f_p0_1 (by decide)
              have obx100p0 := iv_o bx100p0
              have ocx100 := iv_o cx100
              refine lv_if_eq (tgt := 113) hx hb dX12_townLineHere_103 (by decide) (fun c103 => ?_) (fun c103 => ?_)
              · have oc103 := congrArg Int32.toInt c103
                have r103tp : iv x100 0 0 := (iv_both cx100 (iv_eq (show iv 0 0 0 from ⟨by decide, by decide⟩) c103)).mono (by decide) (by decide)
                have or103tp := iv_o r103tp
                refine lv_aload_n hx hb dX12_townLineHere_113 rfl (lv_at hl 0 rfl) ?_
                refine hp_callei (va_runV (As := []) (rest := []) ⟨hx, hb, hml, hown, hts⟩ (sX12_isCounterHere l D T ap0 x100p0 xp101 A Gm Tp ip0 bx100p0 bp101) (cwV 0 hts gX12_townLineHere_X12_isCounterHere rfl rfl rfl (by decide +kernel) ⟨Nat.le_of_ble_eq_true rfl, Nat.le_of_ble_eq_true rfl⟩) (hp_preV hG hw hp0 rfl ⟨fx100p0, f_p0_1⟩) rfl rfl hl.1 rfl (lv_room (Nat.le_of_ble_eq_true rfl)) dX12_townLineHere_114 ⟨Nat.zero_le _, Nat.zero_le _⟩) hw (fun x114 st114 t114 H114 locs114 eh114 eg114 bx114 hw => ?_)
                obtain ⟨x114p0, g114, on114, fx114p0, cx114, bx114p0, R114_0⟩ := bx114
                rw [eh114, eg114] at g114 on114
                rw [eg114] at fx114p0
                have hkm := hkm.call g114 (by decide)
                have hon := hon.trans on114
                have f_p0_1 := g114 _ _ _ _ f_p0_1 (by decide)
                have obx114p0 := iv_o bx114p0
                have ocx114 := iv_o cx114
                exact W.zret (v := x114) hx hb hr (iv_nz cx114) (fun t ht hW => ⟨some (.int x114), rfl, ⟨x114, rfl, ⟨x114p0, by rw [ht]; exact hkm, by rw [ht]; exact hon, by rw [ht]; exact fx114p0, cx114, bx114p0, (by intros; omega)⟩⟩, by rw [ht]; exact hw.1, hw.2.F ht⟩) hw.2.2.2 dX12_townLineHere_117
              · have oc103 := iv_neq c103
                have r103fp : iv x100 1 1 := (iv_ne_lo c103 cx100 rfl).mono (by decide) (by decide)
                have or103fp := iv_o r103fp
                refine lv_aload_n hx hb dX12_townLineHere_106 rfl (lv_at hl 0 rfl) ?_
                refine hp_callei (va_runV (As := []) (rest := []) ⟨hx, hb, hml, hown, hts⟩ (sX12_areKinHere l D T ap0 x100p0 xp101 A Gm Tp ip0 bx100p0 bp101) (cwV 0 hts gX12_townLineHere_X12_areKinHere rfl rfl rfl (by decide +kernel) ⟨Nat.le_of_ble_eq_true rfl, Nat.le_of_ble_eq_true rfl⟩) (hp_preV hG hw hp0 rfl ⟨fx100p0, f_p0_1⟩) rfl rfl hl.1 rfl (lv_room (Nat.le_of_ble_eq_true rfl)) dX12_townLineHere_107 ⟨Nat.zero_le _, Nat.zero_le _⟩) hw (fun x107 st107 t107 H107 locs107 eh107 eg107 bx107 hw => ?_)
                obtain ⟨x107p0, g107, on107, fx107p0, cx107, bx107p0, R107_0⟩ := bx107
                rw [eh107, eg107] at g107 on107
                rw [eg107] at fx107p0
                have hkm := hkm.call g107 (by decide)
                have hon := hon.trans on107
                have f_p0_1 := g107 _ _ _ _ f_p0_1 (by decide)
                have obx107p0 := iv_o bx107p0
                have ocx107 := iv_o cx107
                refine lv_goto (tgt := 117) hx hb dX12_townLineHere_110 (by decide) ?_
                exact W.zret (v := x107) hx hb hr (iv_nz cx107) (fun t ht hW => ⟨some (.int x107), rfl, ⟨x107, rfl, ⟨x107p0, by rw [ht]; exact hkm, by rw [ht]; exact hon, by rw [ht]; exact fx107p0, cx107, bx107p0, (by intros; omega)⟩⟩, by rw [ht]; exact hw.1, hw.2.F ht⟩) hw.2.2.2 dX12_townLineHere_117
            · have oc87 := iv_neq c87
              have r87fp : iv x84 1 1 := (iv_ne_lo c87 cx84 rfl).mono (by decide) (by decide)
              have or87fp := iv_o r87fp
              refine lv_aload_n hx hb dX12_townLineHere_90 rfl (lv_at hl 0 rfl) ?_
              refine lv_iconst (v := 2) hx hb dX12_townLineHere_91 (by decide) ?_
              refine hp_callei (va_runV (As := [.int 2]) (rest := []) ⟨hx, hb, hml, hown, hts⟩ (sX12_isMarkHere l D T ap0 (2 : Int32) x84p0 xp101 A Gm Tp ip0 (show iv 2 0 2 from ⟨by decide, by decide⟩) bx84p0 bp101) (cwV 1 hts gX12_townLineHere_X12_isMarkHere rfl rfl rfl (by decide +kernel) ⟨Nat.le_of_ble_eq_true rfl, Nat.le_of_ble_eq_true rfl⟩) (hp_preV hG hw hp0 rfl ⟨fx84p0, f_p0_1⟩) rfl rfl hl.1 rfl (lv_room (Nat.le_of_ble_eq_true rfl)) dX12_townLineHere_92 ⟨Nat.zero_le _, Nat.zero_le _⟩) hw (fun x92 st92 t92 H92 locs92 eh92 eg92 bx92 hw => ?_)
              obtain ⟨x92p0, g92, on92, fx92p0, cx92, bx92p0, R92_0⟩ := bx92
              rw [eh92, eg92] at g92 on92
              rw [eg92] at fx92p0
              have hkm := hkm.call g92 (by decide)
              have hon := hon.trans on92
              have f_p0_1 := g92 _ _ _ _ f_p0_1 (by decide)
              have obx92p0 := iv_o bx92p0
              have ocx92 := iv_o cx92
              exact W.zret (v := x92) hx hb hr (iv_nz cx92) (fun t ht hW => ⟨some (.int x92), rfl, ⟨x92, rfl, ⟨x92p0, by rw [ht]; exact hkm, by rw [ht]; exact hon, by rw [ht]; exact fx92p0, cx92, bx92p0, (by intros; omega)⟩⟩, by rw [ht]; exact hw.1, hw.2.F ht⟩) hw.2.2.2 dX12_townLineHere_95
          · have oc71 := iv_neq c71
            have r71fp : iv x68 1 1 := (iv_ne_lo c71 cx68 rfl).mono (by decide) (by decide)
            have or71fp := iv_o r71fp
            refine lv_aload_n hx hb dX12_townLineHere_74 rfl (lv_at hl 0 rfl) ?_
            refine lv_iconst (v := 1) hx hb dX12_townLineHere_75 (by decide) ?_
            refine hp_callei (va_runV (As := [.int 1]) (rest := []) ⟨hx, hb, hml, hown, hts⟩ (sX12_isMarkHere l D T ap0 (1 : Int32) x68p0 xp101 A Gm Tp ip0 (show iv 1 0 2 from ⟨by decide, by decide⟩) bx68p0 bp101) (cwV 1 hts gX12_townLineHere_X12_isMarkHere rfl rfl rfl (by decide +kernel) ⟨Nat.le_of_ble_eq_true rfl, Nat.le_of_ble_eq_true rfl⟩) (hp_preV hG hw hp0 rfl ⟨fx68p0, f_p0_1⟩) rfl rfl hl.1 rfl (lv_room (Nat.le_of_ble_eq_true rfl)) dX12_townLineHere_76 ⟨Nat.zero_le _, Nat.zero_le _⟩) hw (fun x76 st76 t76 H76 locs76 eh76 eg76 bx76 hw => ?_)
            obtain ⟨x76p0, g76, on76, fx76p0, cx76, bx76p0, R76_0⟩ := bx76
            rw [eh76, eg76] at g76 on76
            rw [eg76] at fx76p0
            have hkm := hkm.call g76 (by decide)
            have hon := hon.trans on76
            have f_p0_1 := g76 _ _ _ _ f_p0_1 (by decide)
            have obx76p0 := iv_o bx76p0
            have ocx76 := iv_o cx76
            exact W.zret (v := x76) hx hb hr (iv_nz cx76) (fun t ht hW => ⟨some (.int x76), rfl, ⟨x76, rfl, ⟨x76p0, by rw [ht]; exact hkm, by rw [ht]; exact hon, by rw [ht]; exact fx76p0, cx76, bx76p0, (by intros; omega)⟩⟩, by rw [ht]; exact hw.1, hw.2.F ht⟩) hw.2.2.2 dX12_townLineHere_79
        · have oc55 := iv_neq c55
          have r55fp : iv x52 1 1 := (iv_ne_lo c55 cx52 rfl).mono (by decide) (by decide)
          have or55fp := iv_o r55fp
          refine lv_aload_n hx hb dX12_townLineHere_58 rfl (lv_at hl 0 rfl) ?_
          refine lv_iconst (v := 0) hx hb dX12_townLineHere_59 (by decide) ?_
          refine hp_callei (va_runV (As := [.int 0]) (rest := []) ⟨hx, hb, hml, hown, hts⟩ (sX12_isMarkHere l D T ap0 (0 : Int32) x52p0 xp101 A Gm Tp ip0 (show iv 0 0 2 from ⟨by decide, by decide⟩) bx52p0 bp101) (cwV 1 hts gX12_townLineHere_X12_isMarkHere rfl rfl rfl (by decide +kernel) ⟨Nat.le_of_ble_eq_true rfl, Nat.le_of_ble_eq_true rfl⟩) (hp_preV hG hw hp0 rfl ⟨fx52p0, f_p0_1⟩) rfl rfl hl.1 rfl (lv_room (Nat.le_of_ble_eq_true rfl)) dX12_townLineHere_60 ⟨Nat.zero_le _, Nat.zero_le _⟩) hw (fun x60 st60 t60 H60 locs60 eh60 eg60 bx60 hw => ?_)
          obtain ⟨x60p0, g60, on60, fx60p0, cx60, bx60p0, R60_0⟩ := bx60
          rw [eh60, eg60] at g60 on60
          rw [eg60] at fx60p0
          have hkm := hkm.call g60 (by decide)
          have hon := hon.trans on60
          have f_p0_1 := g60 _ _ _ _ f_p0_1 (by decide)
          have obx60p0 := iv_o bx60p0
          have ocx60 := iv_o cx60
          exact W.zret (v := x60) hx hb hr (iv_nz cx60) (fun t ht hW => ⟨some (.int x60), rfl, ⟨x60, rfl, ⟨x60p0, by rw [ht]; exact hkm, by rw [ht]; exact hon, by rw [ht]; exact fx60p0, cx60, bx60p0, (by intros; omega)⟩⟩, by rw [ht]; exact hw.1, hw.2.F ht⟩) hw.2.2.2 dX12_townLineHere_63
      · have oc39 := iv_neq c39
        have r39fp : iv x36 1 1 := (iv_ne_lo c39 cx36 rfl).mono (by decide) (by decide)
        have or39fp := iv_o r39fp
        refine lv_aload_n hx hb dX12_townLineHere_42 rfl (lv_at hl 0 rfl) ?_
        refine lv_iload_n hx hb dX12_townLineHere_43 rfl (lv_at hl 1 rfl) ?_
        refine hp_callei (va_runV (As := [.int xp1]) (rest := []) ⟨hx, hb, hml, hown, hts⟩ (sX12_isPersonHere l D T ap0 xp1 x36p0 xp101 A Gm Tp ip0 bx36p0 bp101) (cwV 1 hts gX12_townLineHere_X12_isPersonHere rfl rfl rfl (by decide +kernel) ⟨Nat.le_of_ble_eq_true rfl, Nat.le_of_ble_eq_true rfl⟩) (hp_preV hG hw hp0 rfl ⟨fx36p0, f_p0_1⟩) rfl rfl hl.1 rfl (lv_room (Nat.le_of_ble_eq_true rfl)) dX12_townLineHere_44 ⟨Nat.zero_le _, Nat.zero_le _⟩) hw (fun x44 st44 t44 H44 locs44 eh44 eg44 bx44 hw => ?_)
        obtain ⟨x44p0, g44, on44, fx44p0, cx44, bx44p0, R44_0⟩ := bx44
        rw [eh44, eg44] at g44 on44
        rw [eg44] at fx44p0
        have hkm := hkm.call g44 (by decide)
        have hon := hon.trans on44
        have f_p0_1 := g44 _ _ _ _ f_p0_1 (by decide)
        have obx44p0 := iv_o bx44p0
        have ocx44 := iv_o cx44
        exact W.zret (v := x44) hx hb hr (iv_nz cx44) (fun t ht hW => ⟨some (.int x44), rfl, ⟨x44, rfl, ⟨x44p0, by rw [ht]; exact hkm, by rw [ht]; exact hon, by rw [ht]; exact fx44p0, cx44, bx44p0, (by intros; omega)⟩⟩, by rw [ht]; exact hw.1, hw.2.F ht⟩) hw.2.2.2 dX12_townLineHere_47
    · have oc22 := congrArg Int32.toInt c22
      have r22fp : iv x21 0 0 := (iv_both bx21 (iv_eq (show iv 0 0 0 from ⟨by decide, by decide⟩) c22)).mono (by decide) (by decide)
      have or22fp := iv_o r22fp
      refine lv_aload_n hx hb dX12_townLineHere_25 rfl (lv_at hl 0 rfl) ?_
      refine lv_iconst (v := 4) hx hb dX12_townLineHere_26 (by decide) ?_
      refine lv_iload_n hx hb dX12_townLineHere_27 rfl (lv_at hl 1 rfl) ?_
      refine hp_callei (va_runV (As := [.int 4, .int xp1]) (rest := []) ⟨hx, hb, hml, hown, hts⟩ (sX12_fails l D T ap0 (4 : Int32) xp1 A Gm Tp ip0) (cwV 2 hts gX12_townLineHere_X12_fails rfl rfl rfl (by decide +kernel) ⟨Nat.le_of_ble_eq_true rfl, Nat.le_of_ble_eq_true rfl⟩) (hp_preV hG hw hp0 rfl trivial) rfl rfl hl.1 rfl (lv_room (Nat.le_of_ble_eq_true rfl)) dX12_townLineHere_28 ⟨Nat.zero_le _, Nat.zero_le _⟩) hw (fun x28 st28 t28 H28 locs28 eh28 eg28 bx28 hw => ?_)
      obtain ⟨g28, on28, cx28⟩ := bx28
      rw [eh28, eg28] at g28 on28
      have hkm := hkm.call g28 (by decide)
      have hon := hon.trans (hp_on.mono on28 (fun q h9 => by rcases h9 with rfl; exact Or.inl rfl))
      have f_p0_1 := g28 _ _ _ _ f_p0_1 (by decide)
      have f_p0_8 := g28 _ _ _ _ fx4p0 (by decide)
      have ocx28 := iv_o cx28
      exact W.zret (v := x28) hx hb hr (iv_nz (cx28.mono (by decide) (by decide))) (fun t ht hW => ⟨some (.int x28), rfl, ⟨x28, rfl, ⟨x4p0, by rw [ht]; exact hkm, by rw [ht]; exact hon, by rw [ht]; exact f_p0_8, (cx28.mono (by decide) (by decide)), bx4p0, (by intros; omega)⟩⟩, by rw [ht]; exact hw.1, hw.2.F ht⟩) hw.2.2.2 dX12_townLineHere_31
  · have oc7 := iv_neq c7
    have r7fp : iv x4 1 1 := (iv_ne_lo c7 cx4 rfl).mono (by decide) (by decide)
    have or7fp := iv_o r7fp
    refine lv_aload_n hx hb dX12_townLineHere_10 rfl (lv_at hl 0 rfl) ?_
    refine lv_iload_n hx hb dX12_townLineHere_11 rfl (lv_at hl 1 rfl) ?_
    refine hp_callei (va_runV (As := [.int xp1]) (rest := []) ⟨hx, hb, hml, hown, hts⟩ (sX12_isTownHere l D T ap0 xp1 x4p0 xp101 A Gm Tp ip0 bx4p0 bp101) (cwV 1 hts gX12_townLineHere_X12_isTownHere rfl rfl rfl (by decide +kernel) ⟨Nat.le_of_ble_eq_true rfl, Nat.le_of_ble_eq_true rfl⟩) (hp_preV hG hw hp0 rfl ⟨fx4p0, f_p0_1⟩) rfl rfl hl.1 rfl (lv_room (Nat.le_of_ble_eq_true rfl)) dX12_townLineHere_12 ⟨Nat.zero_le _, Nat.zero_le _⟩) hw (fun x12 st12 t12 H12 locs12 eh12 eg12 bx12 hw => ?_)
    obtain ⟨x12p0, g12, on12, fx12p0, cx12, bx12p0, R12_0⟩ := bx12
    rw [eh12, eg12] at g12 on12
    rw [eg12] at fx12p0
    have hkm := hkm.call g12 (by decide)
    have hon := hon.trans on12
    have f_p0_1 := g12 _ _ _ _ f_p0_1 (by decide)
    have obx12p0 := iv_o bx12p0
    have ocx12 := iv_o cx12
    exact W.zret (v := x12) hx hb hr (iv_nz cx12) (fun t ht hW => ⟨some (.int x12), rfl, ⟨x12, rfl, ⟨x12p0, by rw [ht]; exact hkm, by rw [ht]; exact hon, by rw [ht]; exact fx12p0, cx12, bx12p0, (by intros; omega)⟩⟩, by rw [ht]; exact hw.1, hw.2.F ht⟩) hw.2.2.2 dX12_townLineHere_15
