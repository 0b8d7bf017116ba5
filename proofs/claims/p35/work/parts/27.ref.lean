abbrev WX12_image_in (p : Program) (l : Launch) (e : Env) (s : State) (m : MethodId) (below : List Frame) (meth : Method) (c : Code) (D : hp_D) (T : hp_T) (ap0 : Nat) (xp1 : Int32) (xp100 : Int32) (qX : Nat) (qM : Nat) (H : Heap) (locs : List Loc) (g : JFrame) : Prop := W p l e (headSpec wsX12_image ({ frames := 1, cells := 0, slots := 0, locals := 25 })).room s m ([.ref ap0, .int xp1] : List Value).toArray below meth c H locs 0 0 (MQ below (hq_e D T (fun v st t => ∃ r : Int32, v = some (.int r) ∧ ((True ∧ hp_et D 0 t.heap qX (xp1).toNatClampNeg (.int xp100)) ∧ hp_et D 2 t.heap qM (xp1).toNatClampNeg (.int 1)))) ([.ref ap0, .int xp1] : List Value).toArray s 0 0 (hp_F T)) g
set_option maxHeartbeats 4000000 in
set_option maxRecDepth 100000 in
theorem sX12_image_in (l : Launch) (D : hp_D) (T : hp_T) (ap0 : Nat) (xp1 : Int32) (xp100 : Int32) (Gm : moG) (ip0 : isMo T ap0 Gm) (qX qM : Nat) (hqX : ∃ Ps : List (Value → Prop), T ap0 = some (.inr (12, Ps)) ∧ Ps[42]? = some (rR qX) ∧ Ps[43]? = some (rR qM)) (hgX : ∀ y : Int32, gX Gm xp1.toNatClampNeg (.int y)) (hgM : ∀ y : Int32, gM Gm xp1.toNatClampNeg (.int y)) (bp1 : iv xp1 0 3) (bp100 : iv xp100 (-2147483648) 2147483647) : Met l yX12_image wsX12_image ({ frames := 1, cells := 0, slots := 0, locals := 25 }) (hp_Pc D T [.ref ap0, .int xp1] (fun H => hp_f D H ap0 12 22 (.int xp100))) (hq_e D T (fun v st t => ∃ r : Int32, v = some (.int r) ∧ ((True ∧ hp_et D 0 t.heap qX (xp1).toNatClampNeg (.int xp100)) ∧ hp_et D 2 t.heap qM (xp1).toNatClampNeg (.int 1)))) 0 0 (hp_F T) := by
  obtain ⟨ap0tape, ap0sign, ap0len, ap0clause, ap0clauses, ap0read, ap0opn, ap0stack, ap0word, ap0said, ap0was, ap0fitting, ap0sums, ap0sort, ap0sumsBy, ap0oneOf, ap0otherOf, ap0kept, ap0images, ap0acts, ap0iUnd, ap0iFor, ap0iX, ap0made, gok, hp0, hp0tape, hp0sign, hp0len, hp0clause, hp0clauses, hp0read, hp0opn, hp0stack, hp0word, hp0said, hp0was, hp0fitting, hp0sums, hp0sort, hp0sumsBy, hp0oneOf, hp0otherOf, hp0kept, hp0images, hp0acts, hp0iUnd, hp0iFor, hp0iX, hp0made⟩ := id ip0
  have hpx := gok.1
  have gsok := gok.2.2.2.2
  have ggd := gok.2.2.2.1
  obtain ⟨Psq, hq1, hq2, hq3⟩ := hqX
  have eq_p0iX : qX = ap0iX := mo_addr hq1 hq2 hp0 rfl
  have eq_p0made : qM = ap0made := mo_addr hq1 hq3 hp0 rfl
  refine Met.ofW (cc := cX12_image) (maxL := 3) (ret := (some .int)) (by decide) rfl ?_
  intro p e s m args below meth c s₁ B hml hv
  obtain ⟨rfl, hok, hG, hB⟩ := hv
  have hx := B.exec
  have hb := B.bytes
  have hr := B.returns
  have hts := atoms_spec (ws := wsX12_image) B.pre
  have hown : s.vm.findClass RX12 = some m.cls := findClass_of_methodNamed B.named
  have hlocks := B.notSynchronized
  have hK := hG.1
  have hw : hp_w D T s s.heap [] := hp_w.rf hok
  have IX12 : ∀ w ∈ wsX120, w ∈ wsX12_image := by decide +kernel
  have K454 := hts (.constantLong RX12 454 3) (by decide +kernel)
  have L85 := hts (.fieldLink RX12 85 "PalmCensusModel" "isMade" "[Z") (by decide +kernel)
  have L76 := hts (.fieldLink RX12 76 "PalmCensusModel" "imageUndone" "[I") (by decide +kernel)
  have L273 := hts (.fieldLink RX12 273 "PalmCensusModel" "undone" "I") (by decide +kernel)
  have L79 := hts (.fieldLink RX12 79 "PalmCensusModel" "imageForce" "[I") (by decide +kernel)
  have L42 := hts (.fieldLink RX12 42 "PalmCensusModel" "force" "I") (by decide +kernel)
  have L82 := hts (.fieldLink RX12 82 "PalmCensusModel" "imageX" "[I") (by decide +kernel)
  have L429 := hts (.fieldLink RX12 429 "PalmCensusModel" "x" "I") (by decide +kernel)
  have L39 := hts (.fieldLink RX12 39 "PalmCensusModel" "said" "[I") (by decide +kernel)
  have L73 := hts (.fieldLink RX12 73 "PalmCensusModel" "imageActs" "[I") (by decide +kernel)
  have L46 := hts (.fieldLink RX12 46 "PalmCensusModel" "wasSaid" "[I") (by decide +kernel)
  have L70 := hts (.fieldLink RX12 70 "PalmCensusModel" "images" "[I") (by decide +kernel)
  have hl := lv_entry ([.ref ap0, .int xp1]) (n := 3) (Nat.le_of_ble_eq_true rfl)
  rw [lg_entry_eq]
  generalize (lg_sl ([.ref ap0, .int xp1]) ++ List.replicate (3 - (lg_sl ([.ref ap0, .int xp1])).length) Slot.unset).toArray = ls at hl ⊢
  have hl : lv_has ls 3 [(0, .ref ap0), (1, .int xp1)] := hl
  show WX12_image_in p l e s m below meth c D T ap0 xp1 xp100 qX qM s.heap [] (F0 m 0 ls [])
  refine lv_iload_n hx hb dX12_image_0 rfl (lv_at hl 1 rfl) ?_
  obtain ⟨x1, ex1⟩ : ∃ y : Int64, xp1.toInt64 = y := ⟨_, rfl⟩
  refine lv_i2l (v := x1) hx hb dX12_image_1 ex1 ?_
  refine lv_lconst (v := 0) hx hb dX12_image_2 (by decide) ?_
  refine lv_ldc2 (v := 3) hx hb hown K454 dX12_image_3 ?_
  refine hp_callpi (va_runS (As := [.long x1, .long 0, .long 3]) (rest := []) ⟨hx, hb, hml, hown, hts⟩ (sX12_in l D T x1 0 3) (va_cwS 3 hts gX12_image_X12_in rfl rfl rfl (by decide +kernel) ⟨Nat.le_of_ble_eq_true rfl, Nat.le_of_ble_eq_true rfl⟩) (hp_preS hG hw trivial) rfl rfl hl.1 rfl (lv_room (Nat.le_of_ble_eq_true rfl)) dX12_image_6 ⟨Nat.zero_le _, Nat.zero_le _⟩) (fun x6 bx6 => ?_)
  obtain ⟨bx6, ox6, nx6⟩ := bx6
  have ox6a_ : x6 = 0 ∨ iv xp1 0 3 := ox6.imp id (fun h => iv_in64 ex1 h.1 h.2 (by decide) (by decide))
  have ox6a : x6 = 0 ∨ iv xp1 0 3 := ox6.imp id (fun h => iv_in64 ex1 h.1 h.2 (by decide) (by decide))
  have nx6b : iv x6 1 1 := iv_eq (show iv 1 1 1 from ⟨by decide, by decide⟩) (nx6.resolve_right (fun h9 => h9 (iv_64in ex1 bp1 (by decide) (by decide))))
  refine lv_if_ne (tgt := 14) hx hb dX12_image_9 (by decide) (fun c9 => ?_) (fun c9 => ?_)
  · refine lv_aload_n hx hb dX12_image_14 rfl (lv_at hl 0 rfl) ?_
    refine hp_getr hx hb hts IX12 hown hK hw.1 hp0 rfl 43 (by decide) L85 rfl dX12_image_15 ?_
    refine lv_iload_n hx hb dX12_image_18 rfl (lv_at hl 1 rfl) ?_
    refine lv_iconst (v := 1) hx hb dX12_image_19 (by decide) ?_
    refine hp_zastE hx hb hK hw hp0made (vp_iv bp1 (by decide)) (hgM _) (iv_nz (show iv 1 0 1 from ⟨by decide, by decide⟩)) dX12_image_20 (fun H20 locs20 hw g20 o20 E20 => ?_)
    have f_p0_22 := g20 _ _ _ _ hB
    refine lv_aload_n hx hb dX12_image_21 rfl (lv_at hl 0 rfl) ?_
    refine hp_getr hx hb hts IX12 hown hK hw.1 hp0 rfl 40 (by decide) L76 rfl dX12_image_22 ?_
    refine lv_iload_n hx hb dX12_image_25 rfl (lv_at hl 1 rfl) ?_
    refine lv_aload_n hx hb dX12_image_26 rfl (lv_at hl 0 rfl) ?_
    refine hp_geti hx hb hts IX12 hown hK hw.1 hp0 rfl 24 (by decide) L273 rfl dX12_image_27 (fun x27 bx27 fx27 => ?_)
    refine hp_iastE hx hb hK hw hp0iUnd (vp_iv bp1 (by decide)) ⟨_, rfl, bx27⟩ dX12_image_30 (fun H30 locs30 hw g30 o30 ge30 E30 => ?_)
    have E30_p0made := hp_et.kept E20 (o30 _ (hp_ne_len hp0made hp0iUnd (by decide)))
    have f_p0_22 := g30 _ _ _ _ f_p0_22
    refine lv_aload_n hx hb dX12_image_31 rfl (lv_at hl 0 rfl) ?_
    refine hp_getr hx hb hts IX12 hown hK hw.1 hp0 rfl 41 (by decide) L79 rfl dX12_image_32 ?_
    refine lv_iload_n hx hb dX12_image_35 rfl (lv_at hl 1 rfl) ?_
    refine lv_aload_n hx hb dX12_image_36 rfl (lv_at hl 0 rfl) ?_
    refine hp_geti hx hb hts IX12 hown hK hw.1 hp0 rfl 21 (by decide) L42 rfl dX12_image_37 (fun x37 bx37 fx37 => ?_)
    refine hp_iastE hx hb hK hw hp0iFor (vp_iv bp1 (by decide)) ⟨_, rfl, bx37⟩ dX12_image_40 (fun H40 locs40 hw g40 o40 ge40 E40 => ?_)
    have E40_p0made := hp_et.kept E30_p0made (o40 _ (hp_ne_len hp0made hp0iFor (by decide)))
    have f_p0_22 := g40 _ _ _ _ f_p0_22
    refine lv_aload_n hx hb dX12_image_41 rfl (lv_at hl 0 rfl) ?_
    refine hp_getr hx hb hts IX12 hown hK hw.1 hp0 rfl 42 (by decide) L82 rfl dX12_image_42 ?_
    refine lv_iload_n hx hb dX12_image_45 rfl (lv_at hl 1 rfl) ?_
    refine lv_aload_n hx hb dX12_image_46 rfl (lv_at hl 0 rfl) ?_
    refine hp_getf hx hb hts IX12 hown hK f_p0_22 rfl (by decide) L429 dX12_image_47 ?_
    refine hp_iastE hx hb hK hw hp0iX (vp_iv bp1 (by decide)) (hgX _) dX12_image_50 (fun H50 locs50 hw g50 o50 ge50 E50 => ?_)
    have E50_p0made := hp_et.kept E40_p0made (o50 _ (hp_ne_len hp0made hp0iX (by decide)))
    have f_p0_22 := g50 _ _ _ _ f_p0_22
    refine lv_iconst (v := 0) hx hb dX12_image_51 (by decide) ?_
    refine lv_istore_n (lv' := [(2, .int 0), (0, .ref ap0), (1, .int xp1)]) hx hb dX12_image_52 rfl hl (by decide) rfl (fun ls hl => ?_)
    have J53 : ∀ (n : Nat) (y53_l2 : Int32), (255 - y53_l2.toInt).toNat < n → iv xp1 0 3 → iv y53_l2 0 255 → ∀ (H : Heap) (locs : List Loc), hp_w D T s H locs → hp_et D 0 H ap0iX (xp1).toNatClampNeg (.int xp100) → hp_et D 2 H ap0made (xp1).toNatClampNeg (.int 1) → ∀ (ls : Array Slot), lv_has ls 3 [(0, .ref ap0), (1, .int xp1), (2, .int y53_l2)] → WX12_image_in p l e s m below meth c D T ap0 xp1 xp100 qX qM H locs (F0 m 53 ls []) := by
      intro n
      induction n with
      | zero => intro y53_l2 hmu53 c53_xp1 c53_y53_l2 H53 locs53 hw EJ_p0iX EJ_p0made ls hl; exact absurd hmu53 (Nat.not_lt_zero _)
      | succ n ih53 =>
        intro y53_l2 hmu53 c53_xp1 c53_y53_l2 H53 locs53 hw EJ_p0iX EJ_p0made ls hl
        refine lv_iload_n hx hb dX12_image_53 rfl (lv_at hl 2 rfl) ?_
        refine lv_sipush (v := 211) hx hb dX12_image_54 (by decide) ?_
        refine lv_icmp_ge (tgt := 84) hx hb dX12_image_57 (by decide) (fun c57 => ?_) (fun c57 => ?_)
        · have r57tq : iv y53_l2 211 255 := (iv_le_r c57 (show iv 211 211 211 from ⟨by decide, by decide⟩) c53_y53_l2).mono (by decide) (by decide)
          refine lv_iconst (v := 0) hx hb dX12_image_84 (by decide) ?_
          refine lv_istore_n (lv' := [(2, .int 0), (0, .ref ap0), (1, .int xp1)]) hx hb dX12_image_85 rfl hl (by decide) rfl (fun ls hl => ?_)
          have J86 : ∀ (n : Nat) (y86_l2 : Int32), (9999 - y86_l2.toInt).toNat < n → iv xp1 0 3 → iv y86_l2 0 9999 → ∀ (H : Heap) (locs : List Loc), hp_w D T s H locs → hp_et D 0 H ap0iX (xp1).toNatClampNeg (.int xp100) → hp_et D 2 H ap0made (xp1).toNatClampNeg (.int 1) → ∀ (ls : Array Slot), lv_has ls 3 [(0, .ref ap0), (1, .int xp1), (2, .int y86_l2)] → WX12_image_in p l e s m below meth c D T ap0 xp1 xp100 qX qM H locs (F0 m 86 ls []) := by
            intro n
            induction n with
            | zero => intro y86_l2 hmu86 c86_xp1 c86_y86_l2 H86 locs86 hw EJ_p0iX EJ_p0made ls hl; exact absurd hmu86 (Nat.not_lt_zero _)
            | succ n ih86 =>
              intro y86_l2 hmu86 c86_xp1 c86_y86_l2 H86 locs86 hw EJ_p0iX EJ_p0made ls hl
              refine lv_iload_n hx hb dX12_image_86 rfl (lv_at hl 2 rfl) ?_
              refine lv_sipush (v := 170) hx hb dX12_image_87 (by decide) ?_
              refine lv_aload_n hx hb dX12_image_90 rfl (lv_at hl 0 rfl) ?_
              refine hp_geti hx hb hts IX12 hown hK hw.1 hp0 rfl 24 (by decide) L273 rfl dX12_image_91 (fun x91 bx91 fx91 => ?_)
              refine lv_imul hx hb dX12_image_94 ?_
              refine lv_topi (fun x94 ex94 => ?_)
              have bx94 : iv x94 0 3400 := iv_mul (show iv 170 170 170 from ⟨by decide, by decide⟩) bx91 ex94 (by decide)
              refine lv_icmp_ge (tgt := 122) hx hb dX12_image_95 (by decide) (fun c95 => ?_) (fun c95 => ?_)
              · refine lv_aload_n hx hb dX12_image_122 rfl (lv_at hl 0 rfl) ?_
                refine hp_getr hx hb hts IX12 hown hK hw.1 hp0 rfl 20 (by decide) L39 rfl dX12_image_123 ?_
                refine lv_iconst (v := 3) hx hb dX12_image_126 (by decide) ?_
                refine hp_iald hx hb hK hw.1 hp0said (vp_iv (show iv 3 3 3 from ⟨by decide, by decide⟩) (by decide)) dX12_image_127 (fun v127 hr127 => ?_)
                have h127 := gsok _ _ hr127
                obtain ⟨x127, rfl⟩ := sP_any h127
                exact W.iret (v := x127) hx hb hr (fun t ht hW => ⟨some (.int x127), rfl, ⟨x127, rfl, ⟨⟨trivial, by rw [ht, eq_p0iX]; exact EJ_p0iX⟩, by rw [ht, eq_p0made]; exact EJ_p0made⟩⟩, by rw [ht]; exact hw.1, hw.2.F ht⟩) hw.2.2.2 dX12_image_128
              · have r95fp : iv y86_l2 0 3399 := (iv_lt_l (iv_nle c95) c86_y86_l2 bx94).mono (by decide) (by decide)
                have r95fq : iv x94 1 3400 := (iv_lt_r (iv_nle c95) c86_y86_l2 bx94).mono (by decide) (by decide)
                refine lv_aload_n hx hb dX12_image_98 rfl (lv_at hl 0 rfl) ?_
                refine hp_getr hx hb hts IX12 hown hK hw.1 hp0 rfl 39 (by decide) L73 rfl dX12_image_99 ?_
                refine lv_sipush (v := 3400) hx hb dX12_image_102 (by decide) ?_
                refine lv_iload_n hx hb dX12_image_105 rfl (lv_at hl 1 rfl) ?_
                refine lv_imul hx hb dX12_image_106 ?_
                refine lv_topi (fun x106 ex106 => ?_)
                have bx106 : iv x106 0 10200 := iv_mul (show iv 3400 3400 3400 from ⟨by decide, by decide⟩) c86_xp1 ex106 (by decide)
                refine lv_iload_n hx hb dX12_image_107 rfl (lv_at hl 2 rfl) ?_
                refine lv_iadd hx hb dX12_image_108 ?_
                refine lv_topi (fun x108 ex108 => ?_)
                have bx108 : iv x108 0 13599 := iv_add bx106 r95fp ex108 (by decide)
                have qx108 := iv_add_eq bx106 r95fp ex108 (by decide)
                refine lv_aload_n hx hb dX12_image_109 rfl (lv_at hl 0 rfl) ?_
                refine hp_getr hx hb hts IX12 hown hK hw.1 hp0 rfl 23 (by decide) L46 rfl dX12_image_110 ?_
                refine lv_iload_n hx hb dX12_image_113 rfl (lv_at hl 2 rfl) ?_
                refine hp_iald hx hb hK hw.1 hp0was (vp_iv r95fp (by decide)) dX12_image_114 (fun v114 h114 => ?_)
                obtain ⟨x114, rfl⟩ := wP_any h114
                refine hp_iastE hx hb hK hw hp0acts (vp_iv bx108 (by decide)) (wP_in 3 3399 h114 (iv_row (N := 3399) (M := 3) 3400 (by decide) ex106 ex108 c86_xp1 r95fp (by decide) (by decide)) c86_xp1 r95fp) dX12_image_115 (fun H115 locs115 hw g115 o115 ge115 E115 => ?_)
                have E115_p0iX := hp_et.kept EJ_p0iX (o115 _ (hp_ne_len hp0iX hp0acts (by decide)))
                have E115_p0made := hp_et.kept EJ_p0made (o115 _ (hp_ne_len hp0made hp0acts (by decide)))
                obtain ⟨x116, ex116⟩ : ∃ y : Int32, y = y86_l2 + 1 := ⟨_, rfl⟩
                have bx116 : iv x116 1 3400 := iv_add r95fp (show iv 1 1 1 from ⟨by decide, by decide⟩) ex116 (by decide)
                have qx116 := iv_add_eq r95fp (show iv 1 1 1 from ⟨by decide, by decide⟩) ex116 (by decide)
                refine lv_iinc (v := x116) (lv' := [(2, .int x116), (0, .ref ap0), (1, .int xp1)]) hx hb dX12_image_116 hl (k := 2) rfl (by rw [ex116]; rfl) (by decide) rfl (fun ls hl => ?_)
                refine lv_goto (tgt := 86) hx hb dX12_image_119 (by decide) ?_
                exact ih86 x116 (mu_up 1 hmu86 (qx116) (by decide) (show iv x116 0 9999 from (bx116.mono (by decide) (by decide))).2) c86_xp1 (bx116.mono (by decide) (by decide)) H115 locs115 hw E115_p0iX E115_p0made _ (lv_sub hl [1, 2, 0] rfl)
          exact J86 _ (0 : Int32) (Nat.lt_succ_self _) c53_xp1 (show iv 0 0 9999 from ⟨by decide, by decide⟩) H53 locs53 hw EJ_p0iX EJ_p0made _ (lv_sub hl [1, 2, 0] rfl)
        · have r57fp : iv y53_l2 0 210 := (iv_lt_l (iv_nle c57) c53_y53_l2 (show iv 211 211 211 from ⟨by decide, by decide⟩)).mono (by decide) (by decide)
          refine lv_aload_n hx hb dX12_image_60 rfl (lv_at hl 0 rfl) ?_
          refine hp_getr hx hb hts IX12 hown hK hw.1 hp0 rfl 38 (by decide) L70 rfl dX12_image_61 ?_
          refine lv_sipush (v := 211) hx hb dX12_image_64 (by decide) ?_
          refine lv_iload_n hx hb dX12_image_67 rfl (lv_at hl 1 rfl) ?_
          refine lv_imul hx hb dX12_image_68 ?_
          refine lv_topi (fun x68 ex68 => ?_)
          have bx68 : iv x68 0 633 := iv_mul (show iv 211 211 211 from ⟨by decide, by decide⟩) c53_xp1 ex68 (by decide)
          refine lv_iload_n hx hb dX12_image_69 rfl (lv_at hl 2 rfl) ?_
          refine lv_iadd hx hb dX12_image_70 ?_
          refine lv_topi (fun x70 ex70 => ?_)
          have bx70 : iv x70 0 843 := iv_add bx68 r57fp ex70 (by decide)
          have qx70 := iv_add_eq bx68 r57fp ex70 (by decide)
          refine lv_aload_n hx hb dX12_image_71 rfl (lv_at hl 0 rfl) ?_
          refine hp_getr hx hb hts IX12 hown hK hw.1 hp0 rfl 20 (by decide) L39 rfl dX12_image_72 ?_
          refine lv_iload_n hx hb dX12_image_75 rfl (lv_at hl 2 rfl) ?_
          refine hp_iald hx hb hK hw.1 hp0said (vp_iv r57fp (by decide)) dX12_image_76 (fun v76 hr76 => ?_)
          have h76 := gsok _ _ hr76
          obtain ⟨x76, rfl⟩ := sP_any h76
          refine hp_iastE hx hb hK hw hp0images (vp_iv bx70 (by decide)) (iP_ofs 3 210 h76 (iv_row (N := 210) (M := 3) 211 (by decide) ex68 ex70 c53_xp1 r57fp (by decide) (by decide)) c53_xp1 r57fp (by decide)) dX12_image_77 (fun H77 locs77 hw g77 o77 ge77 E77 => ?_)
          have E77_p0iX := hp_et.kept EJ_p0iX (o77 _ (hp_ne_len hp0iX hp0images (by decide)))
          have E77_p0made := hp_et.kept EJ_p0made (o77 _ (hp_ne_len hp0made hp0images (by decide)))
          obtain ⟨x78, ex78⟩ : ∃ y : Int32, y = y53_l2 + 1 := ⟨_, rfl⟩
          have bx78 : iv x78 1 211 := iv_add r57fp (show iv 1 1 1 from ⟨by decide, by decide⟩) ex78 (by decide)
          have qx78 := iv_add_eq r57fp (show iv 1 1 1 from ⟨by decide, by decide⟩) ex78 (by decide)
          refine lv_iinc (v := x78) (lv' := [(2, .int x78), (0, .ref ap0), (1, .int xp1)]) hx hb dX12_image_78 hl (k := 2) rfl (by rw [ex78]; rfl) (by decide) rfl (fun ls hl => ?_)
          refine lv_goto (tgt := 53) hx hb dX12_image_81 (by decide) ?_
          exact ih53 x78 (mu_up 1 hmu53 (qx78) (by decide) (show iv x78 0 255 from (bx78.mono (by decide) (by decide))).2) c53_xp1 (bx78.mono (by decide) (by decide)) H77 locs77 hw E77_p0iX E77_p0made _ (lv_sub hl [1, 2, 0] rfl)
    exact J53 _ (0 : Int32) (Nat.lt_succ_self _) bp1 (show iv 0 0 255 from ⟨by decide, by decide⟩) H50 locs50 hw E50 E50_p0made _ (lv_sub hl [1, 2, 0] rfl)
  · exact iv_abs2 c9 nx6b (show iv 0 0 0 from ⟨by decide, by decide⟩) (by decide)
abbrev WX12_image_lo (p : Program) (l : Launch) (e : Env) (s : State) (m : MethodId) (below : List Frame) (meth : Method) (c : Code) (D : hp_D) (T : hp_T) (ap0 : Nat) (xp1 : Int32) (H : Heap) (locs : List Loc) (g : JFrame) : Prop := W p l e (headSpec wsX12_image ({ frames := 1, cells := 0, slots := 0, locals := 25 })).room s m ([.ref ap0, .int xp1] : List Value).toArray below meth c H locs 0 0 (MQ below (hq_p (fun v => ∃ r : Int32, v = some (.int r) ∧ iv r (-1) (-1))) ([.ref ap0, .int xp1] : List Value).toArray s 0 0 (fun _ => False)) g
set_option maxHeartbeats 4000000 in
set_option maxRecDepth 100000 in
theorem sX12_image_lo (l : Launch) (D : hp_D) (T : hp_T) (ap0 : Nat) (xp1 : Int32) (Gm : moG) (ip0 : isMo T ap0 Gm) (bp1 : iv xp1 (-2147483648) (-1)) : Met l yX12_image wsX12_image ({ frames := 1, cells := 0, slots := 0, locals := 25 }) (hp_Pc D T [.ref ap0, .int xp1] (fun _ => True)) (hq_p (fun v => ∃ r : Int32, v = some (.int r) ∧ iv r (-1) (-1))) 0 0 (fun _ => False) := by
  obtain ⟨ap0tape, ap0sign, ap0len, ap0clause, ap0clauses, ap0read, ap0opn, ap0stack, ap0word, ap0said, ap0was, ap0fitting, ap0sums, ap0sort, ap0sumsBy, ap0oneOf, ap0otherOf, ap0kept, ap0images, ap0acts, ap0iUnd, ap0iFor, ap0iX, ap0made, gok, hp0, hp0tape, hp0sign, hp0len, hp0clause, hp0clauses, hp0read, hp0opn, hp0stack, hp0word, hp0said, hp0was, hp0fitting, hp0sums, hp0sort, hp0sumsBy, hp0oneOf, hp0otherOf, hp0kept, hp0images, hp0acts, hp0iUnd, hp0iFor, hp0iX, hp0made⟩ := id ip0
  have hpx := gok.1
  have gsok := gok.2.2.2.2
  have ggd := gok.2.2.2.1
  refine Met.ofW (cc := cX12_image) (maxL := 3) (ret := (some .int)) (by decide) rfl ?_
  intro p e s m args below meth c s₁ B hml hv
  obtain ⟨rfl, hok, hG, hB⟩ := hv
  have hx := B.exec
  have hb := B.bytes
  have hr := B.returns
  have hts := atoms_spec (ws := wsX12_image) B.pre
  have hown : s.vm.findClass RX12 = some m.cls := findClass_of_methodNamed B.named
  have hlocks := B.notSynchronized
  have hK := hG.1
  have hw : hp_w D T s s.heap [] := hp_w.rf hok
  have K454 := hts (.constantLong RX12 454 3) (by decide +kernel)
  have hl := lv_entry ([.ref ap0, .int xp1]) (n := 3) (Nat.le_of_ble_eq_true rfl)
  rw [lg_entry_eq]
  generalize (lg_sl ([.ref ap0, .int xp1]) ++ List.replicate (3 - (lg_sl ([.ref ap0, .int xp1])).length) Slot.unset).toArray = ls at hl ⊢
  have hl : lv_has ls 3 [(0, .ref ap0), (1, .int xp1)] := hl
  show WX12_image_lo p l e s m below meth c D T ap0 xp1 s.heap [] (F0 m 0 ls [])
  refine lv_iload_n hx hb dX12_image_0 rfl (lv_at hl 1 rfl) ?_
  obtain ⟨x1, ex1⟩ : ∃ y : Int64, xp1.toInt64 = y := ⟨_, rfl⟩
  refine lv_i2l (v := x1) hx hb dX12_image_1 ex1 ?_
  refine lv_lconst (v := 0) hx hb dX12_image_2 (by decide) ?_
  refine lv_ldc2 (v := 3) hx hb hown K454 dX12_image_3 ?_
  refine hp_callpi (va_runS (As := [.long x1, .long 0, .long 3]) (rest := []) ⟨hx, hb, hml, hown, hts⟩ (sX12_in l D T x1 0 3) (va_cwS 3 hts gX12_image_X12_in rfl rfl rfl (by decide +kernel) ⟨Nat.le_of_ble_eq_true rfl, Nat.le_of_ble_eq_true rfl⟩) (hp_preS hG hw trivial) rfl rfl hl.1 rfl (lv_room (Nat.le_of_ble_eq_true rfl)) dX12_image_6 ⟨Nat.zero_le _, Nat.zero_le _⟩) (fun x6 bx6 => ?_)
  obtain ⟨bx6, ox6, nx6⟩ := bx6
  have ox6a_ : x6 = 0 ∨ iv xp1 0 3 := ox6.imp id (fun h => iv_in64 ex1 h.1 h.2 (by decide) (by decide))
  have ox6a : x6 = 0 ∨ iv xp1 0 3 := ox6.imp id (fun h => iv_in64 ex1 h.1 h.2 (by decide) (by decide))
  have nx6b : iv x6 0 0 := iv_eq (show iv 0 0 0 from ⟨by decide, by decide⟩) (ox6a_.resolve_right (fun h9 => iv_abs (iv_both h9 bp1) (by decide)))
  refine lv_if_ne (tgt := 14) hx hb dX12_image_9 (by decide) (fun c9 => ?_) (fun c9 => ?_)
  · exact iv_abs (iv_ne_lo c9 nx6b rfl) (by decide)
  · refine lv_iconst (v := (-1)) hx hb dX12_image_12 (by decide) ?_
    exact W.iret (v := (-1)) hx hb hr (fun t ht hW => ⟨some (.int (-1)), rfl, ⟨((-1) : Int32), rfl, (show iv (-1) (-1) (-1) from ⟨by decide, by decide⟩)⟩, ht⟩) (fun q h => by cases h) dX12_image_13
abbrev WX12_image_hi (p : Program) (l : Launch) (e : Env) (s : State) (m : MethodId) (below : List Frame) (meth : Method) (c : Code) (D : hp_D) (T : hp_T) (ap0 : Nat) (xp1 : Int32) (H : Heap) (locs : List Loc) (g : JFrame) : Prop := W p l e (headSpec wsX12_image ({ frames := 1, cells := 0, slots := 0, locals := 25 })).room s m ([.ref ap0, .int xp1] : List Value).toArray below meth c H locs 0 0 (MQ below (hq_p (fun v => ∃ r : Int32, v = some (.int r) ∧ iv r (-1) (-1))) ([.ref ap0, .int xp1] : List Value).toArray s 0 0 (fun _ => False)) g
set_option maxHeartbeats 4000000 in
set_option maxRecDepth 100000 in
theorem sX12_image_hi (l : Launch) (D : hp_D) (T : hp_T) (ap0 : Nat) (xp1 : Int32) (Gm : moG) (ip0 : isMo T ap0 Gm) (bp1 : iv xp1 4 2147483647) : Met l yX12_image wsX12_image ({ frames := 1, cells := 0, slots := 0, locals := 25 }) (hp_Pc D T [.ref ap0, .int xp1] (fun _ => True)) (hq_p (fun v => ∃ r : Int32, v = some (.int r) ∧ iv r (-1) (-1))) 0 0 (fun _ => False) := by
  obtain ⟨ap0tape, ap0sign, ap0len, ap0clause, ap0clauses, ap0read, ap0opn, ap0stack, ap0word, ap0said, ap0was, ap0fitting, ap0sums, ap0sort, ap0sumsBy, ap0oneOf, ap0otherOf, ap0kept, ap0images, ap0acts, ap0iUnd, ap0iFor, ap0iX, ap0made, gok, hp0, hp0tape, hp0sign, hp0len, hp0clause, hp0clauses, hp0read, hp0opn, hp0stack, hp0word, hp0said, hp0was, hp0fitting, hp0sums, hp0sort, hp0sumsBy, hp0oneOf, hp0otherOf, hp0kept, hp0images, hp0acts, hp0iUnd, hp0iFor, hp0iX, hp0made⟩ := id ip0
  have hpx := gok.1
  have gsok := gok.2.2.2.2
  have ggd := gok.2.2.2.1
  refine Met.ofW (cc := cX12_image) (maxL := 3) (ret := (some .int)) (by decide) rfl ?_
  intro p e s m args below meth c s₁ B hml hv
  obtain ⟨rfl, hok, hG, hB⟩ := hv
  have hx := B.exec
  have hb := B.bytes
  have hr := B.returns
  have hts := atoms_spec (ws := wsX12_image) B.pre
  have hown : s.vm.findClass RX12 = some m.cls := findClass_of_methodNamed B.named
  have hlocks := B.notSynchronized
  have hK := hG.1
  have hw : hp_w D T s s.heap [] := hp_w.rf hok
  have K454 := hts (.constantLong RX12 454 3) (by decide +kernel)
  have hl := lv_entry ([.ref ap0, .int xp1]) (n := 3) (Nat.le_of_ble_eq_true rfl)
  rw [lg_entry_eq]
  generalize (lg_sl ([.ref ap0, .int xp1]) ++ List.replicate (3 - (lg_sl ([.ref ap0, .int xp1])).length) Slot.unset).toArray = ls at hl ⊢
  have hl : lv_has ls 3 [(0, .ref ap0), (1, .int xp1)] := hl
  show WX12_image_hi p l e s m below meth c D T ap0 xp1 s.heap [] (F0 m 0 ls [])
  refine lv_iload_n hx hb dX12_image_0 rfl (lv_at hl 1 rfl) ?_
  obtain ⟨x1, ex1⟩ : ∃ y : Int64, xp1.toInt64 = y := ⟨_, rfl⟩
  refine lv_i2l (v := x1) hx hb dX12_image_1 ex1 ?_
  refine lv_lconst (v := 0) hx hb dX12_image_2 (by decide) ?_
  refine lv_ldc2 (v := 3) hx hb hown K454 dX12_image_3 ?_
  refine hp_callpi (va_runS (As := [.long x1, .long 0, .long 3]) (rest := []) ⟨hx, hb, hml, hown, hts⟩ (sX12_in l D T x1 0 3) (va_cwS 3 hts gX12_image_X12_in rfl rfl rfl (by decide +kernel) ⟨Nat.le_of_ble_eq_true rfl, Nat.le_of_ble_eq_true rfl⟩) (hp_preS hG hw trivial) rfl rfl hl.1 rfl (lv_room (Nat.le_of_ble_eq_true rfl)) dX12_image_6 ⟨Nat.zero_le _, Nat.zero_le _⟩) (fun x6 bx6 => ?_)
  obtain ⟨bx6, ox6, nx6⟩ := bx6
  have ox6a_ : x6 = 0 ∨ iv xp1 0 3 := ox6.imp id (fun h => iv_in64 ex1 h.1 h.2 (by decide) (by decide))
  have ox6a : x6 = 0 ∨ iv xp1 0 3 := ox6.imp id (fun h => iv_in64 ex1 h.1 h.2 (by decide) (by decide))
  have nx6b : iv x6 0 0 := iv_eq (show iv 0 0 0 from ⟨by decide, by decide⟩) (ox6a_.resolve_right (fun h9 => iv_abs (iv_both h9 bp1) (by decide)))
  refine lv_if_ne (tgt := 14) hx hb dX12_image_9 (by decide) (fun c9 => ?_) (fun c9 => ?_)
  · exact iv_abs (iv_ne_lo c9 nx6b rfl) (by decide)
  · refine lv_iconst (v := (-1)) hx hb dX12_image_12 (by decide) ?_
    exact W.iret (v := (-1)) hx hb hr (fun t ht hW => ⟨some (.int (-1)), rfl, ⟨((-1) : Int32), rfl, (show iv (-1) (-1) (-1) from ⟨by decide, by decide⟩)⟩, ht⟩) (fun q h => by cases h) dX12_image_13
abbrev WX12_back_in (p : Program) (l : Launch) (e : Env) (s : State) (m : MethodId) (below : List Frame) (meth : Method) (c : Code) (D : hp_D) (T : hp_T) (ap0 : Nat) (xp1 : Int32) (xi : Int32) (H : Heap) (locs : List Loc) (g : JFrame) : Prop := W p l e (headSpec wsX12_back ({ frames := 1, cells := 0, slots := 0, locals := 25 })).room s m ([.ref ap0, .int xp1] : List Value).toArray below meth c H locs 0 0 (MQ below (hq_e D T (fun v st t => ∃ r : Int32, v = some (.int r) ∧ (True ∧ hp_f D t.heap ap0 12 22 (.int xi)))) ([.ref ap0, .int xp1] : List Value).toArray s 0 0 (hp_F T)) g
set_option maxHeartbeats 4000000 in
set_option maxRecDepth 100000 in
theorem sX12_back_in (l : Launch) (D : hp_D) (T : hp_T) (ap0 : Nat) (xp1 : Int32) (Gm : moG) (ip0 : isMo T ap0 Gm) (hgx : ∀ y : Int32, gx Gm (.int y)) (hM1 : ∀ v, gM Gm xp1.toNatClampNeg v → v = .int 1) (xi : Int32) (hXi : ∀ v, gX Gm xp1.toNatClampNeg v → v = .int xi) (hgs : ∀ j v, sP j v → gs Gm j v) (bp1 : iv xp1 0 3) : Met l yX12_back wsX12_back ({ frames := 1, cells := 0, slots := 0, locals := 25 }) (hp_Pc D T [.ref ap0, .int xp1] (fun _ => True)) (hq_e D T (fun v st t => ∃ r : Int32, v = some (.int r) ∧ (True ∧ hp_f D t.heap ap0 12 22 (.int xi)))) 0 0 (hp_F T) := by
  obtain ⟨ap0tape, ap0sign, ap0len, ap0clause, ap0clauses, ap0read, ap0opn, ap0stack, ap0word, ap0said, ap0was, ap0fitting, ap0sums, ap0sort, ap0sumsBy, ap0oneOf, ap0otherOf, ap0kept, ap0images, ap0acts, ap0iUnd, ap0iFor, ap0iX, ap0made, gok, hp0, hp0tape, hp0sign, hp0len, hp0clause, hp0clauses, hp0read, hp0opn, hp0stack, hp0word, hp0said, hp0was, hp0fitting, hp0sums, hp0sort, hp0sumsBy, hp0oneOf, hp0otherOf, hp0kept, hp0images, hp0acts, hp0iUnd, hp0iFor, hp0iX, hp0made⟩ := id ip0
  have hpx := gok.1
  have gsok := gok.2.2.2.2
  have ggd := gok.2.2.2.1
  refine Met.ofW (cc := cX12_back) (maxL := 3) (ret := (some .int)) (by decide) rfl ?_
  intro p e s m args below meth c s₁ B hml hv
  obtain ⟨rfl, hok, hG, hB⟩ := hv
  have hx := B.exec
  have hb := B.bytes
  have hr := B.returns
  have hts := atoms_spec (ws := wsX12_back) B.pre
  have hown : s.vm.findClass RX12 = some m.cls := findClass_of_methodNamed B.named
  have hlocks := B.notSynchronized
  have hK := hG.1
  have hw : hp_w D T s s.heap [] := hp_w.rf hok
  have IX12 : ∀ w ∈ wsX120, w ∈ wsX12_back := by decide +kernel
  have K454 := hts (.constantLong RX12 454 3) (by decide +kernel)
  have L85 := hts (.fieldLink RX12 85 "PalmCensusModel" "isMade" "[Z") (by decide +kernel)
  have L76 := hts (.fieldLink RX12 76 "PalmCensusModel" "imageUndone" "[I") (by decide +kernel)
  have L273 := hts (.fieldLink RX12 273 "PalmCensusModel" "undone" "I") (by decide +kernel)
  have L79 := hts (.fieldLink RX12 79 "PalmCensusModel" "imageForce" "[I") (by decide +kernel)
  have L42 := hts (.fieldLink RX12 42 "PalmCensusModel" "force" "I") (by decide +kernel)
  have L82 := hts (.fieldLink RX12 82 "PalmCensusModel" "imageX" "[I") (by decide +kernel)
  have L429 := hts (.fieldLink RX12 429 "PalmCensusModel" "x" "I") (by decide +kernel)
  have L39 := hts (.fieldLink RX12 39 "PalmCensusModel" "said" "[I") (by decide +kernel)
  have L46 := hts (.fieldLink RX12 46 "PalmCensusModel" "wasSaid" "[I") (by decide +kernel)
  have L73 := hts (.fieldLink RX12 73 "PalmCensusModel" "imageActs" "[I") (by decide +kernel)
  have L70 := hts (.fieldLink RX12 70 "PalmCensusModel" "images" "[I") (by decide +kernel)
  have hl := lv_entry ([.ref ap0, .int xp1]) (n := 3) (Nat.le_of_ble_eq_true rfl)
  rw [lg_entry_eq]
  generalize (lg_sl ([.ref ap0, .int xp1]) ++ List.replicate (3 - (lg_sl ([.ref ap0, .int xp1])).length) Slot.unset).toArray = ls at hl ⊢
  have hl : lv_has ls 3 [(0, .ref ap0), (1, .int xp1)] := hl
  show WX12_back_in p l e s m below meth c D T ap0 xp1 xi s.heap [] (F0 m 0 ls [])
  obtain ⟨x9000op0_24, bx9000op0_24, fx9000op0_24⟩ := hp_opI hw.1 hp0 24 rfl
  refine lv_iload_n hx hb dX12_back_0 rfl (lv_at hl 1 rfl) ?_
  obtain ⟨x1, ex1⟩ : ∃ y : Int64, xp1.toInt64 = y := ⟨_, rfl⟩
  refine lv_i2l (v := x1) hx hb dX12_back_1 ex1 ?_
  refine lv_lconst (v := 0) hx hb dX12_back_2 (by decide) ?_
  refine lv_ldc2 (v := 3) hx hb hown K454 dX12_back_3 ?_
  refine hp_callpi (va_runS (As := [.long x1, .long 0, .long 3]) (rest := []) ⟨hx, hb, hml, hown, hts⟩ (sX12_in l D T x1 0 3) (va_cwS 3 hts gX12_back_X12_in rfl rfl rfl (by decide +kernel) ⟨Nat.le_of_ble_eq_true rfl, Nat.le_of_ble_eq_true rfl⟩) (hp_preS hG hw trivial) rfl rfl hl.1 rfl (lv_room (Nat.le_of_ble_eq_true rfl)) dX12_back_6 ⟨Nat.zero_le _, Nat.zero_le _⟩) (fun x6 bx6 => ?_)
  obtain ⟨bx6, ox6, nx6⟩ := bx6
  have ox6a_ : x6 = 0 ∨ iv xp1 0 3 := ox6.imp id (fun h => iv_in64 ex1 h.1 h.2 (by decide) (by decide))
  have ox6a : x6 = 0 ∨ iv xp1 0 3 := ox6.imp id (fun h => iv_in64 ex1 h.1 h.2 (by decide) (by decide))
  have nx6b : iv x6 1 1 := iv_eq (show iv 1 1 1 from ⟨by decide, by decide⟩) (nx6.resolve_right (fun h9 => h9 (iv_64in ex1 bp1 (by decide) (by decide))))
  refine lv_if_eq (tgt := 21) hx hb dX12_back_9 (by decide) (fun c9 => ?_) (fun c9 => ?_)
  · exact iv_abs2 c9 nx6b (show iv 0 0 0 from ⟨by decide, by decide⟩) (by decide)
  · refine lv_aload_n hx hb dX12_back_12 rfl (lv_at hl 0 rfl) ?_
    refine hp_getr hx hb hts IX12 hown hK hw.1 hp0 rfl 43 (by decide) L85 rfl dX12_back_13 ?_
    refine lv_iload_n hx hb dX12_back_16 rfl (lv_at hl 1 rfl) ?_
    refine hp_zald hx hb hK hw.1 hp0made (vp_iv bp1 (by decide)) dX12_back_17 (fun v17 h17 => ?_)
    obtain ⟨x17, rfl⟩ := gok.2.2.1 _ _ h17
    have m17 : x17 = 1 := by cases hM1 _ h17; rfl
    have bm17 : iv x17 1 1 := iv_eq (show iv 1 1 1 from ⟨by decide, by decide⟩) m17
    refine lv_if_ne (tgt := 23) hx hb dX12_back_18 (by decide) (fun c18 => ?_) (fun c18 => ?_)
    · refine lv_aload_n hx hb dX12_back_23 rfl (lv_at hl 0 rfl) ?_
      refine lv_aload_n hx hb dX12_back_24 rfl (lv_at hl 0 rfl) ?_
      refine hp_getr hx hb hts IX12 hown hK hw.1 hp0 rfl 40 (by decide) L76 rfl dX12_back_25 ?_
      refine lv_iload_n hx hb dX12_back_28 rfl (lv_at hl 1 rfl) ?_
      refine hp_ialdI hx hb hK hw.1 hp0iUnd (vp_iv bp1 (by decide)) dX12_back_29 (fun x29 bx29 => ?_)
      refine hp_put hx hb hts IX12 tyX12 tyX12_ok nmX12 hown hK hw hp0 rfl 24 (by decide) L273 rfl rfl ⟨_, rfl, bx29⟩ rfl rfl dX12_back_30 (fun H30 locs30 hw f30n g30 => ?_)
      refine lv_aload_n hx hb dX12_back_33 rfl (lv_at hl 0 rfl) ?_
      refine lv_aload_n hx hb dX12_back_34 rfl (lv_at hl 0 rfl) ?_
      refine hp_getr hx hb hts IX12 hown hK hw.1 hp0 rfl 41 (by decide) L79 rfl dX12_back_35 ?_
      refine lv_iload_n hx hb dX12_back_38 rfl (lv_at hl 1 rfl) ?_
      refine hp_ialdI hx hb hK hw.1 hp0iFor (vp_iv bp1 (by decide)) dX12_back_39 (fun x39 bx39 => ?_)
      refine hp_put hx hb hts IX12 tyX12 tyX12_ok nmX12 hown hK hw hp0 rfl 21 (by decide) L42 rfl rfl ⟨_, rfl, bx39⟩ rfl rfl dX12_back_40 (fun H40 locs40 hw f40n g40 => ?_)
      have f_p0_24 := g40 _ _ _ _ f30n (Or.inr ⟨rfl, by decide⟩)
      refine lv_aload_n hx hb dX12_back_43 rfl (lv_at hl 0 rfl) ?_
      refine lv_aload_n hx hb dX12_back_44 rfl (lv_at hl 0 rfl) ?_
      refine hp_getr hx hb hts IX12 hown hK hw.1 hp0 rfl 42 (by decide) L82 rfl dX12_back_45 ?_
      refine lv_iload_n hx hb dX12_back_48 rfl (lv_at hl 1 rfl) ?_
      refine hp_iald hx hb hK hw.1 hp0iX (vp_iv bp1 (by decide)) dX12_back_49 (fun v49 h49 => ?_)
      obtain ⟨x49, rfl⟩ := gok.2.1 _ _ h49
      have m49 : x49 = xi := by cases hXi _ h49; rfl
      refine hp_put hx hb hts IX12 tyX12 tyX12_ok nmX12 hown hK hw hp0 rfl 22 (by decide) L429 rfl rfl (hgx _) rfl rfl dX12_back_50 (fun H50 locs50 hw f50n g50 => ?_)
      have f_p0_24 := g50 _ _ _ _ f_p0_24 (Or.inr ⟨rfl, by decide⟩)
      refine lv_iconst (v := 0) hx hb dX12_back_53 (by decide) ?_
      refine lv_istore_n (lv' := [(2, .int 0), (0, .ref ap0), (1, .int xp1)]) hx hb dX12_back_54 rfl hl (by decide) rfl (fun ls hl => ?_)
      have J55 : ∀ (n : Nat) (y55_l2 y55_fp0_24 : Int32), (255 - y55_l2.toInt).toNat < n → iv xp1 0 3 → iv y55_l2 0 255 → iv y55_fp0_24 0 20 → ∀ (H : Heap) (locs : List Loc), hp_w D T s H locs → hp_f D H ap0 12 22 (.int x49) → hp_f D H ap0 12 24 (.int y55_fp0_24) → ∀ (ls : Array Slot), lv_has ls 3 [(0, .ref ap0), (1, .int xp1), (2, .int y55_l2)] → WX12_back_in p l e s m below meth c D T ap0 xp1 xi H locs (F0 m 55 ls []) := by
        intro n
        induction n with
        | zero => intro y55_l2 y55_fp0_24 hmu55 c55_xp1 c55_y55_l2 c55_y55_fp0_24 H55 locs55 hw f_p0_22 f_p0_24 ls hl; exact absurd hmu55 (Nat.not_lt_zero _)
        | succ n ih55 =>
          intro y55_l2 y55_fp0_24 hmu55 c55_xp1 c55_y55_l2 c55_y55_fp0_24 H55 locs55 hw f_p0_22 f_p0_24 ls hl
          refine lv_iload_n hx hb dX12_back_55 rfl (lv_at hl 2 rfl) ?_
          refine lv_sipush (v := 211) hx hb dX12_back_56 (by decide) ?_
          refine lv_icmp_ge (tgt := 86) hx hb dX12_back_59 (by decide) (fun c59 => ?_) (fun c59 => ?_)
          · have r59tq : iv y55_l2 211 255 := (iv_le_r c59 (show iv 211 211 211 from ⟨by decide, by decide⟩) c55_y55_l2).mono (by decide) (by decide)
            refine lv_iconst (v := 0) hx hb dX12_back_86 (by decide) ?_
            refine lv_istore_n (lv' := [(2, .int 0), (0, .ref ap0), (1, .int xp1)]) hx hb dX12_back_87 rfl hl (by decide) rfl (fun ls hl => ?_)
            have J88 : ∀ (n : Nat) (y88_l2 y88_fp0_24 : Int32), (9999 - y88_l2.toInt).toNat < n → iv xp1 0 3 → iv y88_l2 0 9999 → iv y88_fp0_24 0 20 → ∀ (H : Heap) (locs : List Loc), hp_w D T s H locs → hp_f D H ap0 12 22 (.int x49) → hp_f D H ap0 12 24 (.int y88_fp0_24) → ∀ (ls : Array Slot), lv_has ls 3 [(0, .ref ap0), (1, .int xp1), (2, .int y88_l2)] → WX12_back_in p l e s m below meth c D T ap0 xp1 xi H locs (F0 m 88 ls []) := by
              intro n
              induction n with
              | zero => intro y88_l2 y88_fp0_24 hmu88 c88_xp1 c88_y88_l2 c88_y88_fp0_24 H88 locs88 hw f_p0_22 f_p0_24 ls hl; exact absurd hmu88 (Nat.not_lt_zero _)
              | succ n ih88 =>
                intro y88_l2 y88_fp0_24 hmu88 c88_xp1 c88_y88_l2 c88_y88_fp0_24 H88 locs88 hw f_p0_22 f_p0_24 ls hl
                refine lv_iload_n hx hb dX12_back_88 rfl (lv_at hl 2 rfl) ?_
                refine lv_sipush (v := 170) hx hb dX12_back_89 (by decide) ?_
                refine lv_aload_n hx hb dX12_back_92 rfl (lv_at hl 0 rfl) ?_
                refine hp_getf hx hb hts IX12 hown hK f_p0_24 rfl (by decide) L273 dX12_back_93 ?_
                refine lv_imul hx hb dX12_back_96 ?_
                refine lv_topi (fun x96 ex96 => ?_)
                have bx96 : iv x96 0 3400 := iv_mul (show iv 170 170 170 from ⟨by decide, by decide⟩) c88_y88_fp0_24 ex96 (by decide)
                refine lv_icmp_ge (tgt := 124) hx hb dX12_back_97 (by decide) (fun c97 => ?_) (fun c97 => ?_)
                · refine lv_aload_n hx hb dX12_back_124 rfl (lv_at hl 0 rfl) ?_
                  refine hp_getr hx hb hts IX12 hown hK hw.1 hp0 rfl 20 (by decide) L39 rfl dX12_back_125 ?_
                  refine lv_iconst (v := 3) hx hb dX12_back_128 (by decide) ?_
                  refine hp_iald hx hb hK hw.1 hp0said (vp_iv (show iv 3 3 3 from ⟨by decide, by decide⟩) (by decide)) dX12_back_129 (fun v129 hr129 => ?_)
                  have h129 := gsok _ _ hr129
                  obtain ⟨x129, rfl⟩ := sP_any h129
                  exact W.iret (v := x129) hx hb hr (fun t ht hW => ⟨some (.int x129), rfl, ⟨x129, rfl, ⟨trivial, by rw [ht, ← m49]; exact f_p0_22⟩⟩, by rw [ht]; exact hw.1, hw.2.F ht⟩) hw.2.2.2 dX12_back_130
                · have r97fp : iv y88_l2 0 3399 := (iv_lt_l (iv_nle c97) c88_y88_l2 bx96).mono (by decide) (by decide)
                  have r97fq : iv x96 1 3400 := (iv_lt_r (iv_nle c97) c88_y88_l2 bx96).mono (by decide) (by decide)
                  refine lv_aload_n hx hb dX12_back_100 rfl (lv_at hl 0 rfl) ?_
                  refine hp_getr hx hb hts IX12 hown hK hw.1 hp0 rfl 23 (by decide) L46 rfl dX12_back_101 ?_
                  refine lv_iload_n hx hb dX12_back_104 rfl (lv_at hl 2 rfl) ?_
                  refine lv_aload_n hx hb dX12_back_105 rfl (lv_at hl 0 rfl) ?_
                  refine hp_getr hx hb hts IX12 hown hK hw.1 hp0 rfl 39 (by decide) L73 rfl dX12_back_106 ?_
                  refine lv_sipush (v := 3400) hx hb dX12_back_109 (by decide) ?_
                  refine lv_iload_n hx hb dX12_back_112 rfl (lv_at hl 1 rfl) ?_
                  refine lv_imul hx hb dX12_back_113 ?_
                  refine lv_topi (fun x113 ex113 => ?_)
                  have bx113 : iv x113 0 10200 := iv_mul (show iv 3400 3400 3400 from ⟨by decide, by decide⟩) c88_xp1 ex113 (by decide)
                  refine lv_iload_n hx hb dX12_back_114 rfl (lv_at hl 2 rfl) ?_
                  refine lv_iadd hx hb dX12_back_115 ?_
                  refine lv_topi (fun x115 ex115 => ?_)
                  have bx115 : iv x115 0 13599 := iv_add bx113 r97fp ex115 (by decide)
                  have qx115 := iv_add_eq bx113 r97fp ex115 (by decide)
                  refine hp_iald hx hb hK hw.1 hp0acts (vp_iv bx115 (by decide)) dX12_back_116 (fun v116 h116 => ?_)
                  obtain ⟨x116, rfl⟩ := wP_any h116
                  refine hp_iast hx hb hK hw hp0was (vp_iv r97fp (by decide)) (wP_out 3 3399 h116 (iv_row (N := 3399) (M := 3) 3400 (by decide) ex113 ex115 c88_xp1 r97fp (by decide) (by decide)) c88_xp1 r97fp) dX12_back_117 (fun H117 locs117 hw g117 => ?_)
                  have f_p0_24 := g117 _ _ _ _ f_p0_24
                  have f_p0_22 := g117 _ _ _ _ f_p0_22
                  obtain ⟨x118, ex118⟩ : ∃ y : Int32, y = y88_l2 + 1 := ⟨_, rfl⟩
                  have bx118 : iv x118 1 3400 := iv_add r97fp (show iv 1 1 1 from ⟨by decide, by decide⟩) ex118 (by decide)
                  have qx118 := iv_add_eq r97fp (show iv 1 1 1 from ⟨by decide, by decide⟩) ex118 (by decide)
                  refine lv_iinc (v := x118) (lv' := [(2, .int x118), (0, .ref ap0), (1, .int xp1)]) hx hb dX12_back_118 hl (k := 2) rfl (by rw [ex118]; rfl) (by decide) rfl (fun ls hl => ?_)
                  refine lv_goto (tgt := 88) hx hb dX12_back_121 (by decide) ?_
                  exact ih88 x118 y88_fp0_24 (mu_up 1 hmu88 (qx118) (by decide) (show iv x118 0 9999 from (bx118.mono (by decide) (by decide))).2) c88_xp1 (bx118.mono (by decide) (by decide)) c88_y88_fp0_24 H117 locs117 hw f_p0_22 f_p0_24 _ (lv_sub hl [1, 2, 0] rfl)
            exact J88 _ (0 : Int32) y55_fp0_24 (Nat.lt_succ_self _) c55_xp1 (show iv 0 0 9999 from ⟨by decide, by decide⟩) c55_y55_fp0_24 H55 locs55 hw f_p0_22 f_p0_24 _ (lv_sub hl [1, 2, 0] rfl)
          · have r59fp : iv y55_l2 0 210 := (iv_lt_l (iv_nle c59) c55_y55_l2 (show iv 211 211 211 from ⟨by decide, by decide⟩)).mono (by decide) (by decide)
            refine lv_aload_n hx hb dX12_back_62 rfl (lv_at hl 0 rfl) ?_
            refine hp_getr hx hb hts IX12 hown hK hw.1 hp0 rfl 20 (by decide) L39 rfl dX12_back_63 ?_
            refine lv_iload_n hx hb dX12_back_66 rfl (lv_at hl 2 rfl) ?_
            refine lv_aload_n hx hb dX12_back_67 rfl (lv_at hl 0 rfl) ?_
            refine hp_getr hx hb hts IX12 hown hK hw.1 hp0 rfl 38 (by decide) L70 rfl dX12_back_68 ?_
            refine lv_sipush (v := 211) hx hb dX12_back_71 (by decide) ?_
            refine lv_iload_n hx hb dX12_back_74 rfl (lv_at hl 1 rfl) ?_
            refine lv_imul hx hb dX12_back_75 ?_
            refine lv_topi (fun x75 ex75 => ?_)
            have bx75 : iv x75 0 633 := iv_mul (show iv 211 211 211 from ⟨by decide, by decide⟩) c55_xp1 ex75 (by decide)
            refine lv_iload_n hx hb dX12_back_76 rfl (lv_at hl 2 rfl) ?_
            refine lv_iadd hx hb dX12_back_77 ?_
            refine lv_topi (fun x77 ex77 => ?_)
            have bx77 : iv x77 0 843 := iv_add bx75 r59fp ex77 (by decide)
            have qx77 := iv_add_eq bx75 r59fp ex77 (by decide)
            refine hp_iald hx hb hK hw.1 hp0images (vp_iv bx77 (by decide)) dX12_back_78 (fun v78 h78 => ?_)
            obtain ⟨x78, rfl⟩ := iP_any h78
            refine hp_iast hx hb hK hw hp0said (vp_iv r59fp (by decide)) (hgs _ _ (sP_ofi 3 210 h78 (iv_row (N := 210) (M := 3) 211 (by decide) ex75 ex77 c55_xp1 r59fp (by decide) (by decide)) c55_xp1 r59fp (by decide))) dX12_back_79 (fun H79 locs79 hw g79 => ?_)
            have f_p0_24 := g79 _ _ _ _ f_p0_24
            have f_p0_22 := g79 _ _ _ _ f_p0_22
            obtain ⟨x80, ex80⟩ : ∃ y : Int32, y = y55_l2 + 1 := ⟨_, rfl⟩
            have bx80 : iv x80 1 211 := iv_add r59fp (show iv 1 1 1 from ⟨by decide, by decide⟩) ex80 (by decide)
            have qx80 := iv_add_eq r59fp (show iv 1 1 1 from ⟨by decide, by decide⟩) ex80 (by decide)
            refine lv_iinc (v := x80) (lv' := [(2, .int x80), (0, .ref ap0), (1, .int xp1)]) hx hb dX12_back_80 hl (k := 2) rfl (by rw [ex80]; rfl) (by decide) rfl (fun ls hl => ?_)
            refine lv_goto (tgt := 55) hx hb dX12_back_83 (by decide) ?_
            exact ih55 x80 y55_fp0_24 (mu_up 1 hmu55 (qx80) (by decide) (show iv x80 0 255 from (bx80.mono (by decide) (by decide))).2) c55_xp1 (bx80.mono (by decide) (by decide)) c55_y55_fp0_24 H79 locs79 hw f_p0_22 f_p0_24 _ (lv_sub hl [1, 2, 0] rfl)
      exact J55 _ (0 : Int32) x29 (Nat.lt_succ_self _) bp1 (show iv 0 0 255 from ⟨by decide, by decide⟩) bx29 H50 locs50 hw f50n f_p0_24 _ (lv_sub hl [1, 2, 0] rfl)
    · exact iv_abs2 c18 bm17 (show iv 0 0 0 from ⟨by decide, by decide⟩) (by decide)
abbrev WX12_back_no (p : Program) (l : Launch) (e : Env) (s : State) (m : MethodId) (below : List Frame) (meth : Method) (c : Code) (D : hp_D) (T : hp_T) (ap0 : Nat) (xp1 : Int32) (H : Heap) (locs : List Loc) (g : JFrame) : Prop := W p l e (headSpec wsX12_back ({ frames := 1, cells := 0, slots := 0, locals := 25 })).room s m ([.ref ap0, .int xp1] : List Value).toArray below meth c H locs 0 0 (MQ below (hq_p (fun v => ∃ r : Int32, v = some (.int r) ∧ iv r (-1) (-1))) ([.ref ap0, .int xp1] : List Value).toArray s 0 0 (fun _ => False)) g
set_option maxHeartbeats 4000000 in
set_option maxRecDepth 100000 in
theorem sX12_back_no (l : Launch) (D : hp_D) (T : hp_T) (ap0 : Nat) (xp1 : Int32) (Gm : moG) (ip0 : isMo T ap0 Gm) (hM0 : ∀ v, gM Gm xp1.toNatClampNeg v → v = .int 0) (bp1 : iv xp1 0 3) : Met l yX12_back wsX12_back ({ frames := 1, cells := 0, slots := 0, locals := 25 }) (hp_Pc D T [.ref ap0, .int xp1] (fun _ => True)) (hq_p (fun v => ∃ r : Int32, v = some (.int r) ∧ iv r (-1) (-1))) 0 0 (fun _ => False) := by
  obtain ⟨ap0tape, ap0sign, ap0len, ap0clause, ap0clauses, ap0read, ap0opn, ap0stack, ap0word, ap0said, ap0was, ap0fitting, ap0sums, ap0sort, ap0sumsBy, ap0oneOf, ap0otherOf, ap0kept, ap0images, ap0acts, ap0iUnd, ap0iFor, ap0iX, ap0made, gok, hp0, hp0tape, hp0sign, hp0len, hp0clause, hp0clauses, hp0read, hp0opn, hp0stack, hp0word, hp0said, hp0was, hp0fitting, hp0sums, hp0sort, hp0sumsBy, hp0oneOf, hp0otherOf, hp0kept, hp0images, hp0acts, hp0iUnd, hp0iFor, hp0iX, hp0made⟩ := id ip0
  have hpx := gok.1
  have gsok := gok.2.2.2.2
  have ggd := gok.2.2.2.1
  refine Met.ofW (cc := cX12_back) (maxL := 3) (ret := (some .int)) (by decide) rfl ?_
  intro p e s m args below meth c s₁ B hml hv
  obtain ⟨rfl, hok, hG, hB⟩ := hv
  have hx := B.exec
  have hb := B.bytes
  have hr := B.returns
  have hts := atoms_spec (ws := wsX12_back) B.pre
  have hown : s.vm.findClass RX12 = some m.cls := findClass_of_methodNamed B.named
  have hlocks := B.notSynchronized
  have hK := hG.1
  have hw : hp_w D T s s.heap [] := hp_w.rf hok
  have IX12 : ∀ w ∈ wsX120, w ∈ wsX12_back := by decide +kernel
  have K454 := hts (.constantLong RX12 454 3) (by decide +kernel)
  have L85 := hts (.fieldLink RX12 85 "PalmCensusModel" "isMade" "[Z") (by decide +kernel)
  have hl := lv_entry ([.ref ap0, .int xp1]) (n := 3) (Nat.le_of_ble_eq_true rfl)
  rw [lg_entry_eq]
  generalize (lg_sl ([.ref ap0, .int xp1]) ++ List.replicate (3 - (lg_sl ([.ref ap0, .int xp1])).length) Slot.unset).toArray = ls at hl ⊢
  have hl : lv_has ls 3 [(0, .ref ap0), (1, .int xp1)] := hl
  show WX12_back_no p l e s m below meth c D T ap0 xp1 s.heap [] (F0 m 0 ls [])
  refine lv_iload_n hx hb dX12_back_0 rfl (lv_at hl 1 rfl) ?_
  obtain ⟨x1, ex1⟩ : ∃ y : Int64, xp1.toInt64 = y := ⟨_, rfl⟩
  refine lv_i2l (v := x1) hx hb dX12_back_1 ex1 ?_
  refine lv_lconst (v := 0) hx hb dX12_back_2 (by decide) ?_
  refine lv_ldc2 (v := 3) hx hb hown K454 dX12_back_3 ?_
  refine hp_callpi (va_runS (As := [.long x1, .long 0, .long 3]) (rest := []) ⟨hx, hb, hml, hown, hts⟩ (sX12_in l D T x1 0 3) (va_cwS 3 hts gX12_back_X12_in rfl rfl rfl (by decide +kernel) ⟨Nat.le_of_ble_eq_true rfl, Nat.le_of_ble_eq_true rfl⟩) (hp_preS hG hw trivial) rfl rfl hl.1 rfl (lv_room (Nat.le_of_ble_eq_true rfl)) dX12_back_6 ⟨Nat.zero_le _, Nat.zero_le _⟩) (fun x6 bx6 => ?_)
  obtain ⟨bx6, ox6, nx6⟩ := bx6
  have ox6a_ : x6 = 0 ∨ iv xp1 0 3 := ox6.imp id (fun h => iv_in64 ex1 h.1 h.2 (by decide) (by decide))
  have ox6a : x6 = 0 ∨ iv xp1 0 3 := ox6.imp id (fun h => iv_in64 ex1 h.1 h.2 (by decide) (by decide))
  have nx6b : iv x6 1 1 := iv_eq (show iv 1 1 1 from ⟨by decide, by decide⟩) (nx6.resolve_right (fun h9 => h9 (iv_64in ex1 bp1 (by decide) (by decide))))
  have J21 : ∀ (ls : Array Slot), lv_has ls 3 [] → WX12_back_no p l e s m below meth c D T ap0 xp1 s.heap [] (F0 m 21 ls []) := by
    intro ls hl
    refine lv_iconst (v := (-1)) hx hb dX12_back_21 (by decide) ?_
    exact W.iret (v := (-1)) hx hb hr (fun t ht hW => ⟨some (.int (-1)), rfl, ⟨((-1) : Int32), rfl, (show iv (-1) (-1) (-1) from ⟨by decide, by decide⟩)⟩, ht⟩) (fun q h => by cases h) dX12_back_22
  refine lv_if_eq (tgt := 21) hx hb dX12_back_9 (by decide) (fun c9 => ?_) (fun c9 => ?_)
  · exact iv_abs2 c9 nx6b (show iv 0 0 0 from ⟨by decide, by decide⟩) (by decide)
  · refine lv_aload_n hx hb dX12_back_12 rfl (lv_at hl 0 rfl) ?_
    refine hp_getr hx hb hts IX12 hown hK hw.1 hp0 rfl 43 (by decide) L85 rfl dX12_back_13 ?_
    refine lv_iload_n hx hb dX12_back_16 rfl (lv_at hl 1 rfl) ?_
    refine hp_zald hx hb hK hw.1 hp0made (vp_iv bp1 (by decide)) dX12_back_17 (fun v17 h17 => ?_)
    obtain ⟨x17, rfl⟩ := gok.2.2.1 _ _ h17
    have m17 : x17 = 0 := by cases hM0 _ h17; rfl
    have bm17 : iv x17 0 0 := iv_eq (show iv 0 0 0 from ⟨by decide, by decide⟩) m17
    refine lv_if_ne (tgt := 23) hx hb dX12_back_18 (by decide) (fun c18 => ?_) (fun c18 => ?_)
    · exact iv_abs (iv_ne_lo c18 bm17 rfl) (by decide)
    · exact J21 _ (lv_sub hl [] rfl)
abbrev WX12_back_lo (p : Program) (l : Launch) (e : Env) (s : State) (m : MethodId) (below : List Frame) (meth : Method) (c : Code) (D : hp_D) (T : hp_T) (ap0 : Nat) (xp1 : Int32) (H : Heap) (locs : List Loc) (g : JFrame) : Prop := W p l e (headSpec wsX12_back ({ frames := 1, cells := 0, slots := 0, locals := 25 })).room s m ([.ref ap0, .int xp1] : List Value).toArray below meth c H locs 0 0 (MQ below (hq_p (fun v => ∃ r : Int32, v = some (.int r) ∧ iv r (-1) (-1))) ([.ref ap0, .int xp1] : List Value).toArray s 0 0 (fun _ => False)) g
set_option maxHeartbeats 4000000 in
set_option maxRecDepth 100000 in
theorem sX12_back_lo (l : Launch) (D : hp_D) (T : hp_T) (ap0 : Nat) (xp1 : Int32) (Gm : moG) (ip0 : isMo T ap0 Gm) (bp1 : iv xp1 (-2147483648) (-1)) : Met l yX12_back wsX12_back ({ frames := 1, cells := 0, slots := 0, locals := 25 }) (hp_Pc D T [.ref ap0, .int xp1] (fun _ => True)) (hq_p (fun v => ∃ r : Int32, v = some (.int r) ∧ iv r (-1) (-1))) 0 0 (fun _ => False) := by
  obtain ⟨ap0tape, ap0sign, ap0len, ap0clause, ap0clauses, ap0read, ap0opn, ap0stack, ap0word, ap0said, ap0was, ap0fitting, ap0sums, ap0sort, ap0sumsBy, ap0oneOf, ap0otherOf, ap0kept, ap0images, ap0acts, ap0iUnd, ap0iFor, ap0iX, ap0made, gok, hp0, hp0tape, hp0sign, hp0len, hp0clause, hp0clauses, hp0read, hp0opn, hp0stack, hp0word, hp0said, hp0was, hp0fitting, hp0sums, hp0sort, hp0sumsBy, hp0oneOf, hp0otherOf, hp0kept, hp0images, hp0acts, hp0iUnd, hp0iFor, hp0iX, hp0made⟩ := id ip0
  have hpx := gok.1
  have gsok := gok.2.2.2.2
  have ggd := gok.2.2.2.1
  refine Met.ofW (cc := cX12_back) (maxL := 3) (ret := (some .int)) (by decide) rfl ?_
  intro p e s m args below meth c s₁ B hml hv
  obtain ⟨rfl, hok, hG, hB⟩ := hv
  have hx := B.exec
  have hb := B.bytes
  have hr := B.returns
  have hts := atoms_spec (ws := wsX12_back) B.pre
  have hown : s.vm.findClass RX12 = some m.cls := findClass_of_methodNamed B.named
  have hlocks := B.notSynchronized
  have hK := hG.1
  have hw : hp_w D T s s.heap [] := hp_w.rf hok
  have K454 := hts (.constantLong RX12 454 3) (by decide +kernel)
  have hl := lv_entry ([.ref ap0, .int xp1]) (n := 3) (Nat.le_of_ble_eq_true rfl)
  rw [lg_entry_eq]
  generalize (lg_sl ([.ref ap0, .int xp1]) ++ List.replicate (3 - (lg_sl ([.ref ap0, .int xp1])).length) Slot.unset).toArray = ls at hl ⊢
  have hl : lv_has ls 3 [(0, .ref ap0), (1, .int xp1)] := hl
  show WX12_back_lo p l e s m below meth c D T ap0 xp1 s.heap [] (F0 m 0 ls [])
  refine lv_iload_n hx hb dX12_back_0 rfl (lv_at hl 1 rfl) ?_
  obtain ⟨x1, ex1⟩ : ∃ y : Int64, xp1.toInt64 = y := ⟨_, rfl⟩
  refine lv_i2l (v := x1) hx hb dX12_back_1 ex1 ?_
  refine lv_lconst (v := 0) hx hb dX12_back_2 (by decide) ?_
  refine lv_ldc2 (v := 3) hx hb hown K454 dX12_back_3 ?_
  refine hp_callpi (va_runS (As := [.long x1, .long 0, .long 3]) (rest := []) ⟨hx, hb, hml, hown, hts⟩ (sX12_in l D T x1 0 3) (va_cwS 3 hts gX12_back_X12_in rfl rfl rfl (by decide +kernel) ⟨Nat.le_of_ble_eq_true rfl, Nat.le_of_ble_eq_true rfl⟩) (hp_preS hG hw trivial) rfl rfl hl.1 rfl (lv_room (Nat.le_of_ble_eq_true rfl)) dX12_back_6 ⟨Nat.zero_le _, Nat.zero_le _⟩) (fun x6 bx6 => ?_)
  obtain ⟨bx6, ox6, nx6⟩ := bx6
  have ox6a_ : x6 = 0 ∨ iv xp1 0 3 := ox6.imp id (fun h => iv_in64 ex1 h.1 h.2 (by decide) (by decide))
  have ox6a : x6 = 0 ∨ iv xp1 0 3 := ox6.imp id (fun h => iv_in64 ex1 h.1 h.2 (by decide) (by decide))
  have nx6b : iv x6 0 0 := iv_eq (show iv 0 0 0 from ⟨by decide, by decide⟩) (ox6a_.resolve_right (fun h9 => iv_abs (iv_both h9 bp1) (by decide)))
  have J21 : ∀ (ls : Array Slot), lv_has ls 3 [] → WX12_back_lo p l e s m below meth c D T ap0 xp1 s.heap [] (F0 m 21 ls []) := by
    intro ls hl
    refine lv_iconst (v := (-1)) hx hb dX12_back_21 (by decide) ?_
    exact W.iret (v := (-1)) hx hb hr (fun t ht hW => ⟨some (.int (-1)), rfl, ⟨((-1) : Int32), rfl, (show iv (-1) (-1) (-1) from ⟨by decide, by decide⟩)⟩, ht⟩) (fun q h => by cases h) dX12_back_22
  refine lv_if_eq (tgt := 21) hx hb dX12_back_9 (by decide) (fun c9 => ?_) (fun c9 => ?_)
  · exact J21 _ (lv_sub hl [] rfl)
  · exact iv_abs (iv_ne_lo c9 nx6b rfl) (by decide)
abbrev WX12_back_hi (p : Program) (l : Launch) (e : Env) (s : State) (m : MethodId) (below : List Frame) (meth : Method) (c : Code) (D : hp_D) (T : hp_T) (ap0 : Nat) (xp1 : Int32) (H : Heap) (locs : List Loc) (g : JFrame) : Prop := W p l e (headSpec wsX12_back ({ frames := 1, cells := 0, slots := 0, locals := 25 })).room s m ([.ref ap0, .int xp1] : List Value).toArray below meth c H locs 0 0 (MQ below (hq_p (fun v => ∃ r : Int32, v = some (.int r) ∧ iv r (-1) (-1))) ([.ref ap0, .int xp1] : List Value).toArray s 0 0 (fun _ => False)) g
set_option maxHeartbeats 4000000 in
set_option maxRecDepth 100000 in
theorem sX12_back_hi (l : Launch) (D : hp_D) (T : hp_T) (ap0 : Nat) (xp1 : Int32) (Gm : moG) (ip0 : isMo T ap0 Gm) (bp1 : iv xp1 4 2147483647) : Met l yX12_back wsX12_back ({ frames := 1, cells := 0, slots := 0, locals := 25 }) (hp_Pc D T [.ref ap0, .int xp1] (fun _ => True)) (hq_p (fun v => ∃ r : Int32, v = some (.int r) ∧ iv r (-1) (-1))) 0 0 (fun _ => False) := by
  obtain ⟨ap0tape, ap0sign, ap0len, ap0clause, ap0clauses, ap0read, ap0opn, ap0stack, ap0word, ap0said, ap0was, ap0fitting, ap0sums, ap0sort, ap0sumsBy, ap0oneOf, ap0otherOf, ap0kept, ap0images, ap0acts, ap0iUnd, ap0iFor, ap0iX, ap0made, gok, hp0, hp0tape, hp0sign, hp0len, hp0clause, hp0clauses, hp0read, hp0opn, hp0stack, hp0word, hp0said, hp0was, hp0fitting, hp0sums, hp0sort, hp0sumsBy, hp0oneOf, hp0otherOf, hp0kept, hp0images, hp0acts, hp0iUnd, hp0iFor, hp0iX, hp0made⟩ := id ip0
  have hpx := gok.1
  have gsok := gok.2.2.2.2
  have ggd := gok.2.2.2.1
  refine Met.ofW (cc := cX12_back) (maxL := 3) (ret := (some .int)) (by decide) rfl ?_
  intro p e s m args below meth c s₁ B hml hv
  obtain ⟨rfl, hok, hG, hB⟩ := hv
  have hx := B.exec
  have hb := B.bytes
  have hr := B.returns
  have hts := atoms_spec (ws := wsX12_back) B.pre
  have hown : s.vm.findClass RX12 = some m.cls := findClass_of_methodNamed B.named
  have hlocks := B.notSynchronized
  have hK := hG.1
  have hw : hp_w D T s s.heap [] := hp_w.rf hok
  have K454 := hts (.constantLong RX12 454 3) (by decide +kernel)
  have hl := lv_entry ([.ref ap0, .int xp1]) (n := 3) (Nat.le_of_ble_eq_true rfl)
  rw [lg_entry_eq]
  generalize (lg_sl ([.ref ap0, .int xp1]) ++ List.replicate (3 - (lg_sl ([.ref ap0, .int xp1])).length) Slot.unset).toArray = ls at hl ⊢
  have hl : lv_has ls 3 [(0, .ref ap0), (1, .int xp1)] := hl
  show WX12_back_hi p l e s m below meth c D T ap0 xp1 s.heap [] (F0 m 0 ls [])
  refine lv_iload_n hx hb dX12_back_0 rfl (lv_at hl 1 rfl) ?_
  obtain ⟨x1, ex1⟩ : ∃ y : Int64, xp1.toInt64 = y := ⟨_, rfl⟩
  refine lv_i2l (v := x1) hx hb dX12_back_1 ex1 ?_
  refine lv_lconst (v := 0) hx hb dX12_back_2 (by decide) ?_
  refine lv_ldc2 (v := 3) hx hb hown K454 dX12_back_3 ?_
  refine hp_callpi (va_runS (As := [.long x1, .long 0, .long 3]) (rest := []) ⟨hx, hb, hml, hown, hts⟩ (sX12_in l D T x1 0 3) (va_cwS 3 hts gX12_back_X12_in rfl rfl rfl (by decide +kernel) ⟨Nat.le_of_ble_eq_true rfl, Nat.le_of_ble_eq_true rfl⟩) (hp_preS hG hw trivial) rfl rfl hl.1 rfl (lv_room (Nat.le_of_ble_eq_true rfl)) dX12_back_6 ⟨Nat.zero_le _, Nat.zero_le _⟩) (fun x6 bx6 => ?_)
  obtain ⟨bx6, ox6, nx6⟩ := bx6
  have ox6a_ : x6 = 0 ∨ iv xp1 0 3 := ox6.imp id (fun h => iv_in64 ex1 h.1 h.2 (by decide) (by decide))
  have ox6a : x6 = 0 ∨ iv xp1 0 3 := ox6.imp id (fun h => iv_in64 ex1 h.1 h.2 (by decide) (by decide))
  have nx6b : iv x6 0 0 := iv_eq (show iv 0 0 0 from ⟨by decide, by decide⟩) (ox6a_.resolve_right (fun h9 => iv_abs (iv_both h9 bp1) (by decide)))
  have J21 : ∀ (ls : Array Slot), lv_has ls 3 [] → WX12_back_hi p l e s m below meth c D T ap0 xp1 s.heap [] (F0 m 21 ls []) := by
    intro ls hl
    refine lv_iconst (v := (-1)) hx hb dX12_back_21 (by decide) ?_
    exact W.iret (v := (-1)) hx hb hr (fun t ht hW => ⟨some (.int (-1)), rfl, ⟨((-1) : Int32), rfl, (show iv (-1) (-1) (-1) from ⟨by decide, by decide⟩)⟩, ht⟩) (fun q h => by cases h) dX12_back_22
  refine lv_if_eq (tgt := 21) hx hb dX12_back_9 (by decide) (fun c9 => ?_) (fun c9 => ?_)
  · exact J21 _ (lv_sub hl [] rfl)
  · exact iv_abs (iv_ne_lo c9 nx6b rfl) (by decide)
