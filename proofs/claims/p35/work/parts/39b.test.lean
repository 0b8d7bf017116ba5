abbrev WX12_town (p : Program) (l : Launch) (e : Env) (s : State) (m : MethodId) (below : List Frame) (meth : Method) (c : Code) (D : hp_D) (T : hp_T) (ap0 : Nat) (A : Nat → Nat) (Tp : Nat → Value) (H : Heap) (locs : List Loc) (g : JFrame) : Prop := W p l e (headSpec wsX12_town ({ frames := 6, cells := 0, slots := 0, locals := 135 })).room s m ([.ref ap0] : List Value).toArray below meth c H locs 0 0 (MQ below (hq_e D T (fun v st t => ∃ r : Int32, v = some (.int r) ∧ (hp_km D [(12, 1), (12, 8), (12, 9), (12, 10), (12, 11), (12, 12), (12, 14), (12, 24)] st.heap t.heap ∧ hp_on (fun q => q = ap0 ∨ q = A 2 ∨ q = A 5 ∨ q = A 9) st.heap t.heap ∧ iv r (-2147483648) 2147483647))) ([.ref ap0] : List Value).toArray s 0 0 (hp_F T)) g
set_option maxHeartbeats 4000000 in
set_option maxRecDepth 100000 in
theorem sX12_town (l : Launch) (D : hp_D) (T : hp_T) (ap0 : Nat) (A : Nat → Nat) (Gm : moG) (Tp : Nat → Value) (ip0 : isMp T ap0 A Gm Tp) (hgs : ∀ j v, sP j v → gs Gm j v) : Met l yX12_town wsX12_town ({ frames := 6, cells := 0, slots := 0, locals := 135 }) (hp_Pc D T [.ref ap0] (fun _ => True)) (hq_e D T (fun v st t => ∃ r : Int32, v = some (.int r) ∧ (hp_km D [(12, 1), (12, 8), (12, 9), (12, 10), (12, 11), (12, 12), (12, 14), (12, 24)] st.heap t.heap ∧ hp_on (fun q => q = ap0 ∨ q = A 2 ∨ q = A 5 ∨ q = A 9) st.heap t.heap ∧ iv r (-2147483648) 2147483647))) 0 0 (hp_F T) := by
  obtain ⟨gok, tpok, hp0, hp0tape, hp0sign, hp0len, hp0clause, hp0clauses, hp0read, hp0opn, hp0stack, hp0word, hp0said, hp0was, hp0fitting, hp0sums, hp0sort, hp0sumsBy, hp0oneOf, hp0otherOf, hp0kept, hp0images, hp0acts, hp0iUnd, hp0iFor, hp0iX, hp0made⟩ := id ip0
  have hpx := gok.1
  have gsok := gok.2.2.2.2
  have ggd := gok.2.2.2.1
  refine Met.ofW (cc := cX12_town) (maxL := 2) (ret := (some .int)) (by decide) rfl ?_
  intro p e s m args below meth c s₁ B hml hv
  obtain ⟨rfl, hok, hG, hB⟩ := hv
  have hx := B.exec
  have hb := B.bytes
  have hr := B.returns
  have hts := atoms_spec (ws := wsX12_town) B.pre
  have hown : s.vm.findClass RX12 = some m.cls := findClass_of_methodNamed B.named
  have hlocks := B.notSynchronized
  have hK := hG.1
  have hw : hp_w D T s s.heap [] := hp_w.rf hok
  have IX12 : ∀ w ∈ wsX120, w ∈ wsX12_town := by decide +kernel
  have L153 := hts (.fieldLink RX12 153 "PalmCensusModel" "text" "I") (by decide +kernel)
  have L273 := hts (.fieldLink RX12 273 "PalmCensusModel" "undone" "I") (by decide +kernel)
  have L39 := hts (.fieldLink RX12 39 "PalmCensusModel" "said" "[I") (by decide +kernel)
  have L26 := hts (.fieldLink RX12 26 "PalmCensusModel" "read" "[I") (by decide +kernel)
  have L96 := hts (.fieldLink RX12 96 "PalmCensusModel" "wrong" "I") (by decide +kernel)
  have hon : hp_on (fun q => q = ap0 ∨ q = A 2 ∨ q = A 5 ∨ q = A 9) s.heap s.heap := fun _ _ => rfl
  have km2 : ((-2) : Int32).toInt = (-2) := (by decide)
  have km1 : ((-1) : Int32).toInt = (-1) := (by decide)
  have k0 : (0 : Int32).toInt = 0 := (by decide)
  have k1 : (1 : Int32).toInt = 1 := (by decide)
  have k2 : (2 : Int32).toInt = 2 := (by decide)
  have k6 : (6 : Int32).toInt = 6 := (by decide)
  have k10 : (10 : Int32).toInt = 10 := (by decide)
  have k170 : (170 : Int32).toInt = 170 := (by decide)
  have k200 : (200 : Int32).toInt = 200 := (by decide)
  have k211 : (211 : Int32).toInt = 211 := (by decide)
  have hkm : hp_km D [(12, 1), (12, 8), (12, 9), (12, 10), (12, 11), (12, 12), (12, 14), (12, 24)] s.heap s.heap := fun _ _ _ _ h _ => h
  have hl := lv_entry ([.ref ap0]) (n := 2) (Nat.le_of_ble_eq_true rfl)
  rw [lg_entry_eq]
  generalize (lg_sl ([.ref ap0]) ++ List.replicate (2 - (lg_sl ([.ref ap0])).length) Slot.unset).toArray = ls at hl ⊢
  have hl : lv_has ls 2 [(0, .ref ap0)] := hl
  show WX12_town p l e s m below meth c D T ap0 A Tp s.heap [] (F0 m 0 ls [])
  obtain ⟨x9000op0_1, bx9000op0_1, fx9000op0_1⟩ := hp_opI hw.1 hp0 1 rfl
  have obx9000op0_1 := iv_o bx9000op0_1
  refine lv_aload_n hx hb dX12_town_0 rfl (lv_at hl 0 rfl) ?_
  refine lv_bipush (v := 6) hx hb dX12_town_1 (by decide) ?_
  refine hp_putE hx hb hts IX12 tyX12 tyX12_ok nmX12 hown hK hw hp0 rfl 11 (by decide) L153 rfl rfl ⟨_, rfl, (show iv 6 0 6 from ⟨by decide, by decide⟩)⟩ rfl rfl dX12_town_3 (fun H3 locs3 hw f3n g3 on3 => ?_)
  have hon := hon.trans (hp_on.mono (show hp_on (fun q => q = ap0) _ _ from on3) (fun q h9 => by rcases h9 with rfl; exact Or.inl rfl))
  have hkm := hkm.put g3 (by decide)
  have f_p0_1 := g3 _ _ _ _ fx9000op0_1 (Or.inr ⟨rfl, by decide⟩)
  refine lv_iconst (v := 0) hx hb dX12_town_6 (by decide) ?_
  refine lv_istore_n (lv' := [(1, .int 0), (0, .ref ap0)]) hx hb dX12_town_7 rfl hl (by decide) rfl (fun ls hl => ?_)
  have J8 : ∀ (n : Nat) (y8_l1 y8_fp0_1 : Int32), (10 - y8_l1.toInt).toNat < n → iv y8_l1 0 10 → iv y8_fp0_1 0 400 → ∀ (H : Heap) (locs : List Loc), hp_w D T s H locs → hp_km D [(12, 1), (12, 8), (12, 9), (12, 10), (12, 11), (12, 12), (12, 14), (12, 24)] s.heap H → hp_on (fun q => q = ap0 ∨ q = A 2 ∨ q = A 5 ∨ q = A 9) s.heap H → hp_f D H ap0 12 1 (.int y8_fp0_1) → hp_f D H ap0 12 11 (.int 6) → ∀ (ls : Array Slot), lv_has ls 2 [(0, .ref ap0), (1, .int y8_l1)] → WX12_town p l e s m below meth c D T ap0 A Tp H locs (F0 m 8 ls []) := by
    intro n
    induction n with
    | zero => intro y8_l1 y8_fp0_1 hmu8 c8_y8_l1 c8_y8_fp0_1 H8 locs8 hw hkm hon f_p0_1 f_p0_11 ls hl; exact absurd hmu8 (Nat.not_lt_zero _)
    | succ n ih8 =>
      intro y8_l1 y8_fp0_1 hmu8 c8_y8_l1 c8_y8_fp0_1 H8 locs8 hw hkm hon f_p0_1 f_p0_11 ls hl
      have oc8_y8_l1 := iv_o c8_y8_l1
      have oc8_y8_fp0_1 := iv_o c8_y8_fp0_1
      refine lv_iload_n hx hb dX12_town_8 rfl (lv_at hl 1 rfl) ?_
      refine lv_bipush (v := 10) hx hb dX12_town_9 (by decide) ?_
      refine lv_icmp_ge (tgt := 27) hx hb dX12_town_11 (by decide) (fun c11 => ?_) (fun c11 => ?_)
      · have oc11 := Int32.le_iff_toInt_le.mp c11
        have r11tq : iv y8_l1 10 10 := (iv_le_r c11 (show iv 10 10 10 from ⟨by decide, by decide⟩) c8_y8_l1).mono (by decide) (by decide)
        have or11tq := iv_o r11tq
        refine lv_aload_n hx hb dX12_town_27 rfl (lv_at hl 0 rfl) ?_
        refine hp_callei (va_runV (As := []) (rest := []) ⟨hx, hb, hml, hown, hts⟩ (sX12_readsAll_t l D T ap0 y8_fp0_1 (6 : Int32) A Gm Tp ip0 c8_y8_fp0_1 (show iv 6 6 6 from ⟨by decide, by decide⟩)) (cwV 0 hts gX12_town_X12_readsAll rfl rfl rfl (by decide +kernel) ⟨Nat.le_of_ble_eq_true rfl, Nat.le_of_ble_eq_true rfl⟩) (hp_preV hG hw hp0 rfl ⟨f_p0_1, f_p0_11⟩) rfl rfl hl.1 rfl (lv_room (Nat.le_of_ble_eq_true rfl)) dX12_town_28 ⟨Nat.zero_le _, Nat.zero_le _⟩) hw (fun x28 st28 t28 H28 locs28 eh28 eg28 bx28 hw => ?_)
        obtain ⟨g28, on28, cx28⟩ := bx28
        rw [eh28, eg28] at g28 on28
        have hkm := hkm.call g28 (by decide)
        have hon := hon.trans (hp_on.mono on28 (fun q h9 => by rcases h9 with rfl | rfl | rfl; (exact Or.inl rfl); (exact Or.inr (Or.inl rfl)); (exact Or.inr (Or.inr (Or.inl rfl)))))
        have f_p0_11 := g28 _ _ _ _ f_p0_11 (by decide)
        obtain ⟨x28op0_1, bx28op0_1, fx28op0_1⟩ := hp_opI hw.1 hp0 1 rfl
        have obx28op0_1 := iv_o bx28op0_1
        have ocx28 := iv_o cx28
        refine lv_if_ne (tgt := 42) hx hb dX12_town_31 (by decide) (fun c31 => ?_) (fun c31 => ?_)
        · have oc31 := iv_neq c31
          have r31tp : iv x28 1 1 := (iv_ne_lo c31 cx28 rfl).mono (by decide) (by decide)
          have or31tp := iv_o r31tp
          refine lv_iconst (v := 0) hx hb dX12_town_42 (by decide) ?_
          refine lv_istore_n (lv' := [(1, .int 0), (0, .ref ap0)]) hx hb dX12_town_43 rfl hl (by decide) rfl (fun ls hl => ?_)
          have J44 : ∀ (n : Nat) (y44_l1 y44_fp0_1 : Int32), (255 - y44_l1.toInt).toNat < n → iv y44_l1 0 255 → iv y44_fp0_1 0 400 → ∀ (H : Heap) (locs : List Loc), hp_w D T s H locs → hp_km D [(12, 1), (12, 8), (12, 9), (12, 10), (12, 11), (12, 12), (12, 14), (12, 24)] s.heap H → hp_on (fun q => q = ap0 ∨ q = A 2 ∨ q = A 5 ∨ q = A 9) s.heap H → hp_f D H ap0 12 1 (.int y44_fp0_1) → hp_f D H ap0 12 11 (.int 6) → ∀ (ls : Array Slot), lv_has ls 2 [(0, .ref ap0), (1, .int y44_l1)] → WX12_town p l e s m below meth c D T ap0 A Tp H locs (F0 m 44 ls []) := by
            intro n
            induction n with
            | zero => intro y44_l1 y44_fp0_1 hmu44 c44_y44_l1 c44_y44_fp0_1 H44 locs44 hw hkm hon f_p0_1 f_p0_11 ls hl; exact absurd hmu44 (Nat.not_lt_zero _)
            | succ n ih44 =>
              intro y44_l1 y44_fp0_1 hmu44 c44_y44_l1 c44_y44_fp0_1 H44 locs44 hw hkm hon f_p0_1 f_p0_11 ls hl
              have oc44_y44_l1 := iv_o c44_y44_l1
              have oc44_y44_fp0_1 := iv_o c44_y44_fp0_1
              refine lv_iload_n hx hb dX12_town_44 rfl (lv_at hl 1 rfl) ?_
              refine lv_sipush (v := 211) hx hb dX12_town_45 (by decide) ?_
              refine lv_icmp_ge (tgt := 80) hx hb dX12_town_48 (by decide) (fun c48 => ?_) (fun c48 => ?_)
              · have oc48 := Int32.le_iff_toInt_le.mp c48
                have r48tq : iv y44_l1 211 255 := (iv_le_r c48 (show iv 211 211 211 from ⟨by decide, by decide⟩) c44_y44_l1).mono (by decide) (by decide)
                have or48tq := iv_o r48tq
                refine lv_iconst (v := 0) hx hb dX12_town_80 (by decide) ?_
                refine lv_istore_n (lv' := [(1, .int 0), (0, .ref ap0)]) hx hb dX12_town_81 rfl hl (by decide) rfl (fun ls hl => ?_)
                have J82 : ∀ (n : Nat) (y82_l1 y82_fp0_1 : Int32), (10 - y82_l1.toInt).toNat < n → iv y82_l1 0 10 → iv y82_fp0_1 0 400 → ∀ (H : Heap) (locs : List Loc), hp_w D T s H locs → hp_km D [(12, 1), (12, 8), (12, 9), (12, 10), (12, 11), (12, 12), (12, 14), (12, 24)] s.heap H → hp_on (fun q => q = ap0 ∨ q = A 2 ∨ q = A 5 ∨ q = A 9) s.heap H → hp_f D H ap0 12 1 (.int y82_fp0_1) → hp_f D H ap0 12 11 (.int 6) → ∀ (ls : Array Slot), lv_has ls 2 [(0, .ref ap0), (1, .int y82_l1)] → WX12_town p l e s m below meth c D T ap0 A Tp H locs (F0 m 82 ls []) := by
                  intro n
                  induction n with
                  | zero => intro y82_l1 y82_fp0_1 hmu82 c82_y82_l1 c82_y82_fp0_1 H82 locs82 hw hkm hon f_p0_1 f_p0_11 ls hl; exact absurd hmu82 (Nat.not_lt_zero _)
                  | succ n ih82 =>
                    intro y82_l1 y82_fp0_1 hmu82 c82_y82_l1 c82_y82_fp0_1 H82 locs82 hw hkm hon f_p0_1 f_p0_11 ls hl
                    have oc82_y82_l1 := iv_o c82_y82_l1
                    have oc82_y82_fp0_1 := iv_o c82_y82_fp0_1
                    refine lv_iload_n hx hb dX12_town_82 rfl (lv_at hl 1 rfl) ?_
                    refine lv_bipush (v := 10) hx hb dX12_town_83 (by decide) ?_
                    refine lv_icmp_ge (tgt := 105) hx hb dX12_town_85 (by decide) (fun c85 => ?_) (fun c85 => ?_)
                    · have oc85 := Int32.le_iff_toInt_le.mp c85
                      have r85tq : iv y82_l1 10 10 := (iv_le_r c85 (show iv 10 10 10 from ⟨by decide, by decide⟩) c82_y82_l1).mono (by decide) (by decide)
                      have or85tq := iv_o r85tq
                      refine lv_aload_n hx hb dX12_town_105 rfl (lv_at hl 0 rfl) ?_
                      refine lv_iconst (v := 0) hx hb dX12_town_106 (by decide) ?_
                      refine hp_putE hx hb hts IX12 tyX12 tyX12_ok nmX12 hown hK hw hp0 rfl 24 (by decide) L273 rfl rfl ⟨_, rfl, (show iv 0 0 20 from ⟨by decide, by decide⟩)⟩ rfl rfl dX12_town_107 (fun H107 locs107 hw f107n g107 on107 => ?_)
                      have hon := hon.trans (hp_on.mono (show hp_on (fun q => q = ap0) _ _ from on107) (fun q h9 => by rcases h9 with rfl; exact Or.inl rfl))
                      have hkm := hkm.put g107 (by decide)
                      have f_p0_11 := g107 _ _ _ _ f_p0_11 (Or.inr ⟨rfl, by decide⟩)
                      have f_p0_1 := g107 _ _ _ _ f_p0_1 (Or.inr ⟨rfl, by decide⟩)
                      refine lv_aload_n hx hb dX12_town_110 rfl (lv_at hl 0 rfl) ?_
                      refine hp_getr hx hb hts IX12 hown hK hw.1 hp0 rfl 20 (by decide) L39 rfl dX12_town_111 ?_
                      refine lv_iconst (v := 2) hx hb dX12_town_114 (by decide) ?_
                      refine hp_iald hx hb hK hw.1 hp0said (vp_iv (show iv 2 2 2 from ⟨by decide, by decide⟩) (by decide)) dX12_town_115 (fun v115 hr115 => ?_)
                      have h115 := gsok _ _ hr115
                      obtain ⟨x115, rfl, bx115⟩ := sP_rd2 h115 (show iv 2 2 2 from ⟨by decide, by decide⟩)
                      have obx115 := iv_o bx115
                      exact W.iret (v := x115) hx hb hr (fun t ht hW => ⟨some (.int x115), rfl, ⟨x115, rfl, ⟨by rw [ht]; exact hkm, by rw [ht]; exact hon, iv_any _⟩⟩, by rw [ht]; exact hw.1, hw.2.F ht⟩) hw.2.2.2 dX12_town_116
                    · have oc85 := Int32.lt_iff_toInt_lt.mp (iv_nle c85)
                      have r85fp : iv y82_l1 0 9 := (iv_lt_l (iv_nle c85) c82_y82_l1 (show iv 10 10 10 from ⟨by decide, by decide⟩)).mono (by decide) (by decide)
                      have or85fp := iv_o r85fp
                      refine lv_aload_n hx hb dX12_town_88 rfl (lv_at hl 0 rfl) ?_
                      refine hp_getr hx hb hts IX12 hown hK hw.1 hp0 rfl 20 (by decide) L39 rfl dX12_town_89 ?_
                      refine lv_sipush (v := 200) hx hb dX12_town_92 (by decide) ?_
                      refine lv_iload_n hx hb dX12_town_95 rfl (lv_at hl 1 rfl) ?_
                      refine lv_iadd hx hb dX12_town_96 ?_
                      refine lv_topi (fun x96 ex96 => ?_)
                      have bx96 : iv x96 200 209 := iv_add (show iv 200 200 200 from ⟨by decide, by decide⟩) r85fp ex96 (by decide)
                      have obx96 := iv_o bx96
                      have qx96 := iv_add_eq (show iv 200 200 200 from ⟨by decide, by decide⟩) r85fp ex96 (by decide)
                      refine lv_iconst (v := (-1)) hx hb dX12_town_97 (by decide) ?_
                      refine hp_iastE hx hb hK hw hp0said (vp_iv bx96 (by decide)) (hgs _ _ (sP_st bx96 (by decide))) dX12_town_98 (fun H98 locs98 hw g98 o98 ge98 E98 => ?_)
                      have hon := hon.trans (hp_on.mono (show hp_on (fun q => q = A 9) _ _ from o98) (fun q h9 => by subst h9; exact Or.inr (Or.inr (Or.inr (rfl)))))
                      have hkm := hkm.ar g98
                      have f_p0_11 := g98 _ _ _ _ f_p0_11
                      have f_p0_1 := g98 _ _ _ _ f_p0_1
                      obtain ⟨x99, ex99⟩ : ∃ y : Int32, y = y82_l1 + 1 := ⟨_, rfl⟩
                      have bx99 : iv x99 1 10 := iv_add r85fp (show iv 1 1 1 from ⟨by decide, by decide⟩) ex99 (by decide)
                      have qx99 := iv_add_eq r85fp (show iv 1 1 1 from ⟨by decide, by decide⟩) ex99 (by decide)
                      have obx99 := iv_o bx99
                      refine lv_iinc (v := x99) (lv' := [(1, .int x99), (0, .ref ap0)]) hx hb dX12_town_99 hl (k := 1) rfl (by rw [ex99]; rfl) (by decide) rfl (fun ls hl => ?_)
                      refine lv_goto (tgt := 82) hx hb dX12_town_102 (by decide) ?_
                      exact ih82 x99 y82_fp0_1 (mu_up 1 hmu82 (qx99) (by decide) (show iv x99 0 10 from (bx99.mono (by decide) (by decide))).2) (bx99.mono (by decide) (by decide)) c82_y82_fp0_1 H98 locs98 hw hkm hon f_p0_1 f_p0_11 _ (lv_sub hl [1, 0] rfl)
                exact J82 _ (0 : Int32) y44_fp0_1 (Nat.lt_succ_self _) (show iv 0 0 10 from ⟨by decide, by decide⟩) c44_y44_fp0_1 H44 locs44 hw hkm hon f_p0_1 f_p0_11 _ (lv_sub hl [1, 0] rfl)
              · have oc48 := Int32.lt_iff_toInt_lt.mp (iv_nle c48)
                have r48fp : iv y44_l1 0 210 := (iv_lt_l (iv_nle c48) c44_y44_l1 (show iv 211 211 211 from ⟨by decide, by decide⟩)).mono (by decide) (by decide)
                have or48fp := iv_o r48fp
                refine lv_aload_n hx hb dX12_town_51 rfl (lv_at hl 0 rfl) ?_
                refine hp_getr hx hb hts IX12 hown hK hw.1 hp0 rfl 20 (by decide) L39 rfl dX12_town_52 ?_
                refine lv_iload_n hx hb dX12_town_55 rfl (lv_at hl 1 rfl) ?_
                refine lv_iload_n hx hb dX12_town_56 rfl (lv_at hl 1 rfl) ?_
                refine lv_sipush (v := 170) hx hb dX12_town_57 (by decide) ?_
                refine lv_icmp_ge (tgt := 72) hx hb dX12_town_60 (by decide) (fun c60 => ?_) (fun c60 => ?_)
                · have oc60 := Int32.le_iff_toInt_le.mp c60
                  have r60tq : iv y44_l1 170 210 := (iv_le_r c60 (show iv 170 170 170 from ⟨by decide, by decide⟩) r48fp).mono (by decide) (by decide)
                  have or60tq := iv_o r60tq
                  refine lv_iconst (v := 0) hx hb dX12_town_72 (by decide) ?_
                  refine hp_iastE hx hb hK hw hp0said (vp_iv r60tq (by decide)) (hgs _ _ (sP_zero _)) dX12_town_73 (fun H73 locs73 hw g73 o73 ge73 E73 => ?_)
                  have hon := hon.trans (hp_on.mono (show hp_on (fun q => q = A 9) _ _ from o73) (fun q h9 => by subst h9; exact Or.inr (Or.inr (Or.inr (rfl)))))
                  have hkm := hkm.ar g73
                  have f_p0_11 := g73 _ _ _ _ f_p0_11
                  have f_p0_1 := g73 _ _ _ _ f_p0_1
                  obtain ⟨x74, ex74⟩ : ∃ y : Int32, y = y44_l1 + 1 := ⟨_, rfl⟩
                  have bx74 : iv x74 171 211 := iv_add r60tq (show iv 1 1 1 from ⟨by decide, by decide⟩) ex74 (by decide)
                  have qx74 := iv_add_eq r60tq (show iv 1 1 1 from ⟨by decide, by decide⟩) ex74 (by decide)
                  have obx74 := iv_o bx74
                  refine lv_iinc (v := x74) (lv' := [(1, .int x74), (0, .ref ap0)]) hx hb dX12_town_74 hl (k := 1) rfl (by rw [ex74]; rfl) (by decide) rfl (fun ls hl => ?_)
                  refine lv_goto (tgt := 44) hx hb dX12_town_77 (by decide) ?_
                  exact ih44 x74 y44_fp0_1 (mu_up 1 hmu44 (qx74) (by decide) (show iv x74 0 255 from (bx74.mono (by decide) (by decide))).2) (bx74.mono (by decide) (by decide)) c44_y44_fp0_1 H73 locs73 hw hkm hon f_p0_1 f_p0_11 _ (lv_sub hl [1, 0] rfl)
                · have oc60 := Int32.lt_iff_toInt_lt.mp (iv_nle c60)
                  have r60fp : iv y44_l1 0 169 := (iv_lt_l (iv_nle c60) r48fp (show iv 170 170 170 from ⟨by decide, by decide⟩)).mono (by decide) (by decide)
                  have or60fp := iv_o r60fp
                  refine lv_aload_n hx hb dX12_town_63 rfl (lv_at hl 0 rfl) ?_
                  refine hp_getr hx hb hts IX12 hown hK hw.1 hp0 rfl 7 (by decide) L26 rfl dX12_town_64 ?_
                  refine lv_iload_n hx hb dX12_town_67 rfl (lv_at hl 1 rfl) ?_
                  refine hp_iald hx hb hK hw.1 hp0read (vp_iv r60fp (by decide)) dX12_town_68 (fun v68 h68 => ?_)
                  obtain ⟨x68, rfl⟩ := rP_any h68
                  refine lv_goto (tgt := 73) hx hb dX12_town_69 (by decide) ?_
                  refine hp_iastE hx hb hK hw hp0said (vp_iv r60fp (by decide)) (hgs _ _ (sP_ofr h68 (iv_ltn r60fp (by decide)))) dX12_town_73 (fun H73 locs73 hw g73 o73 ge73 E73 => ?_)
                  have hon := hon.trans (hp_on.mono (show hp_on (fun q => q = A 9) _ _ from o73) (fun q h9 => by subst h9; exact Or.inr (Or.inr (Or.inr (rfl)))))
                  have hkm := hkm.ar g73
                  have f_p0_11 := g73 _ _ _ _ f_p0_11
                  have f_p0_1 := g73 _ _ _ _ f_p0_1
                  obtain ⟨x74, ex74⟩ : ∃ y : Int32, y = y44_l1 + 1 := ⟨_, rfl⟩
                  have bx74 : iv x74 1 170 := iv_add r60fp (show iv 1 1 1 from ⟨by decide, by decide⟩) ex74 (by decide)
                  have qx74 := iv_add_eq r60fp (show iv 1 1 1 from ⟨by decide, by decide⟩) ex74 (by decide)
                  have obx74 := iv_o bx74
                  refine lv_iinc (v := x74) (lv' := [(1, .int x74), (0, .ref ap0)]) hx hb dX12_town_74 hl (k := 1) rfl (by rw [ex74]; rfl) (by decide) rfl (fun ls hl => ?_)
                  refine lv_goto (tgt := 44) hx hb dX12_town_77 (by decide) ?_
                  exact ih44 x74 y44_fp0_1 (mu_up 1 hmu44 (qx74) (by decide) (show iv x74 0 255 from (bx74.mono (by decide) (by decide))).2) (bx74.mono (by decide) (by decide)) c44_y44_fp0_1 H73 locs73 hw hkm hon f_p0_1 f_p0_11 _ (lv_sub hl [1, 0] rfl)
          exact J44 _ (0 : Int32) x28op0_1 (Nat.lt_succ_self _) (show iv 0 0 255 from ⟨by decide, by decide⟩) bx28op0_1 H28 locs28 hw hkm hon fx28op0_1 f_p0_11 _ (lv_sub hl [1, 0] rfl)
        · have oc31 := congrArg Int32.toInt c31
          have r31fp : iv x28 0 0 := (iv_both cx28 (iv_eq (show iv 0 0 0 from ⟨by decide, by decide⟩) c31)).mono (by decide) (by decide)
          have or31fp := iv_o r31fp
          refine lv_bipush (v := (-2)) hx hb dX12_town_34 (by decide) ?_
          refine lv_aload_n hx hb dX12_town_36 rfl (lv_at hl 0 rfl) ?_
          refine hp_getA hx hb hts IX12 hown hK hw.1 hp0 rfl 9 (by decide) L96 rfl dX12_town_37 (fun x37 fx37 => ?_)
          refine lv_isub hx hb dX12_town_40 ?_
          refine lv_topi (fun x40 ex40 => ?_)
          exact W.iret (v := x40) hx hb hr (fun t ht hW => ⟨some (.int x40), rfl, ⟨x40, rfl, ⟨by rw [ht]; exact hkm, by rw [ht]; exact hon, iv_any _⟩⟩, by rw [ht]; exact hw.1, hw.2.F ht⟩) hw.2.2.2 dX12_town_41
      · have oc11 := Int32.lt_iff_toInt_lt.mp (iv_nle c11)
        have r11fp : iv y8_l1 0 9 := (iv_lt_l (iv_nle c11) c8_y8_l1 (show iv 10 10 10 from ⟨by decide, by decide⟩)).mono (by decide) (by decide)
        have or11fp := iv_o r11fp
        refine lv_aload_n hx hb dX12_town_14 rfl (lv_at hl 0 rfl) ?_
        refine hp_getr hx hb hts IX12 hown hK hw.1 hp0 rfl 7 (by decide) L26 rfl dX12_town_15 ?_
        refine lv_iload_n hx hb dX12_town_18 rfl (lv_at hl 1 rfl) ?_
        refine lv_iconst (v := 0) hx hb dX12_town_19 (by decide) ?_
        refine hp_iastE hx hb hK hw hp0read (vp_iv r11fp (by decide)) (rP_zero _) dX12_town_20 (fun H20 locs20 hw g20 o20 ge20 E20 => ?_)
        have hon := hon.trans (hp_on.mono (show hp_on (fun q => q = A 5) _ _ from o20) (fun q h9 => by subst h9; exact Or.inr (Or.inr (Or.inl rfl))))
        have hkm := hkm.ar g20
        have f_p0_1 := g20 _ _ _ _ f_p0_1
        have f_p0_11 := g20 _ _ _ _ f_p0_11
        obtain ⟨x21, ex21⟩ : ∃ y : Int32, y = y8_l1 + 1 := ⟨_, rfl⟩
        have bx21 : iv x21 1 10 := iv_add r11fp (show iv 1 1 1 from ⟨by decide, by decide⟩) ex21 (by decide)
        have qx21 := iv_add_eq r11fp (show iv 1 1 1 from ⟨by decide, by decide⟩) ex21 (by decide)
        have obx21 := iv_o bx21
        refine lv_iinc (v := x21) (lv' := [(1, .int x21), (0, .ref ap0)]) hx hb dX12_town_21 hl (k := 1) rfl (by rw [ex21]; rfl) (by decide) rfl (fun ls hl => ?_)
        refine lv_goto (tgt := 8) hx hb dX12_town_24 (by decide) ?_
        exact ih8 x21 y8_fp0_1 (mu_up 1 hmu8 (qx21) (by decide) (show iv x21 0 10 from (bx21.mono (by decide) (by decide))).2) (bx21.mono (by decide) (by decide)) c8_y8_fp0_1 H20 locs20 hw hkm hon f_p0_1 f_p0_11 _ (lv_sub hl [1, 0] rfl)
  exact J8 _ (0 : Int32) x9000op0_1 (Nat.lt_succ_self _) (show iv 0 0 10 from ⟨by decide, by decide⟩) bx9000op0_1 H3 locs3 hw hkm hon f_p0_1 f3n _ (lv_sub hl [1, 0] rfl)
