abbrev WX12_see_x (p : Program) (l : Launch) (e : Env) (s : State) (m : MethodId) (below : List Frame) (meth : Method) (c : Code) (D : hp_D) (T : hp_T) (ap0 : Nat) (xp100 : Int32) (xp101 : Int32) (A : Nat → Nat) (Tp : Nat → Value) (H : Heap) (locs : List Loc) (g : JFrame) : Prop := W p l e (headSpec wsX12_see ({ frames := 0, cells := 0, slots := 0, locals := 0 })).room s m ([.ref ap0] : List Value).toArray below meth c H locs 0 0 (MQ below (hq_e D T (fun v st t => ∃ r : Int32, v = some (.int r) ∧ ((∃ y0 : Int32, hp_km D [(12, 8)] st.heap t.heap ∧ hp_on (fun q => q = ap0) st.heap t.heap ∧ hp_f D t.heap ap0 12 8 (.int y0) ∧ iv r (-1) 255 ∧ iv y0 0 400 ∧ (xp100.toInt ≤ y0.toInt) ∧ (0 ≤ r.toInt → y0.toInt < xp101.toInt) ∧ (¬ chb Tp 32 32 y0.toInt xp101.toInt) ∧ (¬ chb Tp 32 32 xp100.toInt xp101.toInt → y0.toInt = xp100.toInt))))) ([.ref ap0] : List Value).toArray s 0 0 (hp_F T)) g
set_option maxHeartbeats 4000000 in
set_option maxRecDepth 100000 in
theorem sX12_see_x (l : Launch) (D : hp_D) (T : hp_T) (ap0 : Nat) (xp100 : Int32) (xp101 : Int32) (A : Nat → Nat) (Gm : moG) (Tp : Nat → Value) (ip0 : isMp T ap0 A Gm Tp) (bp100 : iv xp100 0 400) (bp101 : iv xp101 0 400) : Met l yX12_see wsX12_see ({ frames := 0, cells := 0, slots := 0, locals := 0 }) (hp_Pc D T [.ref ap0] (fun H => hp_f D H ap0 12 8 (.int xp100) ∧ hp_f D H ap0 12 1 (.int xp101))) (hq_e D T (fun v st t => ∃ r : Int32, v = some (.int r) ∧ ((∃ y0 : Int32, hp_km D [(12, 8)] st.heap t.heap ∧ hp_on (fun q => q = ap0) st.heap t.heap ∧ hp_f D t.heap ap0 12 8 (.int y0) ∧ iv r (-1) 255 ∧ iv y0 0 400 ∧ (xp100.toInt ≤ y0.toInt) ∧ (0 ≤ r.toInt → y0.toInt < xp101.toInt) ∧ (¬ chb Tp 32 32 y0.toInt xp101.toInt) ∧ (¬ chb Tp 32 32 xp100.toInt xp101.toInt → y0.toInt = xp100.toInt))))) 0 0 (hp_F T) := by
  obtain ⟨gok, tpok, hp0, hp0tape, hp0sign, hp0len, hp0clause, hp0clauses, hp0read, hp0opn, hp0stack, hp0word, hp0said, hp0was, hp0fitting, hp0sums, hp0sort, hp0sumsBy, hp0oneOf, hp0otherOf, hp0kept, hp0images, hp0acts, hp0iUnd, hp0iFor, hp0iX, hp0made⟩ := id ip0
  have hpx := gok.1
  have gsok := gok.2.2.2.2
  have ggd := gok.2.2.2.1
  refine Met.ofW (cc := cX12_see) (maxL := 1) (ret := (some .int)) (by decide) rfl ?_
  intro p e s m args below meth c s₁ B hml hv
  obtain ⟨rfl, hok, hG, hB⟩ := hv
  have hx := B.exec
  have hb := B.bytes
  have hr := B.returns
  have hts := atoms_spec (ws := wsX12_see) B.pre
  have hown : s.vm.findClass RX12 = some m.cls := findClass_of_methodNamed B.named
  have hlocks := B.notSynchronized
  have hK := hG.1
  have hw : hp_w D T s s.heap [] := hp_w.rf hok
  have IX12 : ∀ w ∈ wsX120, w ∈ wsX12_see := by decide +kernel
  have L99 := hts (.fieldLink RX12 99 "PalmCensusModel" "next" "I") (by decide +kernel)
  have L89 := hts (.fieldLink RX12 89 "PalmCensusModel" "taped" "I") (by decide +kernel)
  have L7 := hts (.fieldLink RX12 7 "PalmCensusModel" "tape" "[B") (by decide +kernel)
  have hon : hp_on (fun q => q = ap0) s.heap s.heap := fun _ _ => rfl
  have km1 : ((-1) : Int32).toInt = (-1) := (by decide)
  have k0 : (0 : Int32).toInt = 0 := (by decide)
  have k1 : (1 : Int32).toInt = 1 := (by decide)
  have k32 : (32 : Int32).toInt = 32 := (by decide)
  have k255 : (255 : Int32).toInt = 255 := (by decide)
  have obp100 := iv_o bp100
  have obp101 := iv_o bp101
  have hkm : hp_km D [(12, 8)] s.heap s.heap := fun _ _ _ _ h _ => h
  have hl := lv_entry ([.ref ap0]) (n := 1) (Nat.le_of_ble_eq_true rfl)
  rw [lg_entry_eq]
  generalize (lg_sl ([.ref ap0]) ++ List.replicate (1 - (lg_sl ([.ref ap0])).length) Slot.unset).toArray = ls at hl ⊢
  have hl : lv_has ls 1 [(0, .ref ap0)] := hl
  show WX12_see_x p l e s m below meth c D T ap0 xp100 xp101 A Tp s.heap [] (F0 m 0 ls [])
  have obp100 := iv_o bp100
  have obp101 := iv_o bp101
  have J0 : ∀ (n : Nat) (y0_fp0_8 : Int32), (400 - y0_fp0_8.toInt).toNat < n → iv xp101 0 400 → iv y0_fp0_8 0 400 → (xp100.toInt ≤ y0_fp0_8.toInt) → (y0_fp0_8.toInt = xp100.toInt ∨ chb Tp 32 32 xp100.toInt xp101.toInt) → ∀ (H : Heap) (locs : List Loc), hp_w D T s H locs → hp_km D [(12, 8)] s.heap H → hp_on (fun q => q = ap0) s.heap H → hp_f D H ap0 12 1 (.int xp101) → hp_f D H ap0 12 8 (.int y0_fp0_8) → ∀ (ls : Array Slot), lv_has ls 1 [(0, .ref ap0)] → WX12_see_x p l e s m below meth c D T ap0 xp100 xp101 A Tp H locs (F0 m 0 ls []) := by
    intro n
    induction n with
    | zero => intro y0_fp0_8 hmu0 c0_xp101 c0_y0_fp0_8 hv0_0 hv0_1 H0 locs0 hw hkm hon f_p0_1 f_p0_8 ls hl; exact absurd hmu0 (Nat.not_lt_zero _)
    | succ n ih0 =>
      intro y0_fp0_8 hmu0 c0_xp101 c0_y0_fp0_8 hv0_0 hv0_1 H0 locs0 hw hkm hon f_p0_1 f_p0_8 ls hl
      have oc0_xp101 := iv_o c0_xp101
      have oc0_y0_fp0_8 := iv_o c0_y0_fp0_8
      refine lv_aload_n hx hb dX12_see_0 rfl (lv_at hl 0 rfl) ?_
      refine hp_getf hx hb hts IX12 hown hK f_p0_8 rfl (by decide) L99 dX12_see_1 ?_
      refine lv_aload_n hx hb dX12_see_4 rfl (lv_at hl 0 rfl) ?_
      refine hp_getf hx hb hts IX12 hown hK f_p0_1 rfl (by decide) L89 dX12_see_5 ?_
      have J38 : iv xp101 0 400 → iv y0_fp0_8 0 400 → (xp100.toInt ≤ y0_fp0_8.toInt) → (¬ chb Tp 32 32 y0_fp0_8.toInt xp101.toInt) → (y0_fp0_8.toInt = xp100.toInt ∨ chb Tp 32 32 xp100.toInt xp101.toInt) → ∀ (H : Heap) (locs : List Loc), hp_w D T s H locs → hp_km D [(12, 8)] s.heap H → hp_on (fun q => q = ap0) s.heap H → hp_f D H ap0 12 1 (.int xp101) → hp_f D H ap0 12 8 (.int y0_fp0_8) → ∀ (ls : Array Slot), lv_has ls 1 [(0, .ref ap0)] → WX12_see_x p l e s m below meth c D T ap0 xp100 xp101 A Tp H locs (F0 m 38 ls []) := by
        intro c38_xp101 c38_y0_fp0_8 hv38_0 hv38_1 hv38_2 H38 locs38 hw hkm hon f_p0_1 f_p0_8 ls hl
        have oc38_xp101 := iv_o c38_xp101
        have oc38_y0_fp0_8 := iv_o c38_y0_fp0_8
        refine lv_aload_n hx hb dX12_see_38 rfl (lv_at hl 0 rfl) ?_
        refine hp_getf hx hb hts IX12 hown hK f_p0_8 rfl (by decide) L99 dX12_see_39 ?_
        refine lv_aload_n hx hb dX12_see_42 rfl (lv_at hl 0 rfl) ?_
        refine hp_getf hx hb hts IX12 hown hK f_p0_1 rfl (by decide) L89 dX12_see_43 ?_
        refine lv_icmp_ge (tgt := 65) hx hb dX12_see_46 (by decide) (fun c46 => ?_) (fun c46 => ?_)
        · have oc46 := Int32.le_iff_toInt_le.mp c46
          refine lv_iconst (v := (-1)) hx hb dX12_see_65 (by decide) ?_
          exact W.iret (v := (-1)) hx hb hr (fun t ht hW => ⟨some (.int (-1)), rfl, ⟨((-1) : Int32), rfl, ⟨y0_fp0_8, by rw [ht]; exact hkm, by rw [ht]; exact hon, by rw [ht]; exact f_p0_8, (show iv (-1) (-1) 255 from ⟨by decide, by decide⟩), c38_y0_fp0_8, (by intros; omega), (by intros; omega), hv38_1, (fun h9 => hv38_2.resolve_right h9)⟩⟩, by rw [ht]; exact hw.1, hw.2.F ht⟩) hw.2.2.2 dX12_see_66
        · have oc46 := Int32.lt_iff_toInt_lt.mp (iv_nle c46)
          have r46fp : iv y0_fp0_8 0 399 := (iv_lt_l (iv_nle c46) c38_y0_fp0_8 c38_xp101).mono (by decide) (by decide)
          have or46fp := iv_o r46fp
          have r46fq : iv xp101 1 400 := (iv_lt_r (iv_nle c46) c38_y0_fp0_8 c38_xp101).mono (by decide) (by decide)
          have or46fq := iv_o r46fq
          refine lv_aload_n hx hb dX12_see_49 rfl (lv_at hl 0 rfl) ?_
          refine hp_getr hx hb hts IX12 hown hK hw.1 hp0 rfl 0 (by decide) L7 rfl dX12_see_50 ?_
          refine lv_aload_n hx hb dX12_see_53 rfl (lv_at hl 0 rfl) ?_
          refine hp_getf hx hb hts IX12 hown hK f_p0_8 rfl (by decide) L99 dX12_see_54 ?_
          refine hp_bald hx hb hK hw.1 hp0tape (vp_iv r46fp (by decide)) dX12_see_57 (fun v57 h57 => ?_)
          obtain ⟨x57, rfl⟩ := tpok _ _ h57
          have ex57 : Value.int x57 = Tp (y0_fp0_8).toNatClampNeg := h57
          refine lv_sipush (v := 255) hx hb dX12_see_58 (by decide) ?_
          refine lv_iand hx hb dX12_see_61 ?_
          refine lv_topi (fun x61 ex61 => ?_)
          have bx61 : iv x61 0 255 := iv_and_r (show iv 255 0 255 from ⟨by decide, by decide⟩) ex61
          have obx61 := iv_o bx61
          refine lv_goto (tgt := 66) hx hb dX12_see_62 (by decide) ?_
          exact W.iret (v := x61) hx hb hr (fun t ht hW => ⟨some (.int x61), rfl, ⟨x61, rfl, ⟨y0_fp0_8, by rw [ht]; exact hkm, by rw [ht]; exact hon, by rw [ht]; exact f_p0_8, (bx61.mono (by decide) (by decide)), (r46fp.mono (by decide) (by decide)), (by intros; omega), (by intros; omega), hv38_1, (fun h9 => hv38_2.resolve_right h9)⟩⟩, by rw [ht]; exact hw.1, hw.2.F ht⟩) hw.2.2.2 dX12_see_66
      refine lv_icmp_ge (tgt := 38) hx hb dX12_see_8 (by decide) (fun c8 => ?_) (fun c8 => ?_)
      · have oc8 := Int32.le_iff_toInt_le.mp c8
        exact J38 c0_xp101 c0_y0_fp0_8 (show xp100.toInt ≤ y0_fp0_8.toInt from by have := (c0_y0_fp0_8).1; have := (c0_y0_fp0_8).2; have := (c0_xp101).1; have := (c0_xp101).2; have := (Int32.le_iff_toInt_le.mp c8); omega) (show ¬ chb Tp 32 32 y0_fp0_8.toInt xp101.toInt from (fun h9 => by have := h9.2.1; omega)) (show y0_fp0_8.toInt = xp100.toInt ∨ chb Tp 32 32 xp100.toInt xp101.toInt from hv0_1) H0 locs0 hw hkm hon f_p0_1 f_p0_8 _ (lv_sub hl [0] rfl)
      · have oc8 := Int32.lt_iff_toInt_lt.mp (iv_nle c8)
        have r8fp : iv y0_fp0_8 0 399 := (iv_lt_l (iv_nle c8) c0_y0_fp0_8 c0_xp101).mono (by decide) (by decide)
        have or8fp := iv_o r8fp
        have r8fq : iv xp101 1 400 := (iv_lt_r (iv_nle c8) c0_y0_fp0_8 c0_xp101).mono (by decide) (by decide)
        have or8fq := iv_o r8fq
        refine lv_aload_n hx hb dX12_see_11 rfl (lv_at hl 0 rfl) ?_
        refine hp_getr hx hb hts IX12 hown hK hw.1 hp0 rfl 0 (by decide) L7 rfl dX12_see_12 ?_
        refine lv_aload_n hx hb dX12_see_15 rfl (lv_at hl 0 rfl) ?_
        refine hp_getf hx hb hts IX12 hown hK f_p0_8 rfl (by decide) L99 dX12_see_16 ?_
        refine hp_bald hx hb hK hw.1 hp0tape (vp_iv r8fp (by decide)) dX12_see_19 (fun v19 h19 => ?_)
        obtain ⟨x19, rfl⟩ := tpok _ _ h19
        have ex19 : Value.int x19 = Tp (y0_fp0_8).toNatClampNeg := h19
        refine lv_bipush (v := 32) hx hb dX12_see_20 (by decide) ?_
        refine lv_icmp_ne (tgt := 38) hx hb dX12_see_22 (by decide) (fun c22 => ?_) (fun c22 => ?_)
        · have oc22 := iv_neq c22
          exact J38 (r8fq.mono (by decide) (by decide)) (r8fp.mono (by decide) (by decide)) (show xp100.toInt ≤ y0_fp0_8.toInt from by have := (r8fp).1; have := (r8fp).2; have := (r8fq).1; have := (r8fq).2; have := (Int32.lt_iff_toInt_lt.mp (iv_nle c8)); have : (32 : Int32).toInt = 32 := (by decide); omega) (show ¬ chb Tp 32 32 y0_fp0_8.toInt xp101.toInt from (fun h9 => by have := chb_in h9 ex19; omega)) (show y0_fp0_8.toInt = xp100.toInt ∨ chb Tp 32 32 xp100.toInt xp101.toInt from hv0_1) H0 locs0 hw hkm hon f_p0_1 f_p0_8 _ (lv_sub hl [0] rfl)
        · have oc22 := congrArg Int32.toInt c22
          have r22fp : iv x19 32 32 := (iv_both (iv_any x19) (iv_eq (show iv 32 32 32 from ⟨by decide, by decide⟩) c22)).mono (by decide) (by decide)
          have or22fp := iv_o r22fp
          refine lv_aload_n hx hb dX12_see_25 rfl (lv_at hl 0 rfl) ?_
          refine lv_dup hx hb dX12_see_26 rfl ?_
          refine hp_getf hx hb hts IX12 hown hK f_p0_8 rfl (by decide) L99 dX12_see_27 ?_
          refine lv_iconst (v := 1) hx hb dX12_see_30 (by decide) ?_
          refine lv_iadd hx hb dX12_see_31 ?_
          refine lv_topi (fun x31 ex31 => ?_)
          have bx31 : iv x31 1 400 := iv_add r8fp (show iv 1 1 1 from ⟨by decide, by decide⟩) ex31 (by decide)
          have obx31 := iv_o bx31
          have qx31 := iv_add_eq r8fp (show iv 1 1 1 from ⟨by decide, by decide⟩) ex31 (by decide)
          refine hp_putE hx hb hts IX12 tyX12 tyX12_ok nmX12 hown hK hw hp0 rfl 8 (by decide) L99 rfl rfl ⟨_, rfl, (bx31.mono (by decide) (by decide))⟩ rfl rfl dX12_see_32 (fun H32 locs32 hw f32n g32 on32 => ?_)
          have hon := hon.trans (show hp_on (fun q => q = ap0) _ _ from on32)
          have hkm := hkm.put g32 (by decide)
          have f_p0_1 := g32 _ _ _ _ f_p0_1 (Or.inr ⟨rfl, by decide⟩)
          refine lv_goto (tgt := 0) hx hb dX12_see_35 (by decide) ?_
          exact ih0 x31 (mu_up 1 hmu0 (qx31) (by decide) (show iv x31 0 400 from (bx31.mono (by decide) (by decide))).2) (r8fq.mono (by decide) (by decide)) (bx31.mono (by decide) (by decide)) (show xp100.toInt ≤ x31.toInt from by have := (bx31).1; have := (bx31).2; have := (r8fp).1; have := (r8fp).2; have := (r8fq).1; have := (r8fq).2; have := (Int32.lt_iff_toInt_lt.mp (iv_nle c8)); have : (1 : Int32).toInt = 1 := (by decide); omega) (show x31.toInt = xp100.toInt ∨ chb Tp 32 32 xp100.toInt xp101.toInt from (Or.inr (hv0_1.elim (fun h9 => by rw [← h9]; exact chb_mk (by omega) (by omega) ex19 ex19 (by omega) (by omega)) id))) H32 locs32 hw hkm hon f_p0_1 f32n _ (lv_sub hl [0] rfl)
  exact J0 _ xp100 (Nat.lt_succ_self _) bp101 bp100 (show xp100.toInt ≤ xp100.toInt from by have := (bp100).1; have := (bp100).2; omega) (show xp100.toInt = xp100.toInt ∨ chb Tp 32 32 xp100.toInt xp101.toInt from (Or.inl rfl)) s.heap [] hw hkm hon hB.2 hB.1 _ (lv_sub hl [0] rfl)
abbrev WX12_isWord_x (p : Program) (l : Launch) (e : Env) (s : State) (m : MethodId) (below : List Frame) (meth : Method) (c : Code) (D : hp_D) (T : hp_T) (ap0 : Nat) (xp1 : Int64) (xp100 : Int32) (xp101 : Int32) (A : Nat → Nat) (Tp : Nat → Value) (H : Heap) (locs : List Loc) (g : JFrame) : Prop := W p l e (headSpec wsX12_isWord ({ frames := 1, cells := 0, slots := 0, locals := 21 })).room s m ([.ref ap0, .long xp1] : List Value).toArray below meth c H locs 0 0 (MQ below (hq_e D T (fun v st t => ∃ r : Int32, v = some (.int r) ∧ ((∃ y0 : Int32, hp_km D [(12, 8)] st.heap t.heap ∧ hp_on (fun q => q = ap0) st.heap t.heap ∧ hp_f D t.heap ap0 12 8 (.int y0) ∧ iv r 0 1 ∧ iv y0 0 400 ∧ (xp100.toInt ≤ y0.toInt) ∧ (¬ r.toInt = 0 → chb Tp 97 122 y0.toInt xp101.toInt) ∧ (¬ chb Tp 32 32 xp100.toInt xp101.toInt → y0.toInt = xp100.toInt))))) ([.ref ap0, .long xp1] : List Value).toArray s 0 0 (hp_F T)) g
set_option maxHeartbeats 4000000 in
set_option maxRecDepth 100000 in
theorem sX12_isWord_x (l : Launch) (D : hp_D) (T : hp_T) (ap0 : Nat) (xp1 : Int64) (xp100 : Int32) (xp101 : Int32) (A : Nat → Nat) (Gm : moG) (Tp : Nat → Value) (ip0 : isMp T ap0 A Gm Tp) (bp100 : iv xp100 0 400) (bp101 : iv xp101 0 400) : Met l yX12_isWord wsX12_isWord ({ frames := 1, cells := 0, slots := 0, locals := 21 }) (hp_Pc D T [.ref ap0, .long xp1] (fun H => hp_f D H ap0 12 8 (.int xp100) ∧ hp_f D H ap0 12 1 (.int xp101))) (hq_e D T (fun v st t => ∃ r : Int32, v = some (.int r) ∧ ((∃ y0 : Int32, hp_km D [(12, 8)] st.heap t.heap ∧ hp_on (fun q => q = ap0) st.heap t.heap ∧ hp_f D t.heap ap0 12 8 (.int y0) ∧ iv r 0 1 ∧ iv y0 0 400 ∧ (xp100.toInt ≤ y0.toInt) ∧ (¬ r.toInt = 0 → chb Tp 97 122 y0.toInt xp101.toInt) ∧ (¬ chb Tp 32 32 xp100.toInt xp101.toInt → y0.toInt = xp100.toInt))))) 0 0 (hp_F T) := by
  obtain ⟨gok, tpok, hp0, hp0tape, hp0sign, hp0len, hp0clause, hp0clauses, hp0read, hp0opn, hp0stack, hp0word, hp0said, hp0was, hp0fitting, hp0sums, hp0sort, hp0sumsBy, hp0oneOf, hp0otherOf, hp0kept, hp0images, hp0acts, hp0iUnd, hp0iFor, hp0iX, hp0made⟩ := id ip0
  have hpx := gok.1
  have gsok := gok.2.2.2.2
  have ggd := gok.2.2.2.1
  refine Met.ofW (cc := cX12_isWord) (maxL := 6) (ret := (some .boolean)) (by decide) rfl ?_
  intro p e s m args below meth c s₁ B hml hv
  obtain ⟨rfl, hok, hG, hB⟩ := hv
  have hx := B.exec
  have hb := B.bytes
  have hr := B.returns
  have hts := atoms_spec (ws := wsX12_isWord) B.pre
  have hown : s.vm.findClass RX12 = some m.cls := findClass_of_methodNamed B.named
  have hlocks := B.notSynchronized
  have hK := hG.1
  have hw : hp_w D T s s.heap [] := hp_w.rf hok
  have IX12 : ∀ w ∈ wsX120, w ∈ wsX12_isWord := by decide +kernel
  have L99 := hts (.fieldLink RX12 99 "PalmCensusModel" "next" "I") (by decide +kernel)
  have L7 := hts (.fieldLink RX12 7 "PalmCensusModel" "tape" "[B") (by decide +kernel)
  have hon : hp_on (fun q => q = ap0) s.heap s.heap := fun _ _ => rfl
  have k0 : (0 : Int32).toInt = 0 := (by decide)
  have k1 : (1 : Int32).toInt = 1 := (by decide)
  have k8 : (8 : Int32).toInt = 8 := (by decide)
  have k9 : (9 : Int32).toInt = 9 := (by decide)
  have obp100 := iv_o bp100
  have obp101 := iv_o bp101
  have hkm : hp_km D [(12, 8)] s.heap s.heap := fun _ _ _ _ h _ => h
  have hl := lv_entry ([.ref ap0, .long xp1]) (n := 6) (Nat.le_of_ble_eq_true rfl)
  rw [lg_entry_eq]
  generalize (lg_sl ([.ref ap0, .long xp1]) ++ List.replicate (6 - (lg_sl ([.ref ap0, .long xp1])).length) Slot.unset).toArray = ls at hl ⊢
  have hl : lv_has ls 6 [(0, .ref ap0), (1, .long xp1)] := hl
  show WX12_isWord_x p l e s m below meth c D T ap0 xp1 xp100 xp101 A Tp s.heap [] (F0 m 0 ls [])
  have obp100 := iv_o bp100
  have obp101 := iv_o bp101
  refine lv_aload_n hx hb dX12_isWord_0 rfl (lv_at hl 0 rfl) ?_
  refine hp_callei (va_runV (As := []) (rest := []) ⟨hx, hb, hml, hown, hts⟩ (sX12_see_x l D T ap0 xp100 xp101 A Gm Tp ip0 bp100 bp101) (cwV 0 hts gX12_isWord_X12_see rfl rfl rfl (by decide +kernel) ⟨Nat.le_of_ble_eq_true rfl, Nat.le_of_ble_eq_true rfl⟩) (hp_preV hG hw hp0 rfl ⟨hB.1, hB.2⟩) rfl rfl hl.1 rfl (lv_room (Nat.le_of_ble_eq_true rfl)) dX12_isWord_1 ⟨Nat.zero_le _, Nat.zero_le _⟩) hw (fun x1 st1 t1 H1 locs1 eh1 eg1 bx1 hw => ?_)
  obtain ⟨x1p0, g1, on1, fx1p0, cx1, bx1p0, R1_0, R1_1, R1_2, R1_3⟩ := bx1
  rw [eh1, eg1] at g1 on1
  rw [eg1] at fx1p0
  have hkm := hkm.call g1 (by decide)
  have hon := hon.trans on1
  have f_p0_1 := g1 _ _ _ _ hB.2 (by decide)
  have obx1p0 := iv_o bx1p0
  have ocx1 := iv_o cx1
  refine lv_pop hx hb dX12_isWord_4 rfl ?_
  refine lv_lconst (v := 0) hx hb dX12_isWord_5 (by decide) ?_
  refine lv_lstore_n (lv' := [(3, .long 0), (0, .ref ap0), (1, .long xp1)]) hx hb dX12_isWord_6 rfl hl (by decide) rfl (fun ls hl => ?_)
  refine lv_iconst (v := 0) hx hb dX12_isWord_7 (by decide) ?_
  refine lv_istore (lv' := [(5, .int 0), (3, .long 0), (0, .ref ap0), (1, .long xp1)]) hx hb dX12_isWord_8 hl (by decide) rfl (fun ls hl => ?_)
  have J10 : ∀ (n : Nat) (y10_l5 : Int32) (y10_l3 : Int64), (400 - y10_l5.toInt).toNat < n → iv y10_l5 0 400 → iv xp101 0 400 → iv x1p0 0 400 → (0 < y10_l5.toInt → chb Tp 97 122 x1p0.toInt xp101.toInt) → ∀ (H : Heap) (locs : List Loc), hp_w D T s H locs → hp_km D [(12, 8)] s.heap H → hp_on (fun q => q = ap0) s.heap H → hp_f D H ap0 12 1 (.int xp101) → hp_f D H ap0 12 8 (.int x1p0) → ∀ (ls : Array Slot), lv_has ls 6 [(0, .ref ap0), (1, .long xp1), (3, .long y10_l3), (5, .int y10_l5)] → WX12_isWord_x p l e s m below meth c D T ap0 xp1 xp100 xp101 A Tp H locs (F0 m 10 ls []) := by
    intro n
    induction n with
    | zero => intro y10_l5 y10_l3 hmu10 c10_y10_l5 c10_xp101 c10_x1p0 hv10_0 H10 locs10 hw hkm hon f_p0_1 f_p0_8 ls hl; exact absurd hmu10 (Nat.not_lt_zero _)
    | succ n ih10 =>
      intro y10_l5 y10_l3 hmu10 c10_y10_l5 c10_xp101 c10_x1p0 hv10_0 H10 locs10 hw hkm hon f_p0_1 f_p0_8 ls hl
      have oc10_y10_l5 := iv_o c10_y10_l5
      have oc10_xp101 := iv_o c10_xp101
      have oc10_x1p0 := iv_o c10_x1p0
      refine lv_aload_n hx hb dX12_isWord_10 rfl (lv_at hl 0 rfl) ?_
      refine lv_aload_n hx hb dX12_isWord_11 rfl (lv_at hl 0 rfl) ?_
      refine hp_getf hx hb hts IX12 hown hK f_p0_8 rfl (by decide) L99 dX12_isWord_12 ?_
      refine lv_iload hx hb dX12_isWord_15 (lv_at hl 3 rfl) ?_
      refine lv_iadd hx hb dX12_isWord_17 ?_
      refine lv_topi (fun x17 ex17 => ?_)
      have bx17 : iv x17 0 800 := iv_add c10_x1p0 c10_y10_l5 ex17 (by decide)
      have obx17 := iv_o bx17
      have qx17 := iv_add_eq c10_x1p0 c10_y10_l5 ex17 (by decide)
      refine hp_callpi (va_runV (As := [.int x17]) (rest := []) ⟨hx, hb, hml, hown, hts⟩ (sX12_isLetter l D T ap0 x17 xp101 A Gm Tp ip0 (bx17.mono (by decide) (by decide)) c10_xp101) (cwV 1 hts gX12_isWord_X12_isLetter rfl rfl rfl (by decide +kernel) ⟨Nat.le_of_ble_eq_true rfl, Nat.le_of_ble_eq_true rfl⟩) (hp_preV hG hw hp0 rfl f_p0_1) rfl rfl hl.1 rfl (lv_room (Nat.le_of_ble_eq_true rfl)) dX12_isWord_18 ⟨Nat.zero_le _, Nat.zero_le _⟩) (fun x18 bx18 => ?_)
      obtain ⟨cx18, R18_0, R18_1, R18_2⟩ := bx18
      have ocx18 := iv_o cx18
      refine lv_if_eq (tgt := 56) hx hb dX12_isWord_21 (by decide) (fun c21 => ?_) (fun c21 => ?_)
      · have oc21 := congrArg Int32.toInt c21
        have r21tp : iv x18 0 0 := (iv_both cx18 (iv_eq (show iv 0 0 0 from ⟨by decide, by decide⟩) c21)).mono (by decide) (by decide)
        have or21tp := iv_o r21tp
        refine lv_iload hx hb dX12_isWord_56 (lv_at hl 3 rfl) ?_
        refine lv_if_le (tgt := 78) hx hb dX12_isWord_58 (by decide) (fun c58 => ?_) (fun c58 => ?_)
        · have oc58 := Int32.le_iff_toInt_le.mp c58
          have r58tp : iv y10_l5 0 0 := (iv_le_l c58 c10_y10_l5 (show iv 0 0 0 from ⟨by decide, by decide⟩)).mono (by decide) (by decide)
          have or58tp := iv_o r58tp
          refine lv_iconst (v := 0) hx hb dX12_isWord_78 (by decide) ?_
          exact W.zret (v := 0) hx hb hr (iv_nz (show iv 0 0 1 from ⟨by decide, by decide⟩)) (fun t ht hW => ⟨some (.int 0), rfl, ⟨(0 : Int32), rfl, ⟨x1p0, by rw [ht]; exact hkm, by rw [ht]; exact hon, by rw [ht]; exact f_p0_8, (show iv 0 0 1 from ⟨by decide, by decide⟩), c10_x1p0, (by intros; omega), (fun h9 => absurd k0 h9), (R1_3)⟩⟩, by rw [ht]; exact hw.1, hw.2.F ht⟩) hw.2.2.2 dX12_isWord_79
        · have oc58 := Int32.lt_iff_toInt_lt.mp (iv_nle c58)
          have r58fq : iv y10_l5 1 400 := (iv_lt_r (iv_nle c58) (show iv 0 0 0 from ⟨by decide, by decide⟩) c10_y10_l5).mono (by decide) (by decide)
          have or58fq := iv_o r58fq
          refine lv_iload hx hb dX12_isWord_61 (lv_at hl 3 rfl) ?_
          refine lv_bipush (v := 9) hx hb dX12_isWord_63 (by decide) ?_
          refine lv_icmp_ge (tgt := 78) hx hb dX12_isWord_65 (by decide) (fun c65 => ?_) (fun c65 => ?_)
          · have oc65 := Int32.le_iff_toInt_le.mp c65
            have r65tq : iv y10_l5 9 400 := (iv_le_r c65 (show iv 9 9 9 from ⟨by decide, by decide⟩) r58fq).mono (by decide) (by decide)
            have or65tq := iv_o r65tq
            refine lv_iconst (v := 0) hx hb dX12_isWord_78 (by decide) ?_
            exact W.zret (v := 0) hx hb hr (iv_nz (show iv 0 0 1 from ⟨by decide, by decide⟩)) (fun t ht hW => ⟨some (.int 0), rfl, ⟨(0 : Int32), rfl, ⟨x1p0, by rw [ht]; exact hkm, by rw [ht]; exact hon, by rw [ht]; exact f_p0_8, (show iv 0 0 1 from ⟨by decide, by decide⟩), c10_x1p0, (by intros; omega), (fun h9 => absurd k0 h9), (R1_3)⟩⟩, by rw [ht]; exact hw.1, hw.2.F ht⟩) hw.2.2.2 dX12_isWord_79
          · have oc65 := Int32.lt_iff_toInt_lt.mp (iv_nle c65)
            have r65fp : iv y10_l5 1 8 := (iv_lt_l (iv_nle c65) r58fq (show iv 9 9 9 from ⟨by decide, by decide⟩)).mono (by decide) (by decide)
            have or65fp := iv_o r65fp
            refine lv_lload_n hx hb dX12_isWord_68 rfl (lv_at hl 2 rfl) ?_
            refine lv_lload_n hx hb dX12_isWord_69 rfl (lv_at hl 1 rfl) ?_
            refine W.lcmp hx hb dX12_isWord_70 ?_
            refine lv_topi (fun x70 ex70 => ?_)
            have bx70 : iv x70 (-1) 1 := iv_lcmp ex70
            have obx70 := iv_o bx70
            refine lv_if_ne (tgt := 78) hx hb dX12_isWord_71 (by decide) (fun c71 => ?_) (fun c71 => ?_)
            · have oc71 := iv_neq c71
              refine lv_iconst (v := 0) hx hb dX12_isWord_78 (by decide) ?_
              exact W.zret (v := 0) hx hb hr (iv_nz (show iv 0 0 1 from ⟨by decide, by decide⟩)) (fun t ht hW => ⟨some (.int 0), rfl, ⟨(0 : Int32), rfl, ⟨x1p0, by rw [ht]; exact hkm, by rw [ht]; exact hon, by rw [ht]; exact f_p0_8, (show iv 0 0 1 from ⟨by decide, by decide⟩), c10_x1p0, (by intros; omega), (fun h9 => absurd k0 h9), (R1_3)⟩⟩, by rw [ht]; exact hw.1, hw.2.F ht⟩) hw.2.2.2 dX12_isWord_79
            · have oc71 := congrArg Int32.toInt c71
              have r71fp : iv x70 0 0 := (iv_both bx70 (iv_eq (show iv 0 0 0 from ⟨by decide, by decide⟩) c71)).mono (by decide) (by decide)
              have or71fp := iv_o r71fp
              refine lv_iconst (v := 1) hx hb dX12_isWord_74 (by decide) ?_
              refine lv_goto (tgt := 79) hx hb dX12_isWord_75 (by decide) ?_
              exact W.zret (v := 1) hx hb hr (iv_nz (show iv 1 0 1 from ⟨by decide, by decide⟩)) (fun t ht hW => ⟨some (.int 1), rfl, ⟨(1 : Int32), rfl, ⟨x1p0, by rw [ht]; exact hkm, by rw [ht]; exact hon, by rw [ht]; exact f_p0_8, (show iv 1 0 1 from ⟨by decide, by decide⟩), c10_x1p0, (by intros; omega), (fun _ => hv10_0 (by omega)), (R1_3)⟩⟩, by rw [ht]; exact hw.1, hw.2.F ht⟩) hw.2.2.2 dX12_isWord_79
      · have oc21 := iv_neq c21
        have r21fp : iv x18 1 1 := (iv_ne_lo c21 cx18 rfl).mono (by decide) (by decide)
        have or21fp := iv_o r21fp
        have r21fpz : iv x17 0 399 := (iv_both bx17 (R18_2 (iv_ne0 r21fp (by decide)))).mono (by decide) (by decide)
        have or21fpz := iv_o r21fpz
        have r21fpzu : iv x1p0 0 399 := iv_bku qx17 r21fpz c10_x1p0 c10_y10_l5 (by decide)
        have or21fpzu := iv_o r21fpzu
        have r21fpzw : iv y10_l5 0 399 := iv_bkw qx17 r21fpz c10_y10_l5 r21fpzu (by decide)
        have or21fpzw := iv_o r21fpzw
        refine lv_iload hx hb dX12_isWord_24 (lv_at hl 3 rfl) ?_
        refine lv_bipush (v := 8) hx hb dX12_isWord_26 (by decide) ?_
        have J50 : ∀ (y50_l3 : Int64), iv y10_l5 0 399 → iv xp101 0 400 → iv x1p0 0 399 → (chb Tp 97 122 x1p0.toInt xp101.toInt) → ∀ (H : Heap) (locs : List Loc), hp_w D T s H locs → hp_km D [(12, 8)] s.heap H → hp_on (fun q => q = ap0) s.heap H → hp_f D H ap0 12 1 (.int xp101) → hp_f D H ap0 12 8 (.int x1p0) → ∀ (ls : Array Slot), lv_has ls 6 [(0, .ref ap0), (1, .long xp1), (3, .long y50_l3), (5, .int y10_l5)] → WX12_isWord_x p l e s m below meth c D T ap0 xp1 xp100 xp101 A Tp H locs (F0 m 50 ls []) := by
          intro y50_l3 c50_y10_l5 c50_xp101 c50_x1p0 hv50_0 H50 locs50 hw hkm hon f_p0_1 f_p0_8 ls hl
          have oc50_y10_l5 := iv_o c50_y10_l5
          have oc50_xp101 := iv_o c50_xp101
          have oc50_x1p0 := iv_o c50_x1p0
          obtain ⟨x50, ex50⟩ : ∃ y : Int32, y = y10_l5 + 1 := ⟨_, rfl⟩
          have bx50 : iv x50 1 400 := iv_add c50_y10_l5 (show iv 1 1 1 from ⟨by decide, by decide⟩) ex50 (by decide)
          have qx50 := iv_add_eq c50_y10_l5 (show iv 1 1 1 from ⟨by decide, by decide⟩) ex50 (by decide)
          have obx50 := iv_o bx50
          refine lv_iinc (v := x50) (lv' := [(5, .int x50), (0, .ref ap0), (1, .long xp1), (3, .long y50_l3)]) hx hb dX12_isWord_50 hl (k := 3) rfl (by rw [ex50]; rfl) (by decide) rfl (fun ls hl => ?_)
          refine lv_goto (tgt := 10) hx hb dX12_isWord_53 (by decide) ?_
          exact ih10 x50 y50_l3 (mu_up 1 hmu10 (qx50) (by decide) (show iv x50 0 400 from (bx50.mono (by decide) (by decide))).2) (bx50.mono (by decide) (by decide)) c50_xp101 (c50_x1p0.mono (by decide) (by decide)) (show 0 < x50.toInt → chb Tp 97 122 x1p0.toInt xp101.toInt from (fun _ => hv50_0)) H50 locs50 hw hkm hon f_p0_1 f_p0_8 _ (lv_sub hl [1, 2, 3, 0] rfl)
        refine lv_icmp_ge (tgt := 50) hx hb dX12_isWord_28 (by decide) (fun c28 => ?_) (fun c28 => ?_)
        · have oc28 := Int32.le_iff_toInt_le.mp c28
          have r28tq : iv y10_l5 8 399 := (iv_le_r c28 (show iv 8 8 8 from ⟨by decide, by decide⟩) r21fpzw).mono (by decide) (by decide)
          have or28tq := iv_o r28tq
          exact J50 y10_l3 (r28tq.mono (by decide) (by decide)) c10_xp101 r21fpzu (show chb Tp 97 122 x1p0.toInt xp101.toInt from (wd_in (R18_0 c21) qx17 (by omega) hv10_0)) H10 locs10 hw hkm hon f_p0_1 f_p0_8 _ (lv_sub hl [0, 1, 2, 3] rfl)
        · have oc28 := Int32.lt_iff_toInt_lt.mp (iv_nle c28)
          have r28fp : iv y10_l5 0 7 := (iv_lt_l (iv_nle c28) r21fpzw (show iv 8 8 8 from ⟨by decide, by decide⟩)).mono (by decide) (by decide)
          have or28fp := iv_o r28fp
          refine lv_lload_n hx hb dX12_isWord_31 rfl (lv_at hl 2 rfl) ?_
          refine lv_bipush (v := 8) hx hb dX12_isWord_32 (by decide) ?_
          obtain ⟨x34, ex34⟩ : ∃ y : Int64, y10_l3 <<< (((8 : Int32)).toInt64 &&& 63) = y := ⟨_, rfl⟩
          refine lv_lshl (v := x34) hx hb dX12_isWord_34 ex34 ?_
          refine lv_aload_n hx hb dX12_isWord_35 rfl (lv_at hl 0 rfl) ?_
          refine hp_getr hx hb hts IX12 hown hK hw.1 hp0 rfl 0 (by decide) L7 rfl dX12_isWord_36 ?_
          refine lv_aload_n hx hb dX12_isWord_39 rfl (lv_at hl 0 rfl) ?_
          refine hp_getf hx hb hts IX12 hown hK f_p0_8 rfl (by decide) L99 dX12_isWord_40 ?_
          refine lv_iload hx hb dX12_isWord_43 (lv_at hl 3 rfl) ?_
          refine lv_iadd hx hb dX12_isWord_45 ?_
          refine lv_topi (fun x45 ex45 => ?_)
          have bx45 : iv x45 0 399 := iv_eq r21fpz (ex45.trans ex17.symm)
          have obx45 := iv_o bx45
          refine hp_bald hx hb hK hw.1 hp0tape (vp_iv bx45 (by decide)) dX12_isWord_46 (fun v46 h46 => ?_)
          obtain ⟨x46, rfl⟩ := tpok _ _ h46
          have ex46 : Value.int x46 = Tp (x45).toNatClampNeg := h46
          obtain ⟨x47, ex47⟩ : ∃ y : Int64, x46.toInt64 = y := ⟨_, rfl⟩
          refine lv_i2l (v := x47) hx hb dX12_isWord_47 ex47 ?_
          refine lv_lor hx hb dX12_isWord_48 ?_
          refine lv_topl (fun x48 ex48 => ?_)
          refine lv_lstore_n (lv' := [(3, .long x48), (0, .ref ap0), (1, .long xp1), (5, .int y10_l5)]) hx hb dX12_isWord_49 rfl hl (by decide) rfl (fun ls hl => ?_)
          exact J50 x48 (r28fp.mono (by decide) (by decide)) c10_xp101 r21fpzu (show chb Tp 97 122 x1p0.toInt xp101.toInt from (wd_in (R18_0 c21) qx17 (by omega) hv10_0)) H10 locs10 hw hkm hon f_p0_1 f_p0_8 _ (lv_sub hl [1, 2, 0, 3] rfl)
  exact J10 _ (0 : Int32) (0 : Int64) (Nat.lt_succ_self _) (show iv 0 0 400 from ⟨by decide, by decide⟩) bp101 bx1p0 (show 0 < 0 → chb Tp 97 122 x1p0.toInt xp101.toInt from (fun h9 => absurd h9 (by decide))) H1 locs1 hw hkm hon f_p0_1 fx1p0 _ (lv_sub hl [2, 3, 1, 0] rfl)
abbrev WX12_fact (p : Program) (l : Launch) (e : Env) (s : State) (m : MethodId) (below : List Frame) (meth : Method) (c : Code) (D : hp_D) (T : hp_T) (ap0 : Nat) (xp100 : Int32) (xp101 : Int32) (xp102 : Int32) (xp103 : Int32) (A : Nat → Nat) (Tp : Nat → Value) (gS0 : Nat → Int32) (gb : Int) (H : Heap) (locs : List Loc) (g : JFrame) : Prop := W p l e (headSpec wsX12_fact ({ frames := 7, cells := 0, slots := 0, locals := 154 })).room s m ([.ref ap0] : List Value).toArray below meth c H locs 0 0 (MQ below (hq_e D T (fun v st t => ∃ r : Int32, v = some (.int r) ∧ ((∃ y0 y1 : Int32, hp_km D [(12, 8), (12, 9), (12, 10), (12, 12), (12, 13), (12, 16)] st.heap t.heap ∧ hp_on (fun q => q = ap0 ∨ q = A 1 ∨ q = A 2 ∨ q = A 6) st.heap t.heap ∧ hp_f D t.heap ap0 12 8 (.int y0) ∧ hp_f D t.heap ap0 12 16 (.int y1) ∧ iv r 0 1 ∧ iv y0 0 400 ∧ iv y1 0 400 ∧ (xp100.toInt ≤ y0.toInt) ∧ (¬ r.toInt = 0 → xp100.toInt + 1 ≤ y0.toInt) ∧ (¬ r.toInt = 0 → os D t.heap ap0 A xp102 gS0 gb 1 y1.toInt y0.toInt) ∧ (r.toInt = 0 → csw D t.heap A xp102 gS0 gb))))) ([.ref ap0] : List Value).toArray s 0 0 (hp_F T)) g
set_option maxHeartbeats 4000000 in
set_option maxRecDepth 100000 in
theorem sX12_fact (l : Launch) (D : hp_D) (T : hp_T) (ap0 : Nat) (xp100 : Int32) (xp101 : Int32) (xp102 : Int32) (xp103 : Int32) (A : Nat → Nat) (Gm : moG) (Tp : Nat → Value) (ip0 : isMp T ap0 A Gm Tp) (gS0 : Nat → Int32) (gb : Int) (bp100 : iv xp100 0 400) (bp101 : iv xp101 0 400) (bp102 : iv xp102 0 5) (bp103 : iv xp103 0 400) : Met l yX12_fact wsX12_fact ({ frames := 7, cells := 0, slots := 0, locals := 154 }) (hp_Pc D T [.ref ap0] (fun H => hp_f D H ap0 12 8 (.int xp100) ∧ hp_f D H ap0 12 1 (.int xp101) ∧ hp_f D H ap0 12 11 (.int xp102) ∧ hp_f D H ap0 12 16 (.int xp103) ∧ os D H ap0 A xp102 gS0 gb 0 xp103.toInt xp100.toInt)) (hq_e D T (fun v st t => ∃ r : Int32, v = some (.int r) ∧ ((∃ y0 y1 : Int32, hp_km D [(12, 8), (12, 9), (12, 10), (12, 12), (12, 13), (12, 16)] st.heap t.heap ∧ hp_on (fun q => q = ap0 ∨ q = A 1 ∨ q = A 2 ∨ q = A 6) st.heap t.heap ∧ hp_f D t.heap ap0 12 8 (.int y0) ∧ hp_f D t.heap ap0 12 16 (.int y1) ∧ iv r 0 1 ∧ iv y0 0 400 ∧ iv y1 0 400 ∧ (xp100.toInt ≤ y0.toInt) ∧ (¬ r.toInt = 0 → xp100.toInt + 1 ≤ y0.toInt) ∧ (¬ r.toInt = 0 → os D t.heap ap0 A xp102 gS0 gb 1 y1.toInt y0.toInt) ∧ (r.toInt = 0 → csw D t.heap A xp102 gS0 gb))))) 0 0 (hp_F T) := by
  obtain ⟨gok, tpok, hp0, hp0tape, hp0sign, hp0len, hp0clause, hp0clauses, hp0read, hp0opn, hp0stack, hp0word, hp0said, hp0was, hp0fitting, hp0sums, hp0sort, hp0sumsBy, hp0oneOf, hp0otherOf, hp0kept, hp0images, hp0acts, hp0iUnd, hp0iFor, hp0iX, hp0made⟩ := id ip0
  have hpx := gok.1
  have gsok := gok.2.2.2.2
  have ggd := gok.2.2.2.1
  refine Met.ofW (cc := cX12_fact) (maxL := 3) (ret := (some .boolean)) (by decide) rfl ?_
  intro p e s m args below meth c s₁ B hml hv
  obtain ⟨rfl, hok, hG, hB⟩ := hv
  have hx := B.exec
  have hb := B.bytes
  have hr := B.returns
  have hts := atoms_spec (ws := wsX12_fact) B.pre
  have hown : s.vm.findClass RX12 = some m.cls := findClass_of_methodNamed B.named
  have hlocks := B.notSynchronized
  have hK := hG.1
  have hw : hp_w D T s s.heap [] := hp_w.rf hok
  have IX12 : ∀ w ∈ wsX120, w ∈ wsX12_fact := by decide +kernel
  have K193 := hts (.constantLong RX12 193 7237492) (by decide +kernel)
  have L99 := hts (.fieldLink RX12 99 "PalmCensusModel" "next" "I") (by decide +kernel)
  have hon : hp_on (fun q => q = ap0 ∨ q = A 1 ∨ q = A 2 ∨ q = A 6) s.heap s.heap := fun _ _ => rfl
  have k0 : (0 : Int32).toInt = 0 := (by decide)
  have k1 : (1 : Int32).toInt = 1 := (by decide)
  have k11 : (11 : Int32).toInt = 11 := (by decide)
  have k91 : (91 : Int32).toInt = 91 := (by decide)
  have obp100 := iv_o bp100
  have obp101 := iv_o bp101
  have obp102 := iv_o bp102
  have obp103 := iv_o bp103
  obtain ⟨O0, hcO, hov, hcs⟩ := hB.2.2.2.2
  have hkm : hp_km D [(12, 8), (12, 9), (12, 10), (12, 12), (12, 13), (12, 16)] s.heap s.heap := fun _ _ _ _ h _ => h
  have hl := lv_entry ([.ref ap0]) (n := 3) (Nat.le_of_ble_eq_true rfl)
  rw [lg_entry_eq]
  generalize (lg_sl ([.ref ap0]) ++ List.replicate (3 - (lg_sl ([.ref ap0])).length) Slot.unset).toArray = ls at hl ⊢
  have hl : lv_has ls 3 [(0, .ref ap0)] := hl
  show WX12_fact p l e s m below meth c D T ap0 xp100 xp101 xp102 xp103 A Tp gS0 gb s.heap [] (F0 m 0 ls [])
  have obp100 := iv_o bp100
  have obp101 := iv_o bp101
  have obp102 := iv_o bp102
  have obp103 := iv_o bp103
  refine lv_iconst (v := 1) hx hb dX12_fact_0 (by decide) ?_
  refine lv_istore_n (lv' := [(1, .int 1), (0, .ref ap0)]) hx hb dX12_fact_1 rfl hl (by decide) rfl (fun ls hl => ?_)
  have J2 : ∀ (n : Nat) (y2_l1 y2_fp0_16 y2_fp0_8 : Int32), (2 * (400 - y2_fp0_8.toInt) + y2_l1.toInt).toNat < n → iv y2_l1 0 1 → iv xp101 0 400 → iv xp102 0 5 → iv y2_fp0_16 0 400 → iv y2_fp0_8 0 400 → (xp100.toInt ≤ y2_fp0_8.toInt) → ∀ (H : Heap) (locs : List Loc), hp_w D T s H locs → hp_km D [(12, 8), (12, 9), (12, 10), (12, 12), (12, 13), (12, 16)] s.heap H → hp_on (fun q => q = ap0 ∨ q = A 1 ∨ q = A 2 ∨ q = A 6) s.heap H → hp_f D H ap0 12 1 (.int xp101) → hp_f D H ap0 12 11 (.int xp102) → hp_f D H ap0 12 16 (.int y2_fp0_16) → hp_f D H ap0 12 8 (.int y2_fp0_8) → (os D H ap0 A xp102 gS0 gb 0 (y2_fp0_16.toInt) (y2_fp0_8.toInt)) → ∀ (ls : Array Slot), lv_has ls 3 [(0, .ref ap0), (1, .int y2_l1)] → WX12_fact p l e s m below meth c D T ap0 xp100 xp101 xp102 xp103 A Tp gS0 gb H locs (F0 m 2 ls []) := by
    intro n
    induction n with
    | zero => intro y2_l1 y2_fp0_16 y2_fp0_8 hmu2 c2_y2_l1 c2_xp101 c2_xp102 c2_y2_fp0_16 c2_y2_fp0_8 hv2_0 H2 locs2 hw hkm hon f_p0_1 f_p0_11 f_p0_16 f_p0_8 hos ls hl; exact absurd hmu2 (Nat.not_lt_zero _)
    | succ n ih2 =>
      intro y2_l1 y2_fp0_16 y2_fp0_8 hmu2 c2_y2_l1 c2_xp101 c2_xp102 c2_y2_fp0_16 c2_y2_fp0_8 hv2_0 H2 locs2 hw hkm hon f_p0_1 f_p0_11 f_p0_16 f_p0_8 hos ls hl
      have oc2_y2_l1 := iv_o c2_y2_l1
      have oc2_xp101 := iv_o c2_xp101
      have oc2_xp102 := iv_o c2_xp102
      have oc2_y2_fp0_16 := iv_o c2_y2_fp0_16
      have oc2_y2_fp0_8 := iv_o c2_y2_fp0_8
      obtain ⟨OJ2, hcO, hov, hcs⟩ := hos
      refine lv_iload_n hx hb dX12_fact_2 rfl (lv_at hl 1 rfl) ?_
      refine lv_if_eq (tgt := 75) hx hb dX12_fact_3 (by decide) (fun c3 => ?_) (fun c3 => ?_)
      · have oc3 := congrArg Int32.toInt c3
        have r3tp : iv y2_l1 0 0 := (iv_both c2_y2_l1 (iv_eq (show iv 0 0 0 from ⟨by decide, by decide⟩) c3)).mono (by decide) (by decide)
        have or3tp := iv_o r3tp
        refine lv_aload_n hx hb dX12_fact_75 rfl (lv_at hl 0 rfl) ?_
        refine hp_callei (va_runV (As := []) (rest := []) ⟨hx, hb, hml, hown, hts⟩ (sX12_compare l D T ap0 y2_fp0_8 xp101 xp102 A Gm Tp ip0 gS0 gb (0 + nbin OJ2 (y2_fp0_16.toInt).toNat) (y2_fp0_8.toInt - y2_fp0_16.toInt) (by omega) c2_y2_fp0_8 c2_xp101 c2_xp102) (cwV 0 hts gX12_fact_X12_compare rfl rfl rfl (by decide +kernel) ⟨Nat.le_of_ble_eq_true rfl, Nat.le_of_ble_eq_true rfl⟩) (hp_preV hG hw hp0 rfl ⟨f_p0_8, f_p0_1, f_p0_11, hcs⟩) rfl rfl hl.1 rfl (lv_room (Nat.le_of_ble_eq_true rfl)) dX12_fact_76 ⟨Nat.zero_le _, Nat.zero_le _⟩) hw (fun x76 st76 t76 H76 locs76 eh76 eg76 bx76 hw => ?_)
        obtain ⟨x76p0, g76, on76, fx76p0, cx76, bx76p0, R76_0, R76_1, R76_2, R76_3⟩ := bx76
        rw [eh76, eg76] at g76 on76
        have hcO := hp_c.kept hcO (on76 _ (fun h9 => by rcases h9 with h9 | h9 | h9; (exact hp_ne_ao hp0opn hp0 h9); (exact hp_ne_len hp0opn hp0sign (by decide) h9); (exact hp_ne_len hp0opn hp0len (by decide) h9)))
        rw [eg76] at fx76p0
        have hkm := hkm.call g76 (by decide)
        have hon := hon.trans (hp_on.mono on76 (fun q h9 => by rcases h9 with rfl | rfl | rfl; (exact Or.inl rfl); (exact Or.inr (Or.inl rfl)); (exact Or.inr (Or.inr (Or.inl rfl)))))
        have f_p0_1 := g76 _ _ _ _ f_p0_1 (by decide)
        have f_p0_11 := g76 _ _ _ _ f_p0_11 (by decide)
        have f_p0_16 := g76 _ _ _ _ f_p0_16 (by decide)
        have obx76p0 := iv_o bx76p0
        have ocx76 := iv_o cx76
        exact W.zret (v := x76) hx hb hr (iv_nz cx76) (fun t ht hW => ⟨some (.int x76), rfl, ⟨x76, rfl, ⟨x76p0, y2_fp0_16, by rw [ht]; exact hkm, by rw [ht]; exact hon, by rw [ht]; exact fx76p0, by rw [ht]; exact f_p0_16, cx76, bx76p0, c2_y2_fp0_16, (by intros; omega), (fun h9 => by have h8 := R76_1 h9; omega), (fun h9 => by have h8 := R76_2 h9; rw [eg76] at h8; rw [ht]; exact os_mk hcO hov h8 (by omega) (by omega) (by omega)), (fun h9 => by have h8 := R76_3 h9; rw [eg76] at h8; rw [ht]; exact h8)⟩⟩, by rw [ht]; exact hw.1, hw.2.F ht⟩) hw.2.2.2 dX12_fact_79
      · have oc3 := iv_neq c3
        have r3fp : iv y2_l1 1 1 := (iv_ne_lo c3 c2_y2_l1 rfl).mono (by decide) (by decide)
        have or3fp := iv_o r3fp
        refine lv_iconst (v := 0) hx hb dX12_fact_6 (by decide) ?_
        refine lv_istore_n (lv' := [(1, .int 0), (0, .ref ap0)]) hx hb dX12_fact_7 rfl hl (by decide) rfl (fun ls hl => ?_)
        refine lv_aload_n hx hb dX12_fact_8 rfl (lv_at hl 1 rfl) ?_
        refine hp_callei (va_runV (As := []) (rest := []) ⟨hx, hb, hml, hown, hts⟩ (sX12_see_x l D T ap0 y2_fp0_8 xp101 A Gm Tp ip0 c2_y2_fp0_8 c2_xp101) (cwV 0 hts gX12_fact_X12_see rfl rfl rfl (by decide +kernel) ⟨Nat.le_of_ble_eq_true rfl, Nat.le_of_ble_eq_true rfl⟩) (hp_preV hG hw hp0 rfl ⟨f_p0_8, f_p0_1⟩) rfl rfl hl.1 rfl (lv_room (Nat.le_of_ble_eq_true rfl)) dX12_fact_9 ⟨Nat.zero_le _, Nat.zero_le _⟩) hw (fun x9 st9 t9 H9 locs9 eh9 eg9 bx9 hw => ?_)
        obtain ⟨x9p0, g9, on9, fx9p0, cx9, bx9p0, R9_0, R9_1, R9_2, R9_3⟩ := bx9
        rw [eh9, eg9] at g9 on9
        have hcO := hp_c.kept hcO (on9 _ (fun h9 => hp_ne_ao hp0opn hp0 h9))
        rw [eg9] at fx9p0
        have hkm := hkm.call g9 (by decide)
        have hon := hon.trans (hp_on.mono on9 (fun q h9 => by rcases h9 with rfl; exact Or.inl rfl))
        have f_p0_1 := g9 _ _ _ _ f_p0_1 (by decide)
        have f_p0_11 := g9 _ _ _ _ f_p0_11 (by decide)
        have f_p0_16 := g9 _ _ _ _ f_p0_16 (by decide)
        have obx9p0 := iv_o bx9p0
        have ocx9 := iv_o cx9
        have hcs := cs.on (T := T) hcs on9 g9 (fun h9 => hp_ne_ao hp0sign hp0 h9) (fun h9 => hp_ne_ao hp0len hp0 h9) (by decide)
        refine lv_istore_n (lv' := [(2, .int x9), (1, .int 0), (0, .ref ap0)]) hx hb dX12_fact_12 rfl hl (by decide) rfl (fun ls hl => ?_)
        refine lv_aload_n hx hb dX12_fact_13 rfl (lv_at hl 2 rfl) ?_
        refine lv_ldc2 (v := 7237492) hx hb hown K193 dX12_fact_14 ?_
        refine hp_callei (va_runV (As := [.long 7237492]) (rest := []) ⟨hx, hb, hml, hown, hts⟩ (sX12_isWord_x l D T ap0 7237492 x9p0 xp101 A Gm Tp ip0 bx9p0 c2_xp101) (cwV 1 hts gX12_fact_X12_isWord rfl rfl rfl (by decide +kernel) ⟨Nat.le_of_ble_eq_true rfl, Nat.le_of_ble_eq_true rfl⟩) (hp_preV hG hw hp0 rfl ⟨fx9p0, f_p0_1⟩) rfl rfl hl.1 rfl (lv_room (Nat.le_of_ble_eq_true rfl)) dX12_fact_17 ⟨Nat.zero_le _, Nat.zero_le _⟩) hw (fun x17 st17 t17 H17 locs17 eh17 eg17 bx17 hw => ?_)
        obtain ⟨x17p0, g17, on17, fx17p0, cx17, bx17p0, R17_0, R17_1, R17_2⟩ := bx17
        rw [eh17, eg17] at g17 on17
        have hcO := hp_c.kept hcO (on17 _ (fun h9 => hp_ne_ao hp0opn hp0 h9))
        rw [eg17] at fx17p0
        have hkm := hkm.call g17 (by decide)
        have hon := hon.trans (hp_on.mono on17 (fun q h9 => by rcases h9 with rfl; exact Or.inl rfl))
        have f_p0_1 := g17 _ _ _ _ f_p0_1 (by decide)
        have f_p0_11 := g17 _ _ _ _ f_p0_11 (by decide)
        have f_p0_16 := g17 _ _ _ _ f_p0_16 (by decide)
        have obx17p0 := iv_o bx17p0
        have ocx17 := iv_o cx17
        have hcs := cs.on (T := T) hcs on17 g17 (fun h9 => hp_ne_ao hp0sign hp0 h9) (fun h9 => hp_ne_ao hp0len hp0 h9) (by decide)
        refine lv_if_eq (tgt := 43) hx hb dX12_fact_20 (by decide) (fun c20 => ?_) (fun c20 => ?_)
        · have oc20 := congrArg Int32.toInt c20
          have r20tp : iv x17 0 0 := (iv_both cx17 (iv_eq (show iv 0 0 0 from ⟨by decide, by decide⟩) c20)).mono (by decide) (by decide)
          have or20tp := iv_o r20tp
          refine lv_iload_n hx hb dX12_fact_43 rfl (lv_at hl 0 rfl) ?_
          refine lv_bipush (v := 91) hx hb dX12_fact_44 (by decide) ?_
          refine lv_icmp_ne (tgt := 72) hx hb dX12_fact_46 (by decide) (fun c46 => ?_) (fun c46 => ?_)
          · have oc46 := iv_neq c46
            refine lv_goto (tgt := 2) hx hb dX12_fact_72 (by decide) ?_
            exact ih2 (0 : Int32) y2_fp0_16 x17p0 (by omega) (show iv 0 0 1 from ⟨by decide, by decide⟩) c2_xp101 c2_xp102 c2_y2_fp0_16 bx17p0 (show xp100.toInt ≤ x17p0.toInt from by have := (bx17p0).1; have := (bx17p0).2; have : (0 : Int32).toInt = 0 := (by decide); have : (91 : Int32).toInt = 91 := (by decide); omega) H17 locs17 hw hkm hon f_p0_1 f_p0_11 f_p0_16 fx17p0 (os_mk hcO hov hcs (rfl) (by omega) (by omega)) _ (lv_sub hl [2, 1] rfl)
          · have oc46 := congrArg Int32.toInt c46
            have r46fp : iv x9 91 91 := (iv_both cx9 (iv_eq (show iv 91 91 91 from ⟨by decide, by decide⟩) c46)).mono (by decide) (by decide)
            have or46fp := iv_o r46fp
            have st9 := R17_2 R9_2
            have st8 := R9_1 (by omega)
            have bd9 := cs.bd0 hcs
            have w49 : iv y2_fp0_16 0 399 := ⟨by omega, by omega⟩
            have ow49 := iv_o w49
            refine lv_aload_n hx hb dX12_fact_49 rfl (lv_at hl 2 rfl) ?_
            refine lv_bipush (v := 91) hx hb dX12_fact_50 (by decide) ?_
            refine hp_callei (va_runV (As := [.int 91]) (rest := []) ⟨hx, hb, hml, hown, hts⟩ (sX12_opens l D T ap0 (91 : Int32) y2_fp0_16 A Gm Tp ip0 OJ2 w49) (cwV 1 hts gX12_fact_X12_opens rfl rfl rfl (by decide +kernel) ⟨Nat.le_of_ble_eq_true rfl, Nat.le_of_ble_eq_true rfl⟩) (hp_preV hG hw hp0 rfl ⟨f_p0_16, hcO⟩) rfl rfl hl.1 rfl (lv_room (Nat.le_of_ble_eq_true rfl)) dX12_fact_52 ⟨Nat.zero_le _, Nat.zero_le _⟩) hw (fun x52 st52 t52 H52 locs52 eh52 eg52 bx52 hw => ?_)
            obtain ⟨x52p0, g52, on52, fx52p0, cx52, bx52p0, R52_0⟩ := bx52
            rw [eh52, eg52] at g52 on52
            rw [eg52] at fx52p0
            have hkm := hkm.call g52 (by decide)
            have hon := hon.trans (hp_on.mono on52 (fun q h9 => by rcases h9 with rfl | rfl; (exact Or.inl rfl); (exact Or.inr (Or.inr (Or.inr (rfl))))))
            have f_p0_1 := g52 _ _ _ _ f_p0_1 (by decide)
            have f_p0_11 := g52 _ _ _ _ f_p0_11 (by decide)
            have f_p0_8 := g52 _ _ _ _ fx17p0 (by decide)
            have obx52p0 := iv_o bx52p0
            have ocx52 := iv_o cx52
            have hcs := cs.on (T := T) hcs on52 g52 (fun h9 => by rcases h9 with h9 | h9; (exact hp_ne_ao hp0sign hp0 h9); (exact hp_ne_len hp0sign hp0opn (by decide) h9)) (fun h9 => by rcases h9 with h9 | h9; (exact hp_ne_ao hp0len hp0 h9); (exact hp_ne_len hp0len hp0opn (by decide) h9)) (by decide)
            refine lv_if_ne (tgt := 60) hx hb dX12_fact_55 (by decide) (fun c55 => ?_) (fun c55 => ?_)
            · have oc55 := iv_neq c55
              have r55tp : iv x52 1 1 := (iv_ne_lo c55 cx52 rfl).mono (by decide) (by decide)
              have or55tp := iv_o r55tp
              obtain ⟨eo52, hcO⟩ := R52_0 (by omega)
              rw [eg52] at hcO
              have hov := ovd_p hov (show y2_fp0_16.toInt = y2_fp0_16.toInt from rfl) (by omega) eo52 (show (91 : Int32) = 11 ∨ (91 : Int32) = 12 ∨ (91 : Int32) = 13 ∨ (91 : Int32) = 91 by decide)
              have hnb := nbin_p0 (O := OJ2) (show y2_fp0_16.toInt = y2_fp0_16.toInt from rfl) (by omega) eo52 (show (91 : Int32) = 11 ∨ (91 : Int32) = 91 by decide)
              have w60 : iv x17p0 0 399 := ⟨by omega, by omega⟩
              have ow60 := iv_o w60
              refine lv_aload_n hx hb dX12_fact_60 rfl (lv_at hl 2 rfl) ?_
              refine lv_dup hx hb dX12_fact_61 rfl ?_
              refine hp_getf hx hb hts IX12 hown hK f_p0_8 rfl (by decide) L99 dX12_fact_62 ?_
              refine lv_iconst (v := 1) hx hb dX12_fact_65 (by decide) ?_
              refine lv_iadd hx hb dX12_fact_66 ?_
              refine lv_topi (fun x66 ex66 => ?_)
              have bx66 : iv x66 1 400 := iv_add w60 (show iv 1 1 1 from ⟨by decide, by decide⟩) ex66 (by decide)
              have obx66 := iv_o bx66
              have qx66 := iv_add_eq w60 (show iv 1 1 1 from ⟨by decide, by decide⟩) ex66 (by decide)
              refine hp_putE hx hb hts IX12 tyX12 tyX12_ok nmX12 hown hK hw hp0 rfl 8 (by decide) L99 rfl rfl ⟨_, rfl, (bx66.mono (by decide) (by decide))⟩ rfl rfl dX12_fact_67 (fun H67 locs67 hw f67n g67 on67 => ?_)
              have hon := hon.trans (hp_on.mono (show hp_on (fun q => q = ap0) _ _ from on67) (fun q h9 => by rcases h9 with rfl; exact Or.inl rfl))
              have hcO := hp_c.kept hcO (on67 _ (fun h9 => hp_ne_ao hp0opn hp0 h9))
              have hcs := cs.put hcs g67 on67 (hp_ne_ao hp0sign hp0) (hp_ne_ao hp0len hp0) (by decide)
              have hkm := hkm.put g67 (by decide)
              have f_p0_1 := g67 _ _ _ _ f_p0_1 (Or.inr ⟨rfl, by decide⟩)
              have f_p0_11 := g67 _ _ _ _ f_p0_11 (Or.inr ⟨rfl, by decide⟩)
              have f_p0_16 := g67 _ _ _ _ fx52p0 (Or.inr ⟨rfl, by decide⟩)
              refine lv_iconst (v := 1) hx hb dX12_fact_70 (by decide) ?_
              refine lv_istore_n (lv' := [(1, .int 1), (2, .int x9), (0, .ref ap0)]) hx hb dX12_fact_71 rfl hl (by decide) rfl (fun ls hl => ?_)
              refine lv_goto (tgt := 2) hx hb dX12_fact_72 (by decide) ?_
              exact ih2 (1 : Int32) x52p0 x66 (by omega) (show iv 1 0 1 from ⟨by decide, by decide⟩) c2_xp101 c2_xp102 bx52p0 (bx66.mono (by decide) (by decide)) (show xp100.toInt ≤ x66.toInt from by have := (bx66).1; have := (bx66).2; have := (w60).1; have := (w60).2; have : (0 : Int32).toInt = 0 := (by decide); have : (1 : Int32).toInt = 1 := (by decide); omega) H67 locs67 hw hkm hon f_p0_1 f_p0_11 f_p0_16 f67n (os_mk hcO hov hcs (by rw [hnb]) (by omega) (by omega)) _ (lv_sub hl [2, 0] rfl)
            · have oc55 := congrArg Int32.toInt c55
              have r55fp : iv x52 0 0 := (iv_both cx52 (iv_eq (show iv 0 0 0 from ⟨by decide, by decide⟩) c55)).mono (by decide) (by decide)
              have or55fp := iv_o r55fp
              refine lv_iconst (v := 0) hx hb dX12_fact_58 (by decide) ?_
              exact W.zret (v := 0) hx hb hr (iv_nz (show iv 0 0 1 from ⟨by decide, by decide⟩)) (fun t ht hW => ⟨some (.int 0), rfl, ⟨(0 : Int32), rfl, ⟨x17p0, x52p0, by rw [ht]; exact hkm, by rw [ht]; exact hon, by rw [ht]; exact f_p0_8, by rw [ht]; exact fx52p0, (show iv 0 0 1 from ⟨by decide, by decide⟩), bx17p0, bx52p0, (by intros; omega), (fun h9 => absurd k0 h9), (fun h9 => absurd k0 h9), (fun _ => by rw [ht]; exact cs.w hcs)⟩⟩, by rw [ht]; exact hw.1, hw.2.F ht⟩) hw.2.2.2 dX12_fact_59
        · have oc20 := iv_neq c20
          have r20fp : iv x17 1 1 := (iv_ne_lo c20 cx17 rfl).mono (by decide) (by decide)
          have or20fp := iv_o r20fp
          have ch9 := R17_1 (by omega)
          have ch8 := ch9.2.1
          have bd9 := cs.bd0 hcs
          have w23 : iv y2_fp0_16 0 399 := ⟨by omega, by omega⟩
          have ow23 := iv_o w23
          refine lv_aload_n hx hb dX12_fact_23 rfl (lv_at hl 2 rfl) ?_
          refine lv_bipush (v := 11) hx hb dX12_fact_24 (by decide) ?_
          refine hp_callei (va_runV (As := [.int 11]) (rest := []) ⟨hx, hb, hml, hown, hts⟩ (sX12_opens l D T ap0 (11 : Int32) y2_fp0_16 A Gm Tp ip0 OJ2 w23) (cwV 1 hts gX12_fact_X12_opens rfl rfl rfl (by decide +kernel) ⟨Nat.le_of_ble_eq_true rfl, Nat.le_of_ble_eq_true rfl⟩) (hp_preV hG hw hp0 rfl ⟨f_p0_16, hcO⟩) rfl rfl hl.1 rfl (lv_room (Nat.le_of_ble_eq_true rfl)) dX12_fact_26 ⟨Nat.zero_le _, Nat.zero_le _⟩) hw (fun x26 st26 t26 H26 locs26 eh26 eg26 bx26 hw => ?_)
          obtain ⟨x26p0, g26, on26, fx26p0, cx26, bx26p0, R26_0⟩ := bx26
          rw [eh26, eg26] at g26 on26
          rw [eg26] at fx26p0
          have hkm := hkm.call g26 (by decide)
          have hon := hon.trans (hp_on.mono on26 (fun q h9 => by rcases h9 with rfl | rfl; (exact Or.inl rfl); (exact Or.inr (Or.inr (Or.inr (rfl))))))
          have f_p0_1 := g26 _ _ _ _ f_p0_1 (by decide)
          have f_p0_11 := g26 _ _ _ _ f_p0_11 (by decide)
          have f_p0_8 := g26 _ _ _ _ fx17p0 (by decide)
          have obx26p0 := iv_o bx26p0
          have ocx26 := iv_o cx26
          have hcs := cs.on (T := T) hcs on26 g26 (fun h9 => by rcases h9 with h9 | h9; (exact hp_ne_ao hp0sign hp0 h9); (exact hp_ne_len hp0sign hp0opn (by decide) h9)) (fun h9 => by rcases h9 with h9 | h9; (exact hp_ne_ao hp0len hp0 h9); (exact hp_ne_len hp0len hp0opn (by decide) h9)) (by decide)
          refine lv_if_ne (tgt := 34) hx hb dX12_fact_29 (by decide) (fun c29 => ?_) (fun c29 => ?_)
          · have oc29 := iv_neq c29
            have r29tp : iv x26 1 1 := (iv_ne_lo c29 cx26 rfl).mono (by decide) (by decide)
            have or29tp := iv_o r29tp
            obtain ⟨eo26, hcO⟩ := R26_0 (by omega)
            rw [eg26] at hcO
            have hov := ovd_p hov (show y2_fp0_16.toInt = y2_fp0_16.toInt from rfl) (by omega) eo26 (show (11 : Int32) = 11 ∨ (11 : Int32) = 12 ∨ (11 : Int32) = 13 ∨ (11 : Int32) = 91 by decide)
            have hnb := nbin_p0 (O := OJ2) (show y2_fp0_16.toInt = y2_fp0_16.toInt from rfl) (by omega) eo26 (show (11 : Int32) = 11 ∨ (11 : Int32) = 91 by decide)
            refine lv_aload_n hx hb dX12_fact_34 rfl (lv_at hl 2 rfl) ?_
            refine hp_callev (va_runV (As := []) (rest := []) ⟨hx, hb, hml, hown, hts⟩ (sX12_passWord l D T ap0 x17p0 xp101 A Gm Tp ip0 bx17p0 c2_xp101) (cwV 0 hts gX12_fact_X12_passWord rfl rfl rfl (by decide +kernel) ⟨Nat.le_of_ble_eq_true rfl, Nat.le_of_ble_eq_true rfl⟩) (hp_preV hG hw hp0 rfl ⟨f_p0_8, f_p0_1⟩) rfl rfl hl.1 rfl (lv_room (Nat.le_of_ble_eq_true rfl)) dX12_fact_35 ⟨Nat.zero_le _, Nat.zero_le _⟩) hw (fun st35 t35 H35 locs35 eh35 eg35 bx35 hw => ?_)
            obtain ⟨x35p0, g35, on35, fx35p0, bx35p0, R35_0, R35_1⟩ := bx35
            rw [eh35, eg35] at g35 on35
            have hcO := hp_c.kept hcO (on35 _ (fun h9 => hp_ne_ao hp0opn hp0 h9))
            rw [eg35] at fx35p0
            have hkm := hkm.call g35 (by decide)
            have hon := hon.trans (hp_on.mono on35 (fun q h9 => by rcases h9 with rfl; exact Or.inl rfl))
            have f_p0_1 := g35 _ _ _ _ f_p0_1 (by decide)
            have f_p0_11 := g35 _ _ _ _ f_p0_11 (by decide)
            have f_p0_16 := g35 _ _ _ _ fx26p0 (by decide)
            have obx35p0 := iv_o bx35p0
            have hcs := cs.on (T := T) hcs on35 g35 (fun h9 => hp_ne_ao hp0sign hp0 h9) (fun h9 => hp_ne_ao hp0len hp0 h9) (by decide)
            have pg38 := R35_1 ch9
            refine lv_iconst (v := 1) hx hb dX12_fact_38 (by decide) ?_
            refine lv_istore_n (lv' := [(1, .int 1), (2, .int x9), (0, .ref ap0)]) hx hb dX12_fact_39 rfl hl (by decide) rfl (fun ls hl => ?_)
            refine lv_goto (tgt := 72) hx hb dX12_fact_40 (by decide) ?_
            refine lv_goto (tgt := 2) hx hb dX12_fact_72 (by decide) ?_
            exact ih2 (1 : Int32) x26p0 x35p0 (by omega) (show iv 1 0 1 from ⟨by decide, by decide⟩) c2_xp101 c2_xp102 bx26p0 bx35p0 (show xp100.toInt ≤ x35p0.toInt from by have := (bx35p0).1; have := (bx35p0).2; have : (0 : Int32).toInt = 0 := (by decide); omega) H35 locs35 hw hkm hon f_p0_1 f_p0_11 f_p0_16 fx35p0 (os_mk hcO hov hcs (by rw [hnb]) (by omega) (by omega)) _ (lv_sub hl [2, 0] rfl)
          · have oc29 := congrArg Int32.toInt c29
            have r29fp : iv x26 0 0 := (iv_both cx26 (iv_eq (show iv 0 0 0 from ⟨by decide, by decide⟩) c29)).mono (by decide) (by decide)
            have or29fp := iv_o r29fp
            refine lv_iconst (v := 0) hx hb dX12_fact_32 (by decide) ?_
            exact W.zret (v := 0) hx hb hr (iv_nz (show iv 0 0 1 from ⟨by decide, by decide⟩)) (fun t ht hW => ⟨some (.int 0), rfl, ⟨(0 : Int32), rfl, ⟨x17p0, x26p0, by rw [ht]; exact hkm, by rw [ht]; exact hon, by rw [ht]; exact f_p0_8, by rw [ht]; exact fx26p0, (show iv 0 0 1 from ⟨by decide, by decide⟩), bx17p0, bx26p0, (by intros; omega), (fun h9 => absurd k0 h9), (fun h9 => absurd k0 h9), (fun _ => by rw [ht]; exact cs.w hcs)⟩⟩, by rw [ht]; exact hw.1, hw.2.F ht⟩) hw.2.2.2 dX12_fact_33
  exact J2 _ (1 : Int32) xp103 xp100 (Nat.lt_succ_self _) (show iv 1 0 1 from ⟨by decide, by decide⟩) bp101 bp102 bp103 bp100 (show xp100.toInt ≤ xp100.toInt from by have := (bp100).1; have := (bp100).2; omega) s.heap [] hw hkm hon hB.2.1 hB.2.2.1 hB.2.2.2.1 hB.1 (os_mk hcO hov hcs (rfl) (by omega) (by omega)) _ (lv_sub hl [1, 0] rfl)
abbrev WX12_closes (p : Program) (l : Launch) (e : Env) (s : State) (m : MethodId) (below : List Frame) (meth : Method) (c : Code) (D : hp_D) (T : hp_T) (ap0 : Nat) (xp100 : Int32) (xp101 : Int32) (xp102 : Int32) (xp103 : Int32) (A : Nat → Nat) (Tp : Nat → Value) (gS0 : Nat → Int32) (gb : Int) (H : Heap) (locs : List Loc) (g : JFrame) : Prop := W p l e (headSpec wsX12_closes ({ frames := 2, cells := 0, slots := 0, locals := 43 })).room s m ([.ref ap0] : List Value).toArray below meth c H locs 0 0 (MQ below (hq_e D T (fun v st t => v = none ∧ ((∃ y0 y1 : Int32, hp_km D [(12, 8), (12, 13), (12, 16)] st.heap t.heap ∧ hp_on (fun q => q = ap0 ∨ q = A 1 ∨ q = A 2) st.heap t.heap ∧ hp_f D t.heap ap0 12 8 (.int y0) ∧ hp_f D t.heap ap0 12 16 (.int y1) ∧ iv y0 0 400 ∧ iv y1 0 400 ∧ (xp100.toInt ≤ y0.toInt) ∧ (os D t.heap ap0 A xp102 gS0 gb 1 y1.toInt y0.toInt))))) ([.ref ap0] : List Value).toArray s 0 0 (hp_F T)) g
set_option maxHeartbeats 4000000 in
set_option maxRecDepth 100000 in
theorem sX12_closes (l : Launch) (D : hp_D) (T : hp_T) (ap0 : Nat) (xp100 : Int32) (xp101 : Int32) (xp102 : Int32) (xp103 : Int32) (A : Nat → Nat) (Gm : moG) (Tp : Nat → Value) (ip0 : isMp T ap0 A Gm Tp) (gS0 : Nat → Int32) (gb : Int) (bp100 : iv xp100 0 400) (bp101 : iv xp101 0 400) (bp102 : iv xp102 0 5) (bp103 : iv xp103 0 400) : Met l yX12_closes wsX12_closes ({ frames := 2, cells := 0, slots := 0, locals := 43 }) (hp_Pc D T [.ref ap0] (fun H => hp_f D H ap0 12 8 (.int xp100) ∧ hp_f D H ap0 12 1 (.int xp101) ∧ hp_f D H ap0 12 11 (.int xp102) ∧ hp_f D H ap0 12 16 (.int xp103) ∧ os D H ap0 A xp102 gS0 gb 1 xp103.toInt xp100.toInt)) (hq_e D T (fun v st t => v = none ∧ ((∃ y0 y1 : Int32, hp_km D [(12, 8), (12, 13), (12, 16)] st.heap t.heap ∧ hp_on (fun q => q = ap0 ∨ q = A 1 ∨ q = A 2) st.heap t.heap ∧ hp_f D t.heap ap0 12 8 (.int y0) ∧ hp_f D t.heap ap0 12 16 (.int y1) ∧ iv y0 0 400 ∧ iv y1 0 400 ∧ (xp100.toInt ≤ y0.toInt) ∧ (os D t.heap ap0 A xp102 gS0 gb 1 y1.toInt y0.toInt))))) 0 0 (hp_F T) := by
  obtain ⟨gok, tpok, hp0, hp0tape, hp0sign, hp0len, hp0clause, hp0clauses, hp0read, hp0opn, hp0stack, hp0word, hp0said, hp0was, hp0fitting, hp0sums, hp0sort, hp0sumsBy, hp0oneOf, hp0otherOf, hp0kept, hp0images, hp0acts, hp0iUnd, hp0iFor, hp0iX, hp0made⟩ := id ip0
  have hpx := gok.1
  have gsok := gok.2.2.2.2
  have ggd := gok.2.2.2.1
  refine Met.ofW (cc := cX12_closes) (maxL := 1) (ret := none) (by decide) rfl ?_
  intro p e s m args below meth c s₁ B hml hv
  obtain ⟨rfl, hok, hG, hB⟩ := hv
  have hx := B.exec
  have hb := B.bytes
  have hr := B.returns
  have hts := atoms_spec (ws := wsX12_closes) B.pre
  have hown : s.vm.findClass RX12 = some m.cls := findClass_of_methodNamed B.named
  have hlocks := B.notSynchronized
  have hK := hG.1
  have hw : hp_w D T s s.heap [] := hp_w.rf hok
  have IX12 : ∀ w ∈ wsX120, w ∈ wsX12_closes := by decide +kernel
  have L162 := hts (.fieldLink RX12 162 "PalmCensusModel" "opened" "I") (by decide +kernel)
  have L159 := hts (.fieldLink RX12 159 "PalmCensusModel" "deep" "I") (by decide +kernel)
  have L99 := hts (.fieldLink RX12 99 "PalmCensusModel" "next" "I") (by decide +kernel)
  have hon : hp_on (fun q => q = ap0 ∨ q = A 1 ∨ q = A 2) s.heap s.heap := fun _ _ => rfl
  have k0 : (0 : Int32).toInt = 0 := (by decide)
  have k1 : (1 : Int32).toInt = 1 := (by decide)
  have k3 : (3 : Int32).toInt = 3 := (by decide)
  have k93 : (93 : Int32).toInt = 93 := (by decide)
  have obp100 := iv_o bp100
  have obp101 := iv_o bp101
  have obp102 := iv_o bp102
  have obp103 := iv_o bp103
  obtain ⟨O0, hcO, hov, hcs⟩ := hB.2.2.2.2
  have hkm : hp_km D [(12, 8), (12, 13), (12, 16)] s.heap s.heap := fun _ _ _ _ h _ => h
  have hl := lv_entry ([.ref ap0]) (n := 1) (Nat.le_of_ble_eq_true rfl)
  rw [lg_entry_eq]
  generalize (lg_sl ([.ref ap0]) ++ List.replicate (1 - (lg_sl ([.ref ap0])).length) Slot.unset).toArray = ls at hl ⊢
  have hl : lv_has ls 1 [(0, .ref ap0)] := hl
  show WX12_closes p l e s m below meth c D T ap0 xp100 xp101 xp102 xp103 A Tp gS0 gb s.heap [] (F0 m 0 ls [])
  have obp100 := iv_o bp100
  have obp101 := iv_o bp101
  have obp102 := iv_o bp102
  have obp103 := iv_o bp103
  refine lv_aload_n hx hb dX12_closes_0 rfl (lv_at hl 0 rfl) ?_
  refine lv_iconst (v := 3) hx hb dX12_closes_1 (by decide) ?_
  refine hp_callev (va_runV (As := [.int 3]) (rest := []) ⟨hx, hb, hml, hown, hts⟩ (sX12_settles l D T ap0 (3 : Int32) xp103 xp102 A Gm Tp ip0 gS0 gb 0 (xp100.toInt - xp103.toInt) O0 hov (by omega) (show iv 3 1 3 from ⟨by decide, by decide⟩) bp103 bp102) (cwV 1 hts gX12_closes_X12_settles rfl rfl rfl (by decide +kernel) ⟨Nat.le_of_ble_eq_true rfl, Nat.le_of_ble_eq_true rfl⟩) (hp_preV hG hw hp0 rfl ⟨hB.2.2.2.1, hB.2.2.1, hcO, (cs.hh hcs (by first | rfl | omega))⟩) rfl rfl hl.1 rfl (lv_room (Nat.le_of_ble_eq_true rfl)) dX12_closes_2 ⟨Nat.zero_le _, Nat.zero_le _⟩) hw (fun st2 t2 H2 locs2 eh2 eg2 bx2 hw => ?_)
  obtain ⟨x2p0, g2, on2, fx2p0, bx2p0, R2_0, R2_1, R2_2, R2_3⟩ := bx2
  rw [eh2, eg2] at g2 on2
  have hcO := hp_c.kept hcO (on2 _ (fun h9 => by rcases h9 with h9 | h9 | h9; (exact hp_ne_ao hp0opn hp0 h9); (exact hp_ne_len hp0opn hp0sign (by decide) h9); (exact hp_ne_len hp0opn hp0len (by decide) h9)))
  rw [eg2] at fx2p0
  have hkm := hkm.call g2 (by decide)
  have hon := hon.trans on2
  have f_p0_8 := g2 _ _ _ _ hB.1 (by decide)
  have f_p0_1 := g2 _ _ _ _ hB.2.1 (by decide)
  have f_p0_11 := g2 _ _ _ _ hB.2.2.1 (by decide)
  have obx2p0 := iv_o bx2p0
  have hcs := R2_1
  rw [eg2] at hcs
  have hov := ovd_le hov R2_0
  have J5 : ∀ (n : Nat) (y5_fp0_16 y5_fp0_8 : Int32), (400 - y5_fp0_8.toInt).toNat < n → iv xp101 0 400 → iv xp102 0 5 → iv y5_fp0_16 0 400 → iv y5_fp0_8 0 400 → (xp100.toInt ≤ y5_fp0_8.toInt) → ∀ (H : Heap) (locs : List Loc), hp_w D T s H locs → hp_km D [(12, 8), (12, 13), (12, 16)] s.heap H → hp_on (fun q => q = ap0 ∨ q = A 1 ∨ q = A 2) s.heap H → hp_f D H ap0 12 1 (.int xp101) → hp_f D H ap0 12 11 (.int xp102) → hp_f D H ap0 12 16 (.int y5_fp0_16) → hp_f D H ap0 12 8 (.int y5_fp0_8) → (os D H ap0 A xp102 gS0 gb 1 (y5_fp0_16.toInt) (y5_fp0_8.toInt)) → ∀ (ls : Array Slot), lv_has ls 1 [(0, .ref ap0)] → WX12_closes p l e s m below meth c D T ap0 xp100 xp101 xp102 xp103 A Tp gS0 gb H locs (F0 m 5 ls []) := by
    intro n
    induction n with
    | zero => intro y5_fp0_16 y5_fp0_8 hmu5 c5_xp101 c5_xp102 c5_y5_fp0_16 c5_y5_fp0_8 hv5_0 H5 locs5 hw hkm hon f_p0_1 f_p0_11 f_p0_16 f_p0_8 hos ls hl; exact absurd hmu5 (Nat.not_lt_zero _)
    | succ n ih5 =>
      intro y5_fp0_16 y5_fp0_8 hmu5 c5_xp101 c5_xp102 c5_y5_fp0_16 c5_y5_fp0_8 hv5_0 H5 locs5 hw hkm hon f_p0_1 f_p0_11 f_p0_16 f_p0_8 hos ls hl
      have oc5_xp101 := iv_o c5_xp101
      have oc5_xp102 := iv_o c5_xp102
      have oc5_y5_fp0_16 := iv_o c5_y5_fp0_16
      have oc5_y5_fp0_8 := iv_o c5_y5_fp0_8
      obtain ⟨OJ5, hcO, hov, hcs⟩ := hos
      refine lv_aload_n hx hb dX12_closes_5 rfl (lv_at hl 0 rfl) ?_
      refine hp_callei (va_runV (As := []) (rest := []) ⟨hx, hb, hml, hown, hts⟩ (sX12_see_x l D T ap0 y5_fp0_8 xp101 A Gm Tp ip0 c5_y5_fp0_8 c5_xp101) (cwV 0 hts gX12_closes_X12_see rfl rfl rfl (by decide +kernel) ⟨Nat.le_of_ble_eq_true rfl, Nat.le_of_ble_eq_true rfl⟩) (hp_preV hG hw hp0 rfl ⟨f_p0_8, f_p0_1⟩) rfl rfl hl.1 rfl (lv_room (Nat.le_of_ble_eq_true rfl)) dX12_closes_6 ⟨Nat.zero_le _, Nat.zero_le _⟩) hw (fun x6 st6 t6 H6 locs6 eh6 eg6 bx6 hw => ?_)
      obtain ⟨x6p0, g6, on6, fx6p0, cx6, bx6p0, R6_0, R6_1, R6_2, R6_3⟩ := bx6
      rw [eh6, eg6] at g6 on6
      have hcO := hp_c.kept hcO (on6 _ (fun h9 => hp_ne_ao hp0opn hp0 h9))
      rw [eg6] at fx6p0
      have hkm := hkm.call g6 (by decide)
      have hon := hon.trans (hp_on.mono on6 (fun q h9 => by rcases h9 with rfl; exact Or.inl rfl))
      have f_p0_1 := g6 _ _ _ _ f_p0_1 (by decide)
      have f_p0_11 := g6 _ _ _ _ f_p0_11 (by decide)
      have f_p0_16 := g6 _ _ _ _ f_p0_16 (by decide)
      have obx6p0 := iv_o bx6p0
      have ocx6 := iv_o cx6
      have hcs := cs.on (T := T) hcs on6 g6 (fun h9 => hp_ne_ao hp0sign hp0 h9) (fun h9 => hp_ne_ao hp0len hp0 h9) (by decide)
      refine lv_bipush (v := 93) hx hb dX12_closes_9 (by decide) ?_
      refine lv_icmp_ne (tgt := 64) hx hb dX12_closes_11 (by decide) (fun c11 => ?_) (fun c11 => ?_)
      · have oc11 := iv_neq c11
        exact W.vret hx hb hr (fun t ht hW => ⟨none, rfl, ⟨rfl, ⟨x6p0, y5_fp0_16, by rw [ht]; exact hkm, by rw [ht]; exact hon, by rw [ht]; exact fx6p0, by rw [ht]; exact f_p0_16, bx6p0, c5_y5_fp0_16, (by intros; omega), (by rw [ht]; exact os_mk hcO hov hcs (by first | rfl | omega) (by omega) (by omega))⟩⟩, by rw [ht]; exact hw.1, hw.2.F ht⟩) hw.2.2.2 dX12_closes_64
      · have oc11 := congrArg Int32.toInt c11
        have r11fp : iv x6 93 93 := (iv_both cx6 (iv_eq (show iv 93 93 93 from ⟨by decide, by decide⟩) c11)).mono (by decide) (by decide)
        have or11fp := iv_o r11fp
        refine lv_aload_n hx hb dX12_closes_14 rfl (lv_at hl 0 rfl) ?_
        refine hp_callpi (va_runV (As := []) (rest := []) ⟨hx, hb, hml, hown, hts⟩ (sX12_isInside l D T ap0 y5_fp0_16 A Gm Tp ip0 OJ5 c5_y5_fp0_16) (cwV 0 hts gX12_closes_X12_isInside rfl rfl rfl (by decide +kernel) ⟨Nat.le_of_ble_eq_true rfl, Nat.le_of_ble_eq_true rfl⟩) (hp_preV hG hw hp0 rfl ⟨f_p0_16, hcO⟩) rfl rfl hl.1 rfl (lv_room (Nat.le_of_ble_eq_true rfl)) dX12_closes_15 ⟨Nat.zero_le _, Nat.zero_le _⟩) (fun x15 bx15 => ?_)
        obtain ⟨cx15, R15_0, R15_1⟩ := bx15
        have ocx15 := iv_o cx15
        refine lv_if_eq (tgt := 64) hx hb dX12_closes_18 (by decide) (fun c18 => ?_) (fun c18 => ?_)
        · have oc18 := congrArg Int32.toInt c18
          have r18tp : iv x15 0 0 := (iv_both cx15 (iv_eq (show iv 0 0 0 from ⟨by decide, by decide⟩) c18)).mono (by decide) (by decide)
          have or18tp := iv_o r18tp
          exact W.vret hx hb hr (fun t ht hW => ⟨none, rfl, ⟨rfl, ⟨x6p0, y5_fp0_16, by rw [ht]; exact hkm, by rw [ht]; exact hon, by rw [ht]; exact fx6p0, by rw [ht]; exact f_p0_16, bx6p0, c5_y5_fp0_16, (by intros; omega), (by rw [ht]; exact os_mk hcO hov hcs (by first | rfl | omega) (by omega) (by omega))⟩⟩, by rw [ht]; exact hw.1, hw.2.F ht⟩) hw.2.2.2 dX12_closes_64
        · have oc18 := iv_neq c18
          have r18fp : iv x15 1 1 := (iv_ne_lo c18 cx15 rfl).mono (by decide) (by decide)
          have or18fp := iv_o r18fp
          have in9 := R15_0 c18
          refine lv_aload_n hx hb dX12_closes_21 rfl (lv_at hl 0 rfl) ?_
          refine lv_iconst (v := 1) hx hb dX12_closes_22 (by decide) ?_
          refine hp_callev (va_runV (As := [.int 1]) (rest := []) ⟨hx, hb, hml, hown, hts⟩ (sX12_settles l D T ap0 (1 : Int32) y5_fp0_16 xp102 A Gm Tp ip0 gS0 gb 0 (y5_fp0_8.toInt - y5_fp0_16.toInt) OJ5 hov (by omega) (show iv 1 1 3 from ⟨by decide, by decide⟩) c5_y5_fp0_16 c5_xp102) (cwV 1 hts gX12_closes_X12_settles rfl rfl rfl (by decide +kernel) ⟨Nat.le_of_ble_eq_true rfl, Nat.le_of_ble_eq_true rfl⟩) (hp_preV hG hw hp0 rfl ⟨f_p0_16, f_p0_11, hcO, (cs.hh hcs (by first | rfl | omega))⟩) rfl rfl hl.1 rfl (lv_room (Nat.le_of_ble_eq_true rfl)) dX12_closes_23 ⟨Nat.zero_le _, Nat.zero_le _⟩) hw (fun st23 t23 H23 locs23 eh23 eg23 bx23 hw => ?_)
          obtain ⟨x23p0, g23, on23, fx23p0, bx23p0, R23_0, R23_1, R23_2, R23_3⟩ := bx23
          rw [eh23, eg23] at g23 on23
          have hcO := hp_c.kept hcO (on23 _ (fun h9 => by rcases h9 with h9 | h9 | h9; (exact hp_ne_ao hp0opn hp0 h9); (exact hp_ne_len hp0opn hp0sign (by decide) h9); (exact hp_ne_len hp0opn hp0len (by decide) h9)))
          rw [eg23] at fx23p0
          have hkm := hkm.call g23 (by decide)
          have hon := hon.trans on23
          have f_p0_1 := g23 _ _ _ _ f_p0_1 (by decide)
          have f_p0_11 := g23 _ _ _ _ f_p0_11 (by decide)
          have f_p0_8 := g23 _ _ _ _ fx6p0 (by decide)
          have obx23p0 := iv_o bx23p0
          have hcs := R23_1
          rw [eg23] at hcs
          have hov := ovd_le hov R23_0
          have tp9 := in_top in9 R23_2 (R23_3 k1) (by omega)
          have tp8 := tp9.1
          have wq26 : iv x23p0 1 400 := ⟨by omega, by omega⟩
          have owq26 := iv_o wq26
          have w26 : iv x6p0 0 399 := ⟨by omega, by omega⟩
          have ow26 := iv_o w26
          refine lv_aload_n hx hb dX12_closes_26 rfl (lv_at hl 0 rfl) ?_
          refine lv_dup hx hb dX12_closes_27 rfl ?_
          refine hp_getf hx hb hts IX12 hown hK fx23p0 rfl (by decide) L162 dX12_closes_28 ?_
          refine lv_iconst (v := 1) hx hb dX12_closes_31 (by decide) ?_
          refine lv_isub hx hb dX12_closes_32 ?_
          refine lv_topi (fun x32 ex32 => ?_)
          have bx32 : iv x32 0 399 := iv_sub wq26 (show iv 1 1 1 from ⟨by decide, by decide⟩) ex32 (by decide)
          have obx32 := iv_o bx32
          have qx32 := iv_sub_eq wq26 (show iv 1 1 1 from ⟨by decide, by decide⟩) ex32 (by decide)
          refine hp_putE hx hb hts IX12 tyX12 tyX12_ok nmX12 hown hK hw hp0 rfl 16 (by decide) L162 rfl rfl ⟨_, rfl, (bx32.mono (by decide) (by decide))⟩ rfl rfl dX12_closes_33 (fun H33 locs33 hw f33n g33 on33 => ?_)
          have hon := hon.trans (hp_on.mono (show hp_on (fun q => q = ap0) _ _ from on33) (fun q h9 => by rcases h9 with rfl; exact Or.inl rfl))
          have hcO := hp_c.kept hcO (on33 _ (fun h9 => hp_ne_ao hp0opn hp0 h9))
          have hcs := cs.put hcs g33 on33 (hp_ne_ao hp0sign hp0) (hp_ne_ao hp0len hp0) (by decide)
          have hkm := hkm.put g33 (by decide)
          have f_p0_1 := g33 _ _ _ _ f_p0_1 (Or.inr ⟨rfl, by decide⟩)
          have f_p0_11 := g33 _ _ _ _ f_p0_11 (Or.inr ⟨rfl, by decide⟩)
          have f_p0_8 := g33 _ _ _ _ f_p0_8 (Or.inr ⟨rfl, by decide⟩)
          refine lv_aload_n hx hb dX12_closes_36 rfl (lv_at hl 0 rfl) ?_
          refine lv_dup hx hb dX12_closes_37 rfl ?_
          refine hp_getA hx hb hts IX12 hown hK hw.1 hp0 rfl 13 (by decide) L159 rfl dX12_closes_38 (fun x38 fx38 => ?_)
          refine lv_iconst (v := 1) hx hb dX12_closes_41 (by decide) ?_
          refine lv_isub hx hb dX12_closes_42 ?_
          refine lv_topi (fun x42 ex42 => ?_)
          refine hp_putE hx hb hts IX12 tyX12 tyX12_ok nmX12 hown hK hw hp0 rfl 13 (by decide) L159 rfl rfl ⟨_, rfl⟩ rfl rfl dX12_closes_43 (fun H43 locs43 hw f43n g43 on43 => ?_)
          have hon := hon.trans (hp_on.mono (show hp_on (fun q => q = ap0) _ _ from on43) (fun q h9 => by rcases h9 with rfl; exact Or.inl rfl))
          have hcO := hp_c.kept hcO (on43 _ (fun h9 => hp_ne_ao hp0opn hp0 h9))
          have hcs := cs.put hcs g43 on43 (hp_ne_ao hp0sign hp0) (hp_ne_ao hp0len hp0) (by decide)
          have hkm := hkm.put g43 (by decide)
          have f_p0_1 := g43 _ _ _ _ f_p0_1 (Or.inr ⟨rfl, by decide⟩)
          have f_p0_11 := g43 _ _ _ _ f_p0_11 (Or.inr ⟨rfl, by decide⟩)
          have f_p0_8 := g43 _ _ _ _ f_p0_8 (Or.inr ⟨rfl, by decide⟩)
          have f_p0_16 := g43 _ _ _ _ f33n (Or.inr ⟨rfl, by decide⟩)
          refine lv_aload_n hx hb dX12_closes_46 rfl (lv_at hl 0 rfl) ?_
          refine lv_dup hx hb dX12_closes_47 rfl ?_
          refine hp_getf hx hb hts IX12 hown hK f_p0_8 rfl (by decide) L99 dX12_closes_48 ?_
          refine lv_iconst (v := 1) hx hb dX12_closes_51 (by decide) ?_
          refine lv_iadd hx hb dX12_closes_52 ?_
          refine lv_topi (fun x52 ex52 => ?_)
          have bx52 : iv x52 1 400 := iv_add w26 (show iv 1 1 1 from ⟨by decide, by decide⟩) ex52 (by decide)
          have obx52 := iv_o bx52
          have qx52 := iv_add_eq w26 (show iv 1 1 1 from ⟨by decide, by decide⟩) ex52 (by decide)
          refine hp_putE hx hb hts IX12 tyX12 tyX12_ok nmX12 hown hK hw hp0 rfl 8 (by decide) L99 rfl rfl ⟨_, rfl, (bx52.mono (by decide) (by decide))⟩ rfl rfl dX12_closes_53 (fun H53 locs53 hw f53n g53 on53 => ?_)
          have hon := hon.trans (hp_on.mono (show hp_on (fun q => q = ap0) _ _ from on53) (fun q h9 => by rcases h9 with rfl; exact Or.inl rfl))
          have hcO := hp_c.kept hcO (on53 _ (fun h9 => hp_ne_ao hp0opn hp0 h9))
          have hcs := cs.put hcs g53 on53 (hp_ne_ao hp0sign hp0) (hp_ne_ao hp0len hp0) (by decide)
          have hkm := hkm.put g53 (by decide)
          have f_p0_1 := g53 _ _ _ _ f_p0_1 (Or.inr ⟨rfl, by decide⟩)
          have f_p0_11 := g53 _ _ _ _ f_p0_11 (Or.inr ⟨rfl, by decide⟩)
          have f_p0_16 := g53 _ _ _ _ f_p0_16 (Or.inr ⟨rfl, by decide⟩)
          have hnb := nbin_d (O := OJ5) (q := x23p0.toInt) (q' := x32.toInt) (by omega) tp8 tp9.2
          have hcs := cs.hh hcs (show 0 + 1 + nbin OJ5 (x23p0.toInt).toNat = 0 + 1 + nbin OJ5 (x32.toInt).toNat by rw [hnb])
          have hov := ovd_le (q' := x32.toInt) hov (by omega)
          refine lv_aload_n hx hb dX12_closes_56 rfl (lv_at hl 0 rfl) ?_
          refine lv_iconst (v := 3) hx hb dX12_closes_57 (by decide) ?_
          refine hp_callev (va_runV (As := [.int 3]) (rest := []) ⟨hx, hb, hml, hown, hts⟩ (sX12_settles l D T ap0 (3 : Int32) x32 xp102 A Gm Tp ip0 gS0 gb 0 (y5_fp0_8.toInt - y5_fp0_16.toInt + (y5_fp0_16.toInt - x23p0.toInt)) OJ5 hov (by omega) (show iv 3 1 3 from ⟨by decide, by decide⟩) (bx32.mono (by decide) (by decide)) c5_xp102) (cwV 1 hts gX12_closes_X12_settles rfl rfl rfl (by decide +kernel) ⟨Nat.le_of_ble_eq_true rfl, Nat.le_of_ble_eq_true rfl⟩) (hp_preV hG hw hp0 rfl ⟨f_p0_16, f_p0_11, hcO, (cs.hh hcs (by first | rfl | omega))⟩) rfl rfl hl.1 rfl (lv_room (Nat.le_of_ble_eq_true rfl)) dX12_closes_58 ⟨Nat.zero_le _, Nat.zero_le _⟩) hw (fun st58 t58 H58 locs58 eh58 eg58 bx58 hw => ?_)
          obtain ⟨x58p0, g58, on58, fx58p0, bx58p0, R58_0, R58_1, R58_2, R58_3⟩ := bx58
          rw [eh58, eg58] at g58 on58
          have hcO := hp_c.kept hcO (on58 _ (fun h9 => by rcases h9 with h9 | h9 | h9; (exact hp_ne_ao hp0opn hp0 h9); (exact hp_ne_len hp0opn hp0sign (by decide) h9); (exact hp_ne_len hp0opn hp0len (by decide) h9)))
          rw [eg58] at fx58p0
          have hkm := hkm.call g58 (by decide)
          have hon := hon.trans on58
          have f_p0_1 := g58 _ _ _ _ f_p0_1 (by decide)
          have f_p0_11 := g58 _ _ _ _ f_p0_11 (by decide)
          have f_p0_8 := g58 _ _ _ _ f53n (by decide)
          have obx58p0 := iv_o bx58p0
          have hcs := R58_1
          rw [eg58] at hcs
          have hov := ovd_le hov R58_0
          refine lv_goto (tgt := 5) hx hb dX12_closes_61 (by decide) ?_
          exact ih5 x58p0 x52 (by omega) c5_xp101 c5_xp102 bx58p0 (bx52.mono (by decide) (by decide)) (show xp100.toInt ≤ x52.toInt from by have := (bx52).1; have := (bx52).2; have := (w26).1; have := (w26).2; have : (0 : Int32).toInt = 0 := (by decide); have : (1 : Int32).toInt = 1 := (by decide); omega) H58 locs58 hw hkm hon f_p0_1 f_p0_11 fx58p0 f_p0_8 (os_mk hcO hov hcs (by first | rfl | omega) (by omega) (by omega)) _ (lv_sub hl [0] rfl)
  exact J5 _ x2p0 xp100 (Nat.lt_succ_self _) bp101 bp102 bx2p0 bp100 (show xp100.toInt ≤ xp100.toInt from by have := (bp100).1; have := (bp100).2; omega) H2 locs2 hw hkm hon f_p0_1 f_p0_11 fx2p0 f_p0_8 (os_mk hcO hov hcs (by first | rfl | omega) (by omega) (by omega)) _ (lv_sub hl [0] rfl)
