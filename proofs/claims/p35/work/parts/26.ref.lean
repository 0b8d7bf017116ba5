abbrev WX12_goesThrough (p : Program) (l : Launch) (e : Env) (s : State) (m : MethodId) (below : List Frame) (meth : Method) (c : Code) (D : hp_D) (T : hp_T) (ap0 : Nat) (H : Heap) (locs : List Loc) (g : JFrame) : Prop := W p l e (headSpec wsX12_goesThrough ({ frames := 4, cells := 0, slots := 0, locals := 90 })).room s m ([.ref ap0] : List Value).toArray below meth c H locs 0 0 (MQ below (hq_e D T (fun v st t => ∃ r : Int32, v = some (.int r) ∧ ((iv r 0 1) ∧ hp_km D [(12, 32), (12, 33), (12, 34), (12, 35)] st.heap t.heap))) ([.ref ap0] : List Value).toArray s 0 0 (hp_F T)) g
set_option maxHeartbeats 4000000 in
set_option maxRecDepth 100000 in
theorem sX12_goesThrough (l : Launch) (D : hp_D) (T : hp_T) (ap0 : Nat) (Gm : moG) (ip0 : isMo T ap0 Gm) : Met l yX12_goesThrough wsX12_goesThrough ({ frames := 4, cells := 0, slots := 0, locals := 90 }) (hp_Pc D T [.ref ap0] (fun _ => True)) (hq_e D T (fun v st t => ∃ r : Int32, v = some (.int r) ∧ ((iv r 0 1) ∧ hp_km D [(12, 32), (12, 33), (12, 34), (12, 35)] st.heap t.heap))) 0 0 (hp_F T) := by
  obtain ⟨ap0tape, ap0sign, ap0len, ap0clause, ap0clauses, ap0read, ap0opn, ap0stack, ap0word, ap0said, ap0was, ap0fitting, ap0sums, ap0sort, ap0sumsBy, ap0oneOf, ap0otherOf, ap0kept, ap0images, ap0acts, ap0iUnd, ap0iFor, ap0iX, ap0made, gok, hp0, hp0tape, hp0sign, hp0len, hp0clause, hp0clauses, hp0read, hp0opn, hp0stack, hp0word, hp0said, hp0was, hp0fitting, hp0sums, hp0sort, hp0sumsBy, hp0oneOf, hp0otherOf, hp0kept, hp0images, hp0acts, hp0iUnd, hp0iFor, hp0iX, hp0made⟩ := id ip0
  have hpx := gok.1
  have gsok := gok.2.2.2.2
  have ggd := gok.2.2.2.1
  refine Met.ofW (cc := cX12_goesThrough) (maxL := 2) (ret := (some .boolean)) (by decide) rfl ?_
  intro p e s m args below meth c s₁ B hml hv
  obtain ⟨rfl, hok, hG, hB⟩ := hv
  have hx := B.exec
  have hb := B.bytes
  have hr := B.returns
  have hts := atoms_spec (ws := wsX12_goesThrough) B.pre
  have hown : s.vm.findClass RX12 = some m.cls := findClass_of_methodNamed B.named
  have hlocks := B.notSynchronized
  have hK := hG.1
  have hw : hp_w D T s s.heap [] := hp_w.rf hok
  have IX12 : ∀ w ∈ wsX120, w ∈ wsX12_goesThrough := by decide +kernel
  have L403 := hts (.fieldLink RX12 403 "PalmCensusModel" "twos" "I") (by decide +kernel)
  have L409 := hts (.fieldLink RX12 409 "PalmCensusModel" "sets" "I") (by decide +kernel)
  have L412 := hts (.fieldLink RX12 412 "PalmCensusModel" "inAll" "I") (by decide +kernel)
  have L415 := hts (.fieldLink RX12 415 "PalmCensusModel" "inSome" "I") (by decide +kernel)
  have hkm : hp_km D [(12, 32), (12, 33), (12, 34), (12, 35)] s.heap s.heap := fun _ _ _ _ h _ => h
  have hl := lv_entry ([.ref ap0]) (n := 2) (Nat.le_of_ble_eq_true rfl)
  rw [lg_entry_eq]
  generalize (lg_sl ([.ref ap0]) ++ List.replicate (2 - (lg_sl ([.ref ap0])).length) Slot.unset).toArray = ls at hl ⊢
  have hl : lv_has ls 2 [(0, .ref ap0)] := hl
  show WX12_goesThrough p l e s m below meth c D T ap0 s.heap [] (F0 m 0 ls [])
  obtain ⟨x9000op0_32, bx9000op0_32, fx9000op0_32⟩ := hp_opI hw.1 hp0 32 rfl
  refine lv_aload_n hx hb dX12_goesThrough_0 rfl (lv_at hl 0 rfl) ?_
  refine hp_callev (va_runV (As := []) (rest := []) ⟨hx, hb, hml, hown, hts⟩ (sX12_gathersTwos l D T ap0 Gm ip0) (cwV 0 hts gX12_goesThrough_X12_gathersTwos rfl rfl rfl (by decide +kernel) ⟨Nat.le_of_ble_eq_true rfl, Nat.le_of_ble_eq_true rfl⟩) (hp_preV hG hw hp0 rfl trivial) rfl rfl hl.1 rfl (lv_room (Nat.le_of_ble_eq_true rfl)) dX12_goesThrough_1 ⟨Nat.zero_le _, Nat.zero_le _⟩) hw (fun st1 t1 H1 locs1 eh1 eg1 bx1 hw => ?_)
  obtain ⟨bx1, g1⟩ := bx1
  rw [eh1, eg1] at g1
  have hkm := hkm.call g1 (by decide)
  obtain ⟨x1op0_32, bx1op0_32, fx1op0_32⟩ := hp_opI hw.1 hp0 32 rfl
  refine lv_aload_n hx hb dX12_goesThrough_4 rfl (lv_at hl 0 rfl) ?_
  refine hp_getf hx hb hts IX12 hown hK fx1op0_32 rfl (by decide) L403 dX12_goesThrough_5 ?_
  refine lv_bipush (v := 16) hx hb dX12_goesThrough_8 (by decide) ?_
  refine lv_icmp_le (tgt := 15) hx hb dX12_goesThrough_10 (by decide) (fun c10 => ?_) (fun c10 => ?_)
  · have r10tp : iv x1op0_32 0 16 := (iv_le_l c10 bx1op0_32 (show iv 16 16 16 from ⟨by decide, by decide⟩)).mono (by decide) (by decide)
    refine lv_aload_n hx hb dX12_goesThrough_15 rfl (lv_at hl 0 rfl) ?_
    refine lv_iconst (v := 0) hx hb dX12_goesThrough_16 (by decide) ?_
    refine hp_put hx hb hts IX12 tyX12 tyX12_ok nmX12 hown hK hw hp0 rfl 35 (by decide) L409 rfl rfl ⟨_, rfl⟩ rfl rfl dX12_goesThrough_17 (fun H17 locs17 hw f17n g17 => ?_)
    have hkm := hkm.put g17 (by decide)
    have f_p0_32 := g17 _ _ _ _ fx1op0_32 (Or.inr ⟨rfl, by decide⟩)
    refine lv_aload_n hx hb dX12_goesThrough_20 rfl (lv_at hl 0 rfl) ?_
    refine lv_iconst (v := 1) hx hb dX12_goesThrough_21 (by decide) ?_
    refine lv_aload_n hx hb dX12_goesThrough_22 rfl (lv_at hl 0 rfl) ?_
    refine hp_getf hx hb hts IX12 hown hK f_p0_32 rfl (by decide) L403 dX12_goesThrough_23 ?_
    refine lv_ishl hx hb dX12_goesThrough_26 ?_
    refine lv_topi (fun x26 ex26 => ?_)
    have bx26 : iv x26 1 65536 := iv_shl 16 (show iv 1 1 1 from ⟨by decide, by decide⟩) r10tp ex26 (by decide)
    refine lv_iconst (v := 1) hx hb dX12_goesThrough_27 (by decide) ?_
    refine lv_isub hx hb dX12_goesThrough_28 ?_
    refine lv_topi (fun x28 ex28 => ?_)
    have bx28 : iv x28 0 65535 := iv_sub bx26 (show iv 1 1 1 from ⟨by decide, by decide⟩) ex28 (by decide)
    have qx28 := iv_sub_eq bx26 (show iv 1 1 1 from ⟨by decide, by decide⟩) ex28 (by decide)
    refine hp_put hx hb hts IX12 tyX12 tyX12_ok nmX12 hown hK hw hp0 rfl 33 (by decide) L412 rfl rfl ⟨_, rfl⟩ rfl rfl dX12_goesThrough_29 (fun H29 locs29 hw f29n g29 => ?_)
    have hkm := hkm.put g29 (by decide)
    have f_p0_32 := g29 _ _ _ _ f_p0_32 (Or.inr ⟨rfl, by decide⟩)
    refine lv_aload_n hx hb dX12_goesThrough_32 rfl (lv_at hl 0 rfl) ?_
    refine lv_iconst (v := 0) hx hb dX12_goesThrough_33 (by decide) ?_
    refine hp_put hx hb hts IX12 tyX12 tyX12_ok nmX12 hown hK hw hp0 rfl 34 (by decide) L415 rfl rfl ⟨_, rfl⟩ rfl rfl dX12_goesThrough_34 (fun H34 locs34 hw f34n g34 => ?_)
    have hkm := hkm.put g34 (by decide)
    have f_p0_32 := g34 _ _ _ _ f_p0_32 (Or.inr ⟨rfl, by decide⟩)
    refine lv_iconst (v := 0) hx hb dX12_goesThrough_37 (by decide) ?_
    refine lv_istore_n (lv' := [(1, .int 0), (0, .ref ap0)]) hx hb dX12_goesThrough_38 rfl hl (by decide) rfl (fun ls hl => ?_)
    have J39 : ∀ (n : Nat) (y39_l1 y39_fp0_32 : Int32), (99999 - y39_l1.toInt).toNat < n → iv y39_l1 0 99999 → iv y39_fp0_32 0 16 → ∀ (H : Heap) (locs : List Loc), hp_w D T s H locs → hp_km D [(12, 32), (12, 33), (12, 34), (12, 35)] s.heap H → hp_f D H ap0 12 32 (.int y39_fp0_32) → ∀ (ls : Array Slot), lv_has ls 2 [(0, .ref ap0), (1, .int y39_l1)] → WX12_goesThrough p l e s m below meth c D T ap0 H locs (F0 m 39 ls []) := by
      intro n
      induction n with
      | zero => intro y39_l1 y39_fp0_32 hmu39 c39_y39_l1 c39_y39_fp0_32 H39 locs39 hw hkm f_p0_32 ls hl; exact absurd hmu39 (Nat.not_lt_zero _)
      | succ n ih39 =>
        intro y39_l1 y39_fp0_32 hmu39 c39_y39_l1 c39_y39_fp0_32 H39 locs39 hw hkm f_p0_32 ls hl
        refine lv_iload_n hx hb dX12_goesThrough_39 rfl (lv_at hl 1 rfl) ?_
        refine lv_iconst (v := 1) hx hb dX12_goesThrough_40 (by decide) ?_
        refine lv_aload_n hx hb dX12_goesThrough_41 rfl (lv_at hl 0 rfl) ?_
        refine hp_getf hx hb hts IX12 hown hK f_p0_32 rfl (by decide) L403 dX12_goesThrough_42 ?_
        refine lv_ishl hx hb dX12_goesThrough_45 ?_
        refine lv_topi (fun x45 ex45 => ?_)
        have bx45 : iv x45 1 65536 := iv_shl 16 (show iv 1 1 1 from ⟨by decide, by decide⟩) c39_y39_fp0_32 ex45 (by decide)
        refine lv_icmp_ge (tgt := 96) hx hb dX12_goesThrough_46 (by decide) (fun c46 => ?_) (fun c46 => ?_)
        · have r46tq : iv y39_l1 1 99999 := (iv_le_r c46 bx45 c39_y39_l1).mono (by decide) (by decide)
          refine lv_iconst (v := 1) hx hb dX12_goesThrough_96 (by decide) ?_
          exact W.zret (v := 1) hx hb hr (iv_nz (show iv 1 0 1 from ⟨by decide, by decide⟩)) (fun t ht hW => ⟨some (.int 1), rfl, ⟨(1 : Int32), rfl, ⟨(show iv 1 0 1 from ⟨by decide, by decide⟩), by rw [ht]; exact hkm⟩⟩, by rw [ht]; exact hw.1, hw.2.F ht⟩) hw.2.2.2 dX12_goesThrough_97
        · have r46fp : iv y39_l1 0 65535 := (iv_lt_l (iv_nle c46) c39_y39_l1 bx45).mono (by decide) (by decide)
          refine lv_aload_n hx hb dX12_goesThrough_49 rfl (lv_at hl 0 rfl) ?_
          refine lv_iload_n hx hb dX12_goesThrough_50 rfl (lv_at hl 1 rfl) ?_
          refine hp_callpi (va_runV (As := [.int y39_l1]) (rest := []) ⟨hx, hb, hml, hown, hts⟩ (sX12_areSo l D T ap0 y39_l1 Gm ip0) (cwV 1 hts gX12_goesThrough_X12_areSo rfl rfl rfl (by decide +kernel) ⟨Nat.le_of_ble_eq_true rfl, Nat.le_of_ble_eq_true rfl⟩) (hp_preV hG hw hp0 rfl trivial) rfl rfl hl.1 rfl (lv_room (Nat.le_of_ble_eq_true rfl)) dX12_goesThrough_51 ⟨Nat.zero_le _, Nat.zero_le _⟩) (fun x51 bx51 => ?_)
          have J90 : iv y39_l1 0 65535 → iv y39_fp0_32 0 16 → ∀ (H : Heap) (locs : List Loc), hp_w D T s H locs → hp_km D [(12, 32), (12, 33), (12, 34), (12, 35)] s.heap H → hp_f D H ap0 12 32 (.int y39_fp0_32) → ∀ (ls : Array Slot), lv_has ls 2 [(0, .ref ap0), (1, .int y39_l1)] → WX12_goesThrough p l e s m below meth c D T ap0 H locs (F0 m 90 ls []) := by
            intro c90_y39_l1 c90_y39_fp0_32 H90 locs90 hw hkm f_p0_32 ls hl
            obtain ⟨x90, ex90⟩ : ∃ y : Int32, y = y39_l1 + 1 := ⟨_, rfl⟩
            have bx90 : iv x90 1 65536 := iv_add c90_y39_l1 (show iv 1 1 1 from ⟨by decide, by decide⟩) ex90 (by decide)
            have qx90 := iv_add_eq c90_y39_l1 (show iv 1 1 1 from ⟨by decide, by decide⟩) ex90 (by decide)
            refine lv_iinc (v := x90) (lv' := [(1, .int x90), (0, .ref ap0)]) hx hb dX12_goesThrough_90 hl (k := 1) rfl (by rw [ex90]; rfl) (by decide) rfl (fun ls hl => ?_)
            refine lv_goto (tgt := 39) hx hb dX12_goesThrough_93 (by decide) ?_
            exact ih39 x90 y39_fp0_32 (mu_up 1 hmu39 (qx90) (by decide) (show iv x90 0 99999 from (bx90.mono (by decide) (by decide))).2) (bx90.mono (by decide) (by decide)) c90_y39_fp0_32 H90 locs90 hw hkm f_p0_32 _ (lv_sub hl [1, 0] rfl)
          refine lv_if_ne (tgt := 60) hx hb dX12_goesThrough_54 (by decide) (fun c54 => ?_) (fun c54 => ?_)
          · have r54tp : iv x51 1 1 := (iv_ne_lo c54 bx51 rfl).mono (by decide) (by decide)
            refine lv_aload_n hx hb dX12_goesThrough_60 rfl (lv_at hl 0 rfl) ?_
            refine lv_dup hx hb dX12_goesThrough_61 rfl ?_
            refine hp_getA hx hb hts IX12 hown hK hw.1 hp0 rfl 35 (by decide) L409 rfl dX12_goesThrough_62 (fun x62 fx62 => ?_)
            refine lv_iconst (v := 1) hx hb dX12_goesThrough_65 (by decide) ?_
            refine lv_iadd hx hb dX12_goesThrough_66 ?_
            refine lv_topi (fun x66 ex66 => ?_)
            refine hp_put hx hb hts IX12 tyX12 tyX12_ok nmX12 hown hK hw hp0 rfl 35 (by decide) L409 rfl rfl ⟨_, rfl⟩ rfl rfl dX12_goesThrough_67 (fun H67 locs67 hw f67n g67 => ?_)
            have hkm := hkm.put g67 (by decide)
            have f_p0_32 := g67 _ _ _ _ f_p0_32 (Or.inr ⟨rfl, by decide⟩)
            refine lv_aload_n hx hb dX12_goesThrough_70 rfl (lv_at hl 0 rfl) ?_
            refine lv_dup hx hb dX12_goesThrough_71 rfl ?_
            refine hp_getA hx hb hts IX12 hown hK hw.1 hp0 rfl 33 (by decide) L412 rfl dX12_goesThrough_72 (fun x72 fx72 => ?_)
            refine lv_iload_n hx hb dX12_goesThrough_75 rfl (lv_at hl 1 rfl) ?_
            refine lv_iand hx hb dX12_goesThrough_76 ?_
            refine lv_topi (fun x76 ex76 => ?_)
            have bx76 : iv x76 0 65535 := iv_and_r r46fp ex76
            refine hp_put hx hb hts IX12 tyX12 tyX12_ok nmX12 hown hK hw hp0 rfl 33 (by decide) L412 rfl rfl ⟨_, rfl⟩ rfl rfl dX12_goesThrough_77 (fun H77 locs77 hw f77n g77 => ?_)
            have hkm := hkm.put g77 (by decide)
            have f_p0_32 := g77 _ _ _ _ f_p0_32 (Or.inr ⟨rfl, by decide⟩)
            refine lv_aload_n hx hb dX12_goesThrough_80 rfl (lv_at hl 0 rfl) ?_
            refine lv_dup hx hb dX12_goesThrough_81 rfl ?_
            refine hp_getA hx hb hts IX12 hown hK hw.1 hp0 rfl 34 (by decide) L415 rfl dX12_goesThrough_82 (fun x82 fx82 => ?_)
            refine lv_iload_n hx hb dX12_goesThrough_85 rfl (lv_at hl 1 rfl) ?_
            refine lv_ior hx hb dX12_goesThrough_86 ?_
            refine lv_topi (fun x86 ex86 => ?_)
            refine hp_put hx hb hts IX12 tyX12 tyX12_ok nmX12 hown hK hw hp0 rfl 34 (by decide) L415 rfl rfl ⟨_, rfl⟩ rfl rfl dX12_goesThrough_87 (fun H87 locs87 hw f87n g87 => ?_)
            have hkm := hkm.put g87 (by decide)
            have f_p0_32 := g87 _ _ _ _ f_p0_32 (Or.inr ⟨rfl, by decide⟩)
            exact J90 r46fp c39_y39_fp0_32 H87 locs87 hw hkm f_p0_32 _ (lv_sub hl [0, 1] rfl)
          · have r54fp : iv x51 0 0 := (iv_both bx51 (iv_eq (show iv 0 0 0 from ⟨by decide, by decide⟩) c54)).mono (by decide) (by decide)
            refine lv_goto (tgt := 90) hx hb dX12_goesThrough_57 (by decide) ?_
            exact J90 r46fp c39_y39_fp0_32 H39 locs39 hw hkm f_p0_32 _ (lv_sub hl [0, 1] rfl)
    exact J39 _ (0 : Int32) x1op0_32 (Nat.lt_succ_self _) (show iv 0 0 99999 from ⟨by decide, by decide⟩) r10tp H34 locs34 hw hkm f_p0_32 _ (lv_sub hl [1, 0] rfl)
  · have r10fq : iv x1op0_32 17 45 := (iv_lt_r (iv_nle c10) (show iv 16 16 16 from ⟨by decide, by decide⟩) bx1op0_32).mono (by decide) (by decide)
    refine lv_iconst (v := 0) hx hb dX12_goesThrough_13 (by decide) ?_
    exact W.zret (v := 0) hx hb hr (iv_nz (show iv 0 0 1 from ⟨by decide, by decide⟩)) (fun t ht hW => ⟨some (.int 0), rfl, ⟨(0 : Int32), rfl, ⟨(show iv 0 0 1 from ⟨by decide, by decide⟩), by rw [ht]; exact hkm⟩⟩, by rw [ht]; exact hw.1, hw.2.F ht⟩) hw.2.2.2 dX12_goesThrough_14
abbrev WX12_shuns (p : Program) (l : Launch) (e : Env) (s : State) (m : MethodId) (below : List Frame) (meth : Method) (c : Code) (D : hp_D) (T : hp_T) (ap0 : Nat) (H : Heap) (locs : List Loc) (g : JFrame) : Prop := W p l e (headSpec wsX12_shuns ({ frames := 5, cells := 0, slots := 0, locals := 111 })).room s m ([.ref ap0] : List Value).toArray below meth c H locs 0 0 (MQ below (hq_e D T (fun v _ _ => ∃ r : Int32, v = some (.int r) ∧ True)) ([.ref ap0] : List Value).toArray s 0 0 (hp_F T)) g
set_option maxHeartbeats 4000000 in
set_option maxRecDepth 100000 in
theorem sX12_shuns (l : Launch) (D : hp_D) (T : hp_T) (ap0 : Nat) (Gm : moG) (ip0 : isMo T ap0 Gm) : Met l yX12_shuns wsX12_shuns ({ frames := 5, cells := 0, slots := 0, locals := 111 }) (hp_Pc D T [.ref ap0] (fun _ => True)) (hq_e D T (fun v _ _ => ∃ r : Int32, v = some (.int r) ∧ True)) 0 0 (hp_F T) := by
  obtain ⟨ap0tape, ap0sign, ap0len, ap0clause, ap0clauses, ap0read, ap0opn, ap0stack, ap0word, ap0said, ap0was, ap0fitting, ap0sums, ap0sort, ap0sumsBy, ap0oneOf, ap0otherOf, ap0kept, ap0images, ap0acts, ap0iUnd, ap0iFor, ap0iX, ap0made, gok, hp0, hp0tape, hp0sign, hp0len, hp0clause, hp0clauses, hp0read, hp0opn, hp0stack, hp0word, hp0said, hp0was, hp0fitting, hp0sums, hp0sort, hp0sumsBy, hp0oneOf, hp0otherOf, hp0kept, hp0images, hp0acts, hp0iUnd, hp0iFor, hp0iX, hp0made⟩ := id ip0
  have hpx := gok.1
  have gsok := gok.2.2.2.2
  have ggd := gok.2.2.2.1
  refine Met.ofW (cc := cX12_shuns) (maxL := 1) (ret := (some .int)) (by decide) rfl ?_
  intro p e s m args below meth c s₁ B hml hv
  obtain ⟨rfl, hok, hG, hB⟩ := hv
  have hx := B.exec
  have hb := B.bytes
  have hr := B.returns
  have hts := atoms_spec (ws := wsX12_shuns) B.pre
  have hown : s.vm.findClass RX12 = some m.cls := findClass_of_methodNamed B.named
  have hlocks := B.notSynchronized
  have hK := hG.1
  have hw : hp_w D T s s.heap [] := hp_w.rf hok
  have IX12 : ∀ w ∈ wsX120, w ∈ wsX12_shuns := by decide +kernel
  have L409 := hts (.fieldLink RX12 409 "PalmCensusModel" "sets" "I") (by decide +kernel)
  have hl := lv_entry ([.ref ap0]) (n := 1) (Nat.le_of_ble_eq_true rfl)
  rw [lg_entry_eq]
  generalize (lg_sl ([.ref ap0]) ++ List.replicate (1 - (lg_sl ([.ref ap0])).length) Slot.unset).toArray = ls at hl ⊢
  have hl : lv_has ls 1 [(0, .ref ap0)] := hl
  show WX12_shuns p l e s m below meth c D T ap0 s.heap [] (F0 m 0 ls [])
  refine lv_aload_n hx hb dX12_shuns_0 rfl (lv_at hl 0 rfl) ?_
  refine hp_callpi (va_runV (As := []) (rest := []) ⟨hx, hb, hml, hown, hts⟩ (sX12_isTown l D T ap0 Gm ip0) (cwV 0 hts gX12_shuns_X12_isTown rfl rfl rfl (by decide +kernel) ⟨Nat.le_of_ble_eq_true rfl, Nat.le_of_ble_eq_true rfl⟩) (hp_preV hG hw hp0 rfl trivial) rfl rfl hl.1 rfl (lv_room (Nat.le_of_ble_eq_true rfl)) dX12_shuns_1 ⟨Nat.zero_le _, Nat.zero_le _⟩) (fun x1 bx1 => ?_)
  have J27 : ∀ (y27_s0 : Int32), ∀ (H : Heap) (locs : List Loc), hp_w D T s H locs → ∀ (ls : Array Slot), lv_has ls 1 [] → WX12_shuns p l e s m below meth c D T ap0 H locs (F0 m 27 ls [.int y27_s0]) := by
    intro y27_s0 H27 locs27 hw ls hl
    exact W.iret (v := y27_s0) hx hb hr (fun t ht hW => ⟨some (.int y27_s0), rfl, ⟨y27_s0, rfl, trivial⟩, by rw [ht]; exact hw.1, hw.2.F ht⟩) hw.2.2.2 dX12_shuns_27
  refine lv_if_ne (tgt := 11) hx hb dX12_shuns_4 (by decide) (fun c4 => ?_) (fun c4 => ?_)
  · have r4tp : iv x1 1 1 := (iv_ne_lo c4 bx1 rfl).mono (by decide) (by decide)
    refine lv_aload_n hx hb dX12_shuns_11 rfl (lv_at hl 0 rfl) ?_
    refine hp_callei (va_runV (As := []) (rest := []) ⟨hx, hb, hml, hown, hts⟩ (sX12_goesThrough l D T ap0 Gm ip0) (cwV 0 hts gX12_shuns_X12_goesThrough rfl rfl rfl (by decide +kernel) ⟨Nat.le_of_ble_eq_true rfl, Nat.le_of_ble_eq_true rfl⟩) (hp_preV hG hw hp0 rfl trivial) rfl rfl hl.1 rfl (lv_room (Nat.le_of_ble_eq_true rfl)) dX12_shuns_12 ⟨Nat.zero_le _, Nat.zero_le _⟩) hw (fun x12 st12 t12 H12 locs12 eh12 eg12 bx12 hw => ?_)
    obtain ⟨bx12, g12⟩ := bx12
    rw [eh12, eg12] at g12
    refine lv_if_eq (tgt := 25) hx hb dX12_shuns_15 (by decide) (fun c15 => ?_) (fun c15 => ?_)
    · have r15tp : iv x12 0 0 := (iv_both bx12 (iv_eq (show iv 0 0 0 from ⟨by decide, by decide⟩) c15)).mono (by decide) (by decide)
      refine lv_bipush (v := (-3)) hx hb dX12_shuns_25 (by decide) ?_
      exact J27 ((-3) : Int32) H12 locs12 hw _ (lv_sub hl [] rfl)
    · have r15fp : iv x12 1 1 := (iv_ne_lo c15 bx12 rfl).mono (by decide) (by decide)
      refine lv_aload_n hx hb dX12_shuns_18 rfl (lv_at hl 0 rfl) ?_
      refine hp_getA hx hb hts IX12 hown hK hw.1 hp0 rfl 35 (by decide) L409 rfl dX12_shuns_19 (fun x19 fx19 => ?_)
      refine lv_goto (tgt := 27) hx hb dX12_shuns_22 (by decide) ?_
      exact J27 x19 H12 locs12 hw _ (lv_sub hl [] rfl)
  · have r4fp : iv x1 0 0 := (iv_both bx1 (iv_eq (show iv 0 0 0 from ⟨by decide, by decide⟩) c4)).mono (by decide) (by decide)
    refine lv_iconst (v := (-1)) hx hb dX12_shuns_7 (by decide) ?_
    refine lv_goto (tgt := 27) hx hb dX12_shuns_8 (by decide) ?_
    exact J27 ((-1) : Int32) s.heap [] hw _ (lv_sub hl [] rfl)
abbrev WX12_census (p : Program) (l : Launch) (e : Env) (s : State) (m : MethodId) (below : List Frame) (meth : Method) (c : Code) (D : hp_D) (T : hp_T) (ap0 : Nat) (H : Heap) (locs : List Loc) (g : JFrame) : Prop := W p l e (headSpec wsX12_census ({ frames := 6, cells := 0, slots := 0, locals := 151 })).room s m ([.ref ap0] : List Value).toArray below meth c H locs 0 0 (MQ below (hq_e D T (fun v _ _ => ∃ r : Int32, v = some (.int r) ∧ True)) ([.ref ap0] : List Value).toArray s 0 0 (hp_F T)) g
set_option maxHeartbeats 4000000 in
set_option maxRecDepth 100000 in
theorem sX12_census (l : Launch) (D : hp_D) (T : hp_T) (ap0 : Nat) (Gm : moG) (ip0 : isMo T ap0 Gm) : Met l yX12_census wsX12_census ({ frames := 6, cells := 0, slots := 0, locals := 151 }) (hp_Pc D T [.ref ap0] (fun _ => True)) (hq_e D T (fun v _ _ => ∃ r : Int32, v = some (.int r) ∧ True)) 0 0 (hp_F T) := by
  obtain ⟨ap0tape, ap0sign, ap0len, ap0clause, ap0clauses, ap0read, ap0opn, ap0stack, ap0word, ap0said, ap0was, ap0fitting, ap0sums, ap0sort, ap0sumsBy, ap0oneOf, ap0otherOf, ap0kept, ap0images, ap0acts, ap0iUnd, ap0iFor, ap0iX, ap0made, gok, hp0, hp0tape, hp0sign, hp0len, hp0clause, hp0clauses, hp0read, hp0opn, hp0stack, hp0word, hp0said, hp0was, hp0fitting, hp0sums, hp0sort, hp0sumsBy, hp0oneOf, hp0otherOf, hp0kept, hp0images, hp0acts, hp0iUnd, hp0iFor, hp0iX, hp0made⟩ := id ip0
  have hpx := gok.1
  have gsok := gok.2.2.2.2
  have ggd := gok.2.2.2.1
  refine Met.ofW (cc := cX12_census) (maxL := 6) (ret := (some .int)) (by decide) rfl ?_
  intro p e s m args below meth c s₁ B hml hv
  obtain ⟨rfl, hok, hG, hB⟩ := hv
  have hx := B.exec
  have hb := B.bytes
  have hr := B.returns
  have hts := atoms_spec (ws := wsX12_census) B.pre
  have hown : s.vm.findClass RX12 = some m.cls := findClass_of_methodNamed B.named
  have hlocks := B.notSynchronized
  have hK := hG.1
  have hw : hp_w D T s s.heap [] := hp_w.rf hok
  have hl := lv_entry ([.ref ap0]) (n := 6) (Nat.le_of_ble_eq_true rfl)
  rw [lg_entry_eq]
  generalize (lg_sl ([.ref ap0]) ++ List.replicate (6 - (lg_sl ([.ref ap0])).length) Slot.unset).toArray = ls at hl ⊢
  have hl : lv_has ls 6 [(0, .ref ap0)] := hl
  show WX12_census p l e s m below meth c D T ap0 s.heap [] (F0 m 0 ls [])
  refine lv_aload_n hx hb dX12_census_0 rfl (lv_at hl 0 rfl) ?_
  refine hp_callpi (va_runV (As := []) (rest := []) ⟨hx, hb, hml, hown, hts⟩ (sX12_isTown l D T ap0 Gm ip0) (cwV 0 hts gX12_census_X12_isTown rfl rfl rfl (by decide +kernel) ⟨Nat.le_of_ble_eq_true rfl, Nat.le_of_ble_eq_true rfl⟩) (hp_preV hG hw hp0 rfl trivial) rfl rfl hl.1 rfl (lv_room (Nat.le_of_ble_eq_true rfl)) dX12_census_1 ⟨Nat.zero_le _, Nat.zero_le _⟩) (fun x1 bx1 => ?_)
  refine lv_if_ne (tgt := 9) hx hb dX12_census_4 (by decide) (fun c4 => ?_) (fun c4 => ?_)
  · have r4tp : iv x1 1 1 := (iv_ne_lo c4 bx1 rfl).mono (by decide) (by decide)
    refine lv_aload_n hx hb dX12_census_9 rfl (lv_at hl 0 rfl) ?_
    refine hp_callei (va_runV (As := []) (rest := []) ⟨hx, hb, hml, hown, hts⟩ (sX12_totalOf l D T ap0 Gm ip0) (cwV 0 hts gX12_census_X12_totalOf rfl rfl rfl (by decide +kernel) ⟨Nat.le_of_ble_eq_true rfl, Nat.le_of_ble_eq_true rfl⟩) (hp_preV hG hw hp0 rfl trivial) rfl rfl hl.1 rfl (lv_room (Nat.le_of_ble_eq_true rfl)) dX12_census_10 ⟨Nat.zero_le _, Nat.zero_le _⟩) hw (fun x10 st10 t10 H10 locs10 eh10 eg10 bx10 hw => ?_)
    obtain ⟨bx10, g10⟩ := bx10
    rw [eh10, eg10] at g10
    refine lv_istore_n (lv' := [(1, .int x10), (0, .ref ap0)]) hx hb dX12_census_13 rfl hl (by decide) rfl (fun ls hl => ?_)
    refine lv_iconst (v := 0) hx hb dX12_census_14 (by decide) ?_
    refine lv_istore_n (lv' := [(2, .int 0), (1, .int x10), (0, .ref ap0)]) hx hb dX12_census_15 rfl hl (by decide) rfl (fun ls hl => ?_)
    refine lv_iload_n hx hb dX12_census_16 rfl (lv_at hl 1 rfl) ?_
    have J26 : ∀ (y26_s0 : Int32), ∀ (H : Heap) (locs : List Loc), hp_w D T s H locs → ∀ (ls : Array Slot), lv_has ls 6 [(1, .int x10), (2, .int 0)] → WX12_census p l e s m below meth c D T ap0 H locs (F0 m 26 ls [.int y26_s0]) := by
      intro y26_s0 H26 locs26 hw ls hl
      refine lv_istore_n (lv' := [(3, .int y26_s0), (1, .int x10), (2, .int 0)]) hx hb dX12_census_26 rfl hl (by decide) rfl (fun ls hl => ?_)
      refine lv_iconst (v := 1) hx hb dX12_census_27 (by decide) ?_
      refine lv_istore (lv' := [(4, .int 1), (3, .int y26_s0), (1, .int x10), (2, .int 0)]) hx hb dX12_census_28 hl (by decide) rfl (fun ls hl => ?_)
      have J30 : ∀ (n : Nat) (y30_l2 y30_l3 y30_l4 : Int32), (1023 - y30_l4.toInt).toNat < n → iv y30_l2 0 1023 → iv y30_l4 1 1023 → ∀ (H : Heap) (locs : List Loc), hp_w D T s H locs → ∀ (ls : Array Slot), lv_has ls 6 [(1, .int x10), (2, .int y30_l2), (3, .int y30_l3), (4, .int y30_l4)] → WX12_census p l e s m below meth c D T ap0 H locs (F0 m 30 ls []) := by
        intro n
        induction n with
        | zero => intro y30_l2 y30_l3 y30_l4 hmu30 c30_y30_l2 c30_y30_l4 H30 locs30 hw ls hl; exact absurd hmu30 (Nat.not_lt_zero _)
        | succ n ih30 =>
          intro y30_l2 y30_l3 y30_l4 hmu30 c30_y30_l2 c30_y30_l4 H30 locs30 hw ls hl
          refine lv_iload hx hb dX12_census_30 (lv_at hl 3 rfl) ?_
          refine lv_sipush (v := 1000) hx hb dX12_census_32 (by decide) ?_
          refine lv_icmp_ge (tgt := 85) hx hb dX12_census_35 (by decide) (fun c35 => ?_) (fun c35 => ?_)
          · have r35tq : iv y30_l4 1000 1023 := (iv_le_r c35 (show iv 1000 1000 1000 from ⟨by decide, by decide⟩) c30_y30_l4).mono (by decide) (by decide)
            refine lv_iload_n hx hb dX12_census_85 rfl (lv_at hl 1 rfl) ?_
            exact W.iret (v := y30_l2) hx hb hr (fun t ht hW => ⟨some (.int y30_l2), rfl, ⟨y30_l2, rfl, trivial⟩, by rw [ht]; exact hw.1, hw.2.F ht⟩) hw.2.2.2 dX12_census_86
          · have r35fp : iv y30_l4 1 999 := (iv_lt_l (iv_nle c35) c30_y30_l4 (show iv 1000 1000 1000 from ⟨by decide, by decide⟩)).mono (by decide) (by decide)
            refine lv_iload hx hb dX12_census_38 (lv_at hl 3 rfl) ?_
            refine lv_iload hx hb dX12_census_40 (lv_at hl 3 rfl) ?_
            refine lv_iconst (v := 1) hx hb dX12_census_42 (by decide) ?_
            refine lv_isub hx hb dX12_census_43 ?_
            refine lv_topi (fun x43 ex43 => ?_)
            have bx43 : iv x43 0 998 := iv_sub r35fp (show iv 1 1 1 from ⟨by decide, by decide⟩) ex43 (by decide)
            have qx43 := iv_sub_eq r35fp (show iv 1 1 1 from ⟨by decide, by decide⟩) ex43 (by decide)
            refine lv_imul hx hb dX12_census_44 ?_
            refine lv_topi (fun x44 ex44 => ?_)
            have bx44 : iv x44 0 997002 := iv_mul r35fp bx43 ex44 (by decide)
            refine lv_iload_n hx hb dX12_census_45 rfl (lv_at hl 0 rfl) ?_
            refine lv_isub hx hb dX12_census_46 ?_
            refine lv_topi (fun x46 ex46 => ?_)
            refine lv_istore (lv' := [(5, .int x46), (1, .int x10), (2, .int y30_l2), (3, .int y30_l3), (4, .int y30_l4)]) hx hb dX12_census_47 hl (by decide) rfl (fun ls hl => ?_)
            refine lv_iload hx hb dX12_census_49 (lv_at hl 0 rfl) ?_
            have J62 : ∀ (y62_s0 : Int32), iv y30_l2 0 1023 → iv y30_l4 1 999 → ∀ (H : Heap) (locs : List Loc), hp_w D T s H locs → ∀ (ls : Array Slot), lv_has ls 6 [(1, .int x10), (2, .int y30_l2), (3, .int y30_l3), (4, .int y30_l4)] → WX12_census p l e s m below meth c D T ap0 H locs (F0 m 62 ls [.int y62_s0]) := by
              intro y62_s0 c62_y30_l2 c62_y30_l4 H62 locs62 hw ls hl
              refine lv_istore (lv' := [(5, .int y62_s0), (1, .int x10), (2, .int y30_l2), (3, .int y30_l3), (4, .int y30_l4)]) hx hb dX12_census_62 hl (by decide) rfl (fun ls hl => ?_)
              refine lv_iload hx hb dX12_census_64 (lv_at hl 0 rfl) ?_
              refine lv_iload_n hx hb dX12_census_66 rfl (lv_at hl 3 rfl) ?_
              have J79 : ∀ (y79_l2 y79_l3 : Int32), iv y79_l2 0 1023 → iv y30_l4 1 999 → ∀ (H : Heap) (locs : List Loc), hp_w D T s H locs → ∀ (ls : Array Slot), lv_has ls 6 [(1, .int x10), (2, .int y79_l2), (3, .int y79_l3), (4, .int y30_l4)] → WX12_census p l e s m below meth c D T ap0 H locs (F0 m 79 ls []) := by
                intro y79_l2 y79_l3 c79_y79_l2 c79_y30_l4 H79 locs79 hw ls hl
                obtain ⟨x79, ex79⟩ : ∃ y : Int32, y = y30_l4 + 1 := ⟨_, rfl⟩
                have bx79 : iv x79 2 1000 := iv_add c79_y30_l4 (show iv 1 1 1 from ⟨by decide, by decide⟩) ex79 (by decide)
                have qx79 := iv_add_eq c79_y30_l4 (show iv 1 1 1 from ⟨by decide, by decide⟩) ex79 (by decide)
                refine lv_iinc (v := x79) (lv' := [(4, .int x79), (1, .int x10), (2, .int y79_l2), (3, .int y79_l3)]) hx hb dX12_census_79 hl (k := 3) rfl (by rw [ex79]; rfl) (by decide) rfl (fun ls hl => ?_)
                refine lv_goto (tgt := 30) hx hb dX12_census_82 (by decide) ?_
                exact ih30 y79_l2 y79_l3 x79 (mu_up 1 hmu30 (qx79) (by decide) (show iv x79 1 1023 from (bx79.mono (by decide) (by decide))).2) c79_y79_l2 (bx79.mono (by decide) (by decide)) H79 locs79 hw _ (lv_sub hl [1, 2, 3, 0] rfl)
              refine lv_icmp_le (tgt := 73) hx hb dX12_census_67 (by decide) (fun c67 => ?_) (fun c67 => ?_)
              · refine lv_iload hx hb dX12_census_73 (lv_at hl 4 rfl) ?_
                refine lv_istore_n (lv' := [(2, .int y30_l4), (5, .int y62_s0), (1, .int x10), (3, .int y30_l3), (4, .int y30_l4)]) hx hb dX12_census_75 rfl hl (by decide) rfl (fun ls hl => ?_)
                refine lv_iload hx hb dX12_census_76 (lv_at hl 1 rfl) ?_
                refine lv_istore_n (lv' := [(3, .int y62_s0), (2, .int y30_l4), (5, .int y62_s0), (1, .int x10), (4, .int y30_l4)]) hx hb dX12_census_78 rfl hl (by decide) rfl (fun ls hl => ?_)
                exact J79 y30_l4 y62_s0 (c62_y30_l4.mono (by decide) (by decide)) c62_y30_l4 H62 locs62 hw _ (lv_sub hl [3, 1, 0, 4] rfl)
              · have r67fp : iv y30_l3 (-2147483648) 2147483646 := (iv_lt_l (iv_nle c67) (iv_any y30_l3) (iv_any y62_s0)).mono (by decide) (by decide)
                have r67fq : iv y62_s0 (-2147483647) 2147483647 := (iv_lt_r (iv_nle c67) (iv_any y30_l3) (iv_any y62_s0)).mono (by decide) (by decide)
                refine lv_goto (tgt := 79) hx hb dX12_census_70 (by decide) ?_
                exact J79 y30_l2 y30_l3 c62_y30_l2 c62_y30_l4 H62 locs62 hw _ (lv_sub hl [1, 2, 3, 4] rfl)
            refine lv_if_ge (tgt := 60) hx hb dX12_census_51 (by decide) (fun c51 => ?_) (fun c51 => ?_)
            · have r51tq : iv x46 0 2147483647 := (iv_le_r c51 (show iv 0 0 0 from ⟨by decide, by decide⟩) (iv_any x46)).mono (by decide) (by decide)
              refine lv_iload hx hb dX12_census_60 (lv_at hl 0 rfl) ?_
              exact J62 x46 c30_y30_l2 r35fp H30 locs30 hw _ (lv_sub hl [1, 2, 3, 4] rfl)
            · have r51fp : iv x46 (-2147483648) (-1) := (iv_lt_l (iv_nle c51) (iv_any x46) (show iv 0 0 0 from ⟨by decide, by decide⟩)).mono (by decide) (by decide)
              refine lv_iload hx hb dX12_census_54 (lv_at hl 0 rfl) ?_
              refine lv_ineg hx hb dX12_census_56 ?_
              refine lv_topi (fun x56 ex56 => ?_)
              refine lv_goto (tgt := 62) hx hb dX12_census_57 (by decide) ?_
              exact J62 x56 c30_y30_l2 r35fp H30 locs30 hw _ (lv_sub hl [1, 2, 3, 4] rfl)
      exact J30 _ (0 : Int32) y26_s0 (1 : Int32) (Nat.lt_succ_self _) (show iv 0 0 1023 from ⟨by decide, by decide⟩) (show iv 1 1 1023 from ⟨by decide, by decide⟩) H26 locs26 hw _ (lv_sub hl [2, 3, 1, 0] rfl)
    refine lv_if_ge (tgt := 25) hx hb dX12_census_17 (by decide) (fun c17 => ?_) (fun c17 => ?_)
    · have r17tq : iv x10 0 2147483647 := (iv_le_r c17 (show iv 0 0 0 from ⟨by decide, by decide⟩) (iv_any x10)).mono (by decide) (by decide)
      refine lv_iload_n hx hb dX12_census_25 rfl (lv_at hl 1 rfl) ?_
      exact J26 x10 H10 locs10 hw _ (lv_sub hl [1, 0] rfl)
    · have r17fp : iv x10 (-2147483648) (-1) := (iv_lt_l (iv_nle c17) (iv_any x10) (show iv 0 0 0 from ⟨by decide, by decide⟩)).mono (by decide) (by decide)
      refine lv_iload_n hx hb dX12_census_20 rfl (lv_at hl 1 rfl) ?_
      refine lv_ineg hx hb dX12_census_21 ?_
      refine lv_topi (fun x21 ex21 => ?_)
      refine lv_goto (tgt := 26) hx hb dX12_census_22 (by decide) ?_
      exact J26 x21 H10 locs10 hw _ (lv_sub hl [1, 0] rfl)
  · have r4fp : iv x1 0 0 := (iv_both bx1 (iv_eq (show iv 0 0 0 from ⟨by decide, by decide⟩) c4)).mono (by decide) (by decide)
    refine lv_iconst (v := (-1)) hx hb dX12_census_7 (by decide) ?_
    exact W.iret (v := (-1)) hx hb hr (fun t ht hW => ⟨some (.int (-1)), rfl, ⟨((-1) : Int32), rfl, trivial⟩, by rw [ht]; exact hw.1, hw.2.F ht⟩) hw.2.2.2 dX12_census_8
abbrev WX12_drawn (p : Program) (l : Launch) (e : Env) (s : State) (m : MethodId) (below : List Frame) (meth : Method) (c : Code) (D : hp_D) (T : hp_T) (ap0 : Nat) (xp1 : Int32) (xp2 : Int32) (xp3 : Int32) (H : Heap) (locs : List Loc) (g : JFrame) : Prop := W p l e (headSpec wsX12_drawn ({ frames := 6, cells := 0, slots := 0, locals := 151 })).room s m ([.ref ap0, .int xp1, .int xp2, .int xp3] : List Value).toArray below meth c H locs 0 0 (MQ below (hq_e D T (fun v _ _ => ∃ r : Int32, v = some (.int r) ∧ True)) ([.ref ap0, .int xp1, .int xp2, .int xp3] : List Value).toArray s 0 0 (hp_F T)) g
set_option maxHeartbeats 4000000 in
set_option maxRecDepth 100000 in
theorem sX12_drawn (l : Launch) (D : hp_D) (T : hp_T) (ap0 : Nat) (xp1 : Int32) (xp2 : Int32) (xp3 : Int32) (Gm : moG) (ip0 : isMo T ap0 Gm) (hgs : ∀ j v, sP j v → gs Gm j v) : Met l yX12_drawn wsX12_drawn ({ frames := 6, cells := 0, slots := 0, locals := 151 }) (hp_Pc D T [.ref ap0, .int xp1, .int xp2, .int xp3] (fun _ => True)) (hq_e D T (fun v _ _ => ∃ r : Int32, v = some (.int r) ∧ True)) 0 0 (hp_F T) := by
  obtain ⟨ap0tape, ap0sign, ap0len, ap0clause, ap0clauses, ap0read, ap0opn, ap0stack, ap0word, ap0said, ap0was, ap0fitting, ap0sums, ap0sort, ap0sumsBy, ap0oneOf, ap0otherOf, ap0kept, ap0images, ap0acts, ap0iUnd, ap0iFor, ap0iX, ap0made, gok, hp0, hp0tape, hp0sign, hp0len, hp0clause, hp0clauses, hp0read, hp0opn, hp0stack, hp0word, hp0said, hp0was, hp0fitting, hp0sums, hp0sort, hp0sumsBy, hp0oneOf, hp0otherOf, hp0kept, hp0images, hp0acts, hp0iUnd, hp0iFor, hp0iX, hp0made⟩ := id ip0
  have hpx := gok.1
  have gsok := gok.2.2.2.2
  have ggd := gok.2.2.2.1
  refine Met.ofW (cc := cX12_drawn) (maxL := 11) (ret := (some .int)) (by decide) rfl ?_
  intro p e s m args below meth c s₁ B hml hv
  obtain ⟨rfl, hok, hG, hB⟩ := hv
  have hx := B.exec
  have hb := B.bytes
  have hr := B.returns
  have hts := atoms_spec (ws := wsX12_drawn) B.pre
  have hown : s.vm.findClass RX12 = some m.cls := findClass_of_methodNamed B.named
  have hlocks := B.notSynchronized
  have hK := hG.1
  have hw : hp_w D T s s.heap [] := hp_w.rf hok
  have IX12 : ∀ w ∈ wsX120, w ∈ wsX12_drawn := by decide +kernel
  have K356 := hts (.constant RX12 356 (-1000000)) (by decide +kernel)
  have K447 := hts (.constantLong RX12 447 20) (by decide +kernel)
  have K449 := hts (.constantLong RX12 449 100) (by decide +kernel)
  have K379 := hts (.constantLong RX12 379 2) (by decide +kernel)
  have L429 := hts (.fieldLink RX12 429 "PalmCensusModel" "x" "I") (by decide +kernel)
  have L432 := hts (.fieldLink RX12 432 "PalmCensusModel" "drawX" "J") (by decide +kernel)
  have L39 := hts (.fieldLink RX12 39 "PalmCensusModel" "said" "[I") (by decide +kernel)
  have L67 := hts (.fieldLink RX12 67 "PalmCensusModel" "kept" "[I") (by decide +kernel)
  have hl := lv_entry ([.ref ap0, .int xp1, .int xp2, .int xp3]) (n := 11) (Nat.le_of_ble_eq_true rfl)
  rw [lg_entry_eq]
  generalize (lg_sl ([.ref ap0, .int xp1, .int xp2, .int xp3]) ++ List.replicate (11 - (lg_sl ([.ref ap0, .int xp1, .int xp2, .int xp3])).length) Slot.unset).toArray = ls at hl ⊢
  have hl : lv_has ls 11 [(0, .ref ap0), (1, .int xp1), (2, .int xp2), (3, .int xp3)] := hl
  show WX12_drawn p l e s m below meth c D T ap0 xp1 xp2 xp3 s.heap [] (F0 m 0 ls [])
  refine lv_aload_n hx hb dX12_drawn_0 rfl (lv_at hl 0 rfl) ?_
  refine hp_callpi (va_runV (As := []) (rest := []) ⟨hx, hb, hml, hown, hts⟩ (sX12_isTown l D T ap0 Gm ip0) (cwV 0 hts gX12_drawn_X12_isTown rfl rfl rfl (by decide +kernel) ⟨Nat.le_of_ble_eq_true rfl, Nat.le_of_ble_eq_true rfl⟩) (hp_preV hG hw hp0 rfl trivial) rfl rfl hl.1 rfl (lv_room (Nat.le_of_ble_eq_true rfl)) dX12_drawn_1 ⟨Nat.zero_le _, Nat.zero_le _⟩) (fun x1 bx1 => ?_)
  have J43 : ∀ (H : Heap) (locs : List Loc), hp_w D T s H locs → ∀ (ls : Array Slot), lv_has ls 11 [] → WX12_drawn p l e s m below meth c D T ap0 xp1 xp2 xp3 H locs (F0 m 43 ls []) := by
    intro H43 locs43 hw ls hl
    refine lv_ldcw (v := (-1000000)) hx hb hown K356 dX12_drawn_43 ?_
    exact W.iret (v := (-1000000)) hx hb hr (fun t ht hW => ⟨some (.int (-1000000)), rfl, ⟨((-1000000) : Int32), rfl, trivial⟩, by rw [ht]; exact hw.1, hw.2.F ht⟩) hw.2.2.2 dX12_drawn_46
  refine lv_if_eq (tgt := 43) hx hb dX12_drawn_4 (by decide) (fun c4 => ?_) (fun c4 => ?_)
  · have r4tp : iv x1 0 0 := (iv_both bx1 (iv_eq (show iv 0 0 0 from ⟨by decide, by decide⟩) c4)).mono (by decide) (by decide)
    exact J43 s.heap [] hw _ (lv_sub hl [] rfl)
  · have r4fp : iv x1 1 1 := (iv_ne_lo c4 bx1 rfl).mono (by decide) (by decide)
    refine lv_iload_n hx hb dX12_drawn_7 rfl (lv_at hl 1 rfl) ?_
    obtain ⟨x8, ex8⟩ : ∃ y : Int64, xp1.toInt64 = y := ⟨_, rfl⟩
    refine lv_i2l (v := x8) hx hb dX12_drawn_8 ex8 ?_
    refine lv_lconst (v := 1) hx hb dX12_drawn_9 (by decide) ?_
    refine lv_ldc2 (v := 20) hx hb hown K447 dX12_drawn_10 ?_
    refine hp_callpi (va_runS (As := [.long x8, .long 1, .long 20]) (rest := []) ⟨hx, hb, hml, hown, hts⟩ (sX12_in l D T x8 1 20) (va_cwS 3 hts gX12_drawn_X12_in rfl rfl rfl (by decide +kernel) ⟨Nat.le_of_ble_eq_true rfl, Nat.le_of_ble_eq_true rfl⟩) (hp_preS hG hw trivial) rfl rfl hl.1 rfl (lv_room (Nat.le_of_ble_eq_true rfl)) dX12_drawn_13 ⟨Nat.zero_le _, Nat.zero_le _⟩) (fun x13 bx13 => ?_)
    obtain ⟨bx13, ox13, nx13⟩ := bx13
    have ox13a_ : x13 = 0 ∨ iv xp1 1 20 := ox13.imp id (fun h => iv_in64 ex8 h.1 h.2 (by decide) (by decide))
    have ox13a : x13 = 0 ∨ iv xp1 1 20 := ox13.imp id (fun h => iv_in64 ex8 h.1 h.2 (by decide) (by decide))
    refine lv_if_eq (tgt := 43) hx hb dX12_drawn_16 (by decide) (fun c16 => ?_) (fun c16 => ?_)
    · have r16tp : iv x13 0 0 := (iv_both bx13 (iv_eq (show iv 0 0 0 from ⟨by decide, by decide⟩) c16)).mono (by decide) (by decide)
      exact J43 s.heap [] hw _ (lv_sub hl [] rfl)
    · have r16fp : iv x13 1 1 := (iv_ne_lo c16 bx13 rfl).mono (by decide) (by decide)
      have r16fpz : iv xp1 1 20 := (iv_both (iv_any xp1) ((fun h9 => ox13a.resolve_left h9) (iv_ne0 r16fp (by decide)))).mono (by decide) (by decide)
      refine lv_iload_n hx hb dX12_drawn_19 rfl (lv_at hl 2 rfl) ?_
      obtain ⟨x20, ex20⟩ : ∃ y : Int64, xp2.toInt64 = y := ⟨_, rfl⟩
      refine lv_i2l (v := x20) hx hb dX12_drawn_20 ex20 ?_
      refine lv_lconst (v := 0) hx hb dX12_drawn_21 (by decide) ?_
      refine lv_ldc2 (v := 100) hx hb hown K449 dX12_drawn_22 ?_
      refine hp_callpi (va_runS (As := [.long x20, .long 0, .long 100]) (rest := []) ⟨hx, hb, hml, hown, hts⟩ (sX12_in l D T x20 0 100) (va_cwS 3 hts gX12_drawn_X12_in rfl rfl rfl (by decide +kernel) ⟨Nat.le_of_ble_eq_true rfl, Nat.le_of_ble_eq_true rfl⟩) (hp_preS hG hw trivial) rfl rfl hl.1 rfl (lv_room (Nat.le_of_ble_eq_true rfl)) dX12_drawn_25 ⟨Nat.zero_le _, Nat.zero_le _⟩) (fun x25 bx25 => ?_)
      obtain ⟨bx25, ox25, nx25⟩ := bx25
      have ox25a_ : x25 = 0 ∨ iv xp2 0 100 := ox25.imp id (fun h => iv_in64 ex20 h.1 h.2 (by decide) (by decide))
      have ox25a : x25 = 0 ∨ iv xp2 0 100 := ox25.imp id (fun h => iv_in64 ex20 h.1 h.2 (by decide) (by decide))
      refine lv_if_eq (tgt := 43) hx hb dX12_drawn_28 (by decide) (fun c28 => ?_) (fun c28 => ?_)
      · have r28tp : iv x25 0 0 := (iv_both bx25 (iv_eq (show iv 0 0 0 from ⟨by decide, by decide⟩) c28)).mono (by decide) (by decide)
        exact J43 s.heap [] hw _ (lv_sub hl [] rfl)
      · have r28fp : iv x25 1 1 := (iv_ne_lo c28 bx25 rfl).mono (by decide) (by decide)
        have r28fpz : iv xp2 0 100 := (iv_both (iv_any xp2) ((fun h9 => ox25a.resolve_left h9) (iv_ne0 r28fp (by decide)))).mono (by decide) (by decide)
        refine lv_iload_n hx hb dX12_drawn_31 rfl (lv_at hl 3 rfl) ?_
        obtain ⟨x32, ex32⟩ : ∃ y : Int64, xp3.toInt64 = y := ⟨_, rfl⟩
        refine lv_i2l (v := x32) hx hb dX12_drawn_32 ex32 ?_
        refine lv_lconst (v := 0) hx hb dX12_drawn_33 (by decide) ?_
        refine lv_ldc2 (v := 2) hx hb hown K379 dX12_drawn_34 ?_
        refine hp_callpi (va_runS (As := [.long x32, .long 0, .long 2]) (rest := []) ⟨hx, hb, hml, hown, hts⟩ (sX12_in l D T x32 0 2) (va_cwS 3 hts gX12_drawn_X12_in rfl rfl rfl (by decide +kernel) ⟨Nat.le_of_ble_eq_true rfl, Nat.le_of_ble_eq_true rfl⟩) (hp_preS hG hw trivial) rfl rfl hl.1 rfl (lv_room (Nat.le_of_ble_eq_true rfl)) dX12_drawn_37 ⟨Nat.zero_le _, Nat.zero_le _⟩) (fun x37 bx37 => ?_)
        obtain ⟨bx37, ox37, nx37⟩ := bx37
        have ox37a_ : x37 = 0 ∨ iv xp3 0 2 := ox37.imp id (fun h => iv_in64 ex32 h.1 h.2 (by decide) (by decide))
        have ox37a : x37 = 0 ∨ iv xp3 0 2 := ox37.imp id (fun h => iv_in64 ex32 h.1 h.2 (by decide) (by decide))
        refine lv_if_ne (tgt := 47) hx hb dX12_drawn_40 (by decide) (fun c40 => ?_) (fun c40 => ?_)
        · have r40tp : iv x37 1 1 := (iv_ne_lo c40 bx37 rfl).mono (by decide) (by decide)
          have r40tpz : iv xp3 0 2 := (iv_both (iv_any xp3) ((fun h9 => ox37a.resolve_left h9) (iv_ne0 r40tp (by decide)))).mono (by decide) (by decide)
          refine lv_aload_n hx hb dX12_drawn_47 rfl (lv_at hl 0 rfl) ?_
          refine lv_aload_n hx hb dX12_drawn_48 rfl (lv_at hl 0 rfl) ?_
          refine hp_get hx hb hts IX12 hown hK hw.1 hp0 rfl 22 (by decide) L429 rfl dX12_drawn_49 (fun v49 h49 fx49 => ?_)
          obtain ⟨x49, rfl⟩ := hpx v49 h49
          obtain ⟨x52, ex52⟩ : ∃ y : Int64, x49.toInt64 = y := ⟨_, rfl⟩
          refine lv_i2l (v := x52) hx hb dX12_drawn_52 ex52 ?_
          refine hp_put hx hb hts IX12 tyX12 tyX12_ok nmX12 hown hK hw hp0 rfl 37 (by decide) L432 rfl rfl ⟨_, rfl⟩ rfl rfl dX12_drawn_53 (fun H53 locs53 hw f53n g53 => ?_)
          refine lv_aload_n hx hb dX12_drawn_56 rfl (lv_at hl 0 rfl) ?_
          refine hp_callei (va_runV (As := []) (rest := []) ⟨hx, hb, hml, hown, hts⟩ (sX12_totalOf l D T ap0 Gm ip0) (cwV 0 hts gX12_drawn_X12_totalOf rfl rfl rfl (by decide +kernel) ⟨Nat.le_of_ble_eq_true rfl, Nat.le_of_ble_eq_true rfl⟩) (hp_preV hG hw hp0 rfl trivial) rfl rfl hl.1 rfl (lv_room (Nat.le_of_ble_eq_true rfl)) dX12_drawn_57 ⟨Nat.zero_le _, Nat.zero_le _⟩) hw (fun x57 st57 t57 H57 locs57 eh57 eg57 bx57 hw => ?_)
          obtain ⟨bx57, g57⟩ := bx57
          rw [eh57, eg57] at g57
          refine lv_istore (lv' := [(4, .int x57), (0, .ref ap0), (1, .int xp1), (2, .int xp2), (3, .int xp3)]) hx hb dX12_drawn_60 hl (by decide) rfl (fun ls hl => ?_)
          refine lv_iconst (v := 0) hx hb dX12_drawn_62 (by decide) ?_
          refine lv_istore (lv' := [(5, .int 0), (4, .int x57), (0, .ref ap0), (1, .int xp1), (2, .int xp2), (3, .int xp3)]) hx hb dX12_drawn_63 hl (by decide) rfl (fun ls hl => ?_)
          refine lv_iconst (v := 0) hx hb dX12_drawn_65 (by decide) ?_
          refine lv_istore (lv' := [(6, .int 0), (5, .int 0), (4, .int x57), (0, .ref ap0), (1, .int xp1), (2, .int xp2), (3, .int xp3)]) hx hb dX12_drawn_66 hl (by decide) rfl (fun ls hl => ?_)
          refine lv_iconst (v := 0) hx hb dX12_drawn_68 (by decide) ?_
          refine lv_istore (lv' := [(7, .int 0), (6, .int 0), (5, .int 0), (4, .int x57), (0, .ref ap0), (1, .int xp1), (2, .int xp2), (3, .int xp3)]) hx hb dX12_drawn_69 hl (by decide) rfl (fun ls hl => ?_)
          refine lv_iconst (v := 0) hx hb dX12_drawn_71 (by decide) ?_
          refine lv_istore (lv' := [(8, .int 0), (7, .int 0), (6, .int 0), (5, .int 0), (4, .int x57), (0, .ref ap0), (1, .int xp1), (2, .int xp2), (3, .int xp3)]) hx hb dX12_drawn_72 hl (by decide) rfl (fun ls hl => ?_)
          have J74 : ∀ (n : Nat) (y74_l8 : Int32), (255 - y74_l8.toInt).toNat < n → iv xp1 1 20 → iv xp2 0 100 → iv xp3 0 2 → iv y74_l8 0 255 → ∀ (H : Heap) (locs : List Loc), hp_w D T s H locs → ∀ (ls : Array Slot), lv_has ls 11 [(0, .ref ap0), (1, .int xp1), (2, .int xp2), (3, .int xp3), (4, .int x57), (5, .int 0), (6, .int 0), (7, .int 0), (8, .int y74_l8)] → WX12_drawn p l e s m below meth c D T ap0 xp1 xp2 xp3 H locs (F0 m 74 ls []) := by
            intro n
            induction n with
            | zero => intro y74_l8 hmu74 c74_xp1 c74_xp2 c74_xp3 c74_y74_l8 H74 locs74 hw ls hl; exact absurd hmu74 (Nat.not_lt_zero _)
            | succ n ih74 =>
              intro y74_l8 hmu74 c74_xp1 c74_xp2 c74_xp3 c74_y74_l8 H74 locs74 hw ls hl
              refine lv_iload hx hb dX12_drawn_74 (lv_at hl 8 rfl) ?_
              refine lv_sipush (v := 130) hx hb dX12_drawn_76 (by decide) ?_
              refine lv_icmp_ge (tgt := 102) hx hb dX12_drawn_79 (by decide) (fun c79 => ?_) (fun c79 => ?_)
              · have r79tq : iv y74_l8 130 255 := (iv_le_r c79 (show iv 130 130 130 from ⟨by decide, by decide⟩) c74_y74_l8).mono (by decide) (by decide)
                refine lv_iconst (v := 0) hx hb dX12_drawn_102 (by decide) ?_
                refine lv_istore (lv' := [(8, .int 0), (0, .ref ap0), (1, .int xp1), (2, .int xp2), (3, .int xp3), (4, .int x57), (5, .int 0), (6, .int 0), (7, .int 0)]) hx hb dX12_drawn_103 hl (by decide) rfl (fun ls hl => ?_)
                have J105 : ∀ (n : Nat) (y105_l5 y105_l6 y105_l7 y105_l8 : Int32), (20 - y105_l8.toInt).toNat < n → iv xp1 1 20 → iv xp2 0 100 → iv xp3 0 2 → iv y105_l8 0 20 → ∀ (H : Heap) (locs : List Loc), hp_w D T s H locs → ∀ (ls : Array Slot), lv_has ls 11 [(0, .ref ap0), (1, .int xp1), (2, .int xp2), (3, .int xp3), (4, .int x57), (5, .int y105_l5), (6, .int y105_l6), (7, .int y105_l7), (8, .int y105_l8)] → WX12_drawn p l e s m below meth c D T ap0 xp1 xp2 xp3 H locs (F0 m 105 ls []) := by
                  intro n
                  induction n with
                  | zero => intro y105_l5 y105_l6 y105_l7 y105_l8 hmu105 c105_xp1 c105_xp2 c105_xp3 c105_y105_l8 H105 locs105 hw ls hl; exact absurd hmu105 (Nat.not_lt_zero _)
                  | succ n ih105 =>
                    intro y105_l5 y105_l6 y105_l7 y105_l8 hmu105 c105_xp1 c105_xp2 c105_xp3 c105_y105_l8 H105 locs105 hw ls hl
                    refine lv_iload hx hb dX12_drawn_105 (lv_at hl 8 rfl) ?_
                    refine lv_iload_n hx hb dX12_drawn_107 rfl (lv_at hl 1 rfl) ?_
                    refine lv_icmp_ge (tgt := 200) hx hb dX12_drawn_108 (by decide) (fun c108 => ?_) (fun c108 => ?_)
                    · have r108tq : iv y105_l8 1 20 := (iv_le_r c108 c105_xp1 c105_y105_l8).mono (by decide) (by decide)
                      refine lv_iload_n hx hb dX12_drawn_200 rfl (lv_at hl 3 rfl) ?_
                      have J221 : ∀ (y221_s0 : Int32), ∀ (H : Heap) (locs : List Loc), hp_w D T s H locs → ∀ (ls : Array Slot), lv_has ls 11 [] → WX12_drawn p l e s m below meth c D T ap0 xp1 xp2 xp3 H locs (F0 m 221 ls [.int y221_s0]) := by
                        intro y221_s0 H221 locs221 hw ls hl
                        exact W.iret (v := y221_s0) hx hb hr (fun t ht hW => ⟨some (.int y221_s0), rfl, ⟨y221_s0, rfl, trivial⟩, by rw [ht]; exact hw.1, hw.2.F ht⟩) hw.2.2.2 dX12_drawn_221
                      refine lv_if_ne (tgt := 209) hx hb dX12_drawn_201 (by decide) (fun c201 => ?_) (fun c201 => ?_)
                      · have r201tp : iv xp3 1 2 := (iv_ne_lo c201 c105_xp3 rfl).mono (by decide) (by decide)
                        refine lv_iload_n hx hb dX12_drawn_209 rfl (lv_at hl 3 rfl) ?_
                        refine lv_iconst (v := 1) hx hb dX12_drawn_210 (by decide) ?_
                        refine lv_icmp_ne (tgt := 219) hx hb dX12_drawn_211 (by decide) (fun c211 => ?_) (fun c211 => ?_)
                        · have r211tp : iv xp3 2 2 := (iv_ne_lo c211 r201tp rfl).mono (by decide) (by decide)
                          refine lv_iload hx hb dX12_drawn_219 (lv_at hl 7 rfl) ?_
                          exact J221 y105_l7 H105 locs105 hw _ (lv_sub hl [] rfl)
                        · have r211fp : iv xp3 1 1 := (iv_both r201tp (iv_eq (show iv 1 1 1 from ⟨by decide, by decide⟩) c211)).mono (by decide) (by decide)
                          refine lv_iload hx hb dX12_drawn_214 (lv_at hl 6 rfl) ?_
                          refine lv_goto (tgt := 221) hx hb dX12_drawn_216 (by decide) ?_
                          exact J221 y105_l6 H105 locs105 hw _ (lv_sub hl [] rfl)
                      · have r201fp : iv xp3 0 0 := (iv_both c105_xp3 (iv_eq (show iv 0 0 0 from ⟨by decide, by decide⟩) c201)).mono (by decide) (by decide)
                        refine lv_iload hx hb dX12_drawn_204 (lv_at hl 5 rfl) ?_
                        refine lv_goto (tgt := 221) hx hb dX12_drawn_206 (by decide) ?_
                        exact J221 y105_l5 H105 locs105 hw _ (lv_sub hl [] rfl)
                    · have r108fp : iv y105_l8 0 19 := (iv_lt_l (iv_nle c108) c105_y105_l8 c105_xp1).mono (by decide) (by decide)
                      refine lv_aload_n hx hb dX12_drawn_111 rfl (lv_at hl 0 rfl) ?_
                      refine lv_iload_n hx hb dX12_drawn_112 rfl (lv_at hl 2 rfl) ?_
                      refine hp_callev (va_runV (As := [.int xp2]) (rest := []) ⟨hx, hb, hml, hown, hts⟩ (sX12_drawsDay l D T ap0 xp2 Gm ip0 hgs) (cwV 1 hts gX12_drawn_X12_drawsDay rfl rfl rfl (by decide +kernel) ⟨Nat.le_of_ble_eq_true rfl, Nat.le_of_ble_eq_true rfl⟩) (hp_preV hG hw hp0 rfl trivial) rfl rfl hl.1 rfl (lv_room (Nat.le_of_ble_eq_true rfl)) dX12_drawn_113 ⟨Nat.zero_le _, Nat.zero_le _⟩) hw (fun st113 t113 H113 locs113 eh113 eg113 bx113 hw => ?_)
                      refine lv_aload_n hx hb dX12_drawn_116 rfl (lv_at hl 0 rfl) ?_
                      refine hp_callei (va_runV (As := []) (rest := []) ⟨hx, hb, hml, hown, hts⟩ (sX12_totalOf l D T ap0 Gm ip0) (cwV 0 hts gX12_drawn_X12_totalOf rfl rfl rfl (by decide +kernel) ⟨Nat.le_of_ble_eq_true rfl, Nat.le_of_ble_eq_true rfl⟩) (hp_preV hG hw hp0 rfl trivial) rfl rfl hl.1 rfl (lv_room (Nat.le_of_ble_eq_true rfl)) dX12_drawn_117 ⟨Nat.zero_le _, Nat.zero_le _⟩) hw (fun x117 st117 t117 H117 locs117 eh117 eg117 bx117 hw => ?_)
                      obtain ⟨bx117, g117⟩ := bx117
                      rw [eh117, eg117] at g117
                      refine lv_istore (lv' := [(9, .int x117), (0, .ref ap0), (1, .int xp1), (2, .int xp2), (3, .int xp3), (4, .int x57), (5, .int y105_l5), (6, .int y105_l6), (7, .int y105_l7), (8, .int y105_l8)]) hx hb dX12_drawn_120 hl (by decide) rfl (fun ls hl => ?_)
                      refine lv_iload hx hb dX12_drawn_122 (lv_at hl 6 rfl) ?_
                      refine lv_iload hx hb dX12_drawn_124 (lv_at hl 0 rfl) ?_
                      refine lv_iadd hx hb dX12_drawn_126 ?_
                      refine lv_topi (fun x126 ex126 => ?_)
                      refine lv_istore (lv' := [(5, .int x126), (9, .int x117), (0, .ref ap0), (1, .int xp1), (2, .int xp2), (3, .int xp3), (4, .int x57), (6, .int y105_l6), (7, .int y105_l7), (8, .int y105_l8)]) hx hb dX12_drawn_127 hl (by decide) rfl (fun ls hl => ?_)
                      refine lv_iload hx hb dX12_drawn_129 (lv_at hl 7 rfl) ?_
                      refine lv_iload hx hb dX12_drawn_131 (lv_at hl 1 rfl) ?_
                      refine lv_iconst (v := 2) hx hb dX12_drawn_133 (by decide) ?_
                      refine lv_irem hx hb dX12_drawn_134 (iv_ne0 (show iv 2 2 2 from ⟨by decide, by decide⟩) (by decide)) ?_
                      refine lv_topi (fun x134 ex134 => ?_)
                      have J143 : ∀ (y143_s1 : Int32), iv xp1 1 20 → iv xp2 0 100 → iv xp3 0 2 → iv y105_l8 0 19 → iv y143_s1 0 1 → ∀ (H : Heap) (locs : List Loc), hp_w D T s H locs → ∀ (ls : Array Slot), lv_has ls 11 [(0, .ref ap0), (1, .int xp1), (2, .int xp2), (3, .int xp3), (4, .int x57), (5, .int x126), (7, .int y105_l7), (8, .int y105_l8), (9, .int x117)] → WX12_drawn p l e s m below meth c D T ap0 xp1 xp2 xp3 H locs (F0 m 143 ls [.int y143_s1, .int y105_l6]) := by
                        intro y143_s1 c143_xp1 c143_xp2 c143_xp3 c143_y105_l8 c143_y143_s1 H143 locs143 hw ls hl
                        refine lv_iadd hx hb dX12_drawn_143 ?_
                        refine lv_topi (fun x143 ex143 => ?_)
                        refine lv_istore (lv' := [(6, .int x143), (0, .ref ap0), (1, .int xp1), (2, .int xp2), (3, .int xp3), (4, .int x57), (5, .int x126), (7, .int y105_l7), (8, .int y105_l8), (9, .int x117)]) hx hb dX12_drawn_144 hl (by decide) rfl (fun ls hl => ?_)
                        refine lv_iload hx hb dX12_drawn_146 (lv_at hl 7 rfl) ?_
                        refine lv_iload hx hb dX12_drawn_148 (lv_at hl 9 rfl) ?_
                        refine lv_iload hx hb dX12_drawn_150 (lv_at hl 5 rfl) ?_
                        have J160 : ∀ (y160_s1 : Int32), iv xp1 1 20 → iv xp2 0 100 → iv xp3 0 2 → iv y105_l8 0 19 → iv y160_s1 0 1 → ∀ (H : Heap) (locs : List Loc), hp_w D T s H locs → ∀ (ls : Array Slot), lv_has ls 11 [(0, .ref ap0), (1, .int xp1), (2, .int xp2), (3, .int xp3), (4, .int x57), (5, .int x126), (6, .int x143), (8, .int y105_l8)] → WX12_drawn p l e s m below meth c D T ap0 xp1 xp2 xp3 H locs (F0 m 160 ls [.int y160_s1, .int y105_l7]) := by
                          intro y160_s1 c160_xp1 c160_xp2 c160_xp3 c160_y105_l8 c160_y160_s1 H160 locs160 hw ls hl
                          refine lv_iadd hx hb dX12_drawn_160 ?_
                          refine lv_topi (fun x160 ex160 => ?_)
                          refine lv_istore (lv' := [(7, .int x160), (0, .ref ap0), (1, .int xp1), (2, .int xp2), (3, .int xp3), (4, .int x57), (5, .int x126), (6, .int x143), (8, .int y105_l8)]) hx hb dX12_drawn_161 hl (by decide) rfl (fun ls hl => ?_)
                          refine lv_iconst (v := 0) hx hb dX12_drawn_163 (by decide) ?_
                          refine lv_istore (lv' := [(10, .int 0), (7, .int x160), (0, .ref ap0), (1, .int xp1), (2, .int xp2), (3, .int xp3), (4, .int x57), (5, .int x126), (6, .int x143), (8, .int y105_l8)]) hx hb dX12_drawn_164 hl (by decide) rfl (fun ls hl => ?_)
                          have J166 : ∀ (n : Nat) (y166_l10 : Int32), (255 - y166_l10.toInt).toNat < n → iv xp1 1 20 → iv xp2 0 100 → iv xp3 0 2 → iv y105_l8 0 19 → iv y166_l10 0 255 → ∀ (H : Heap) (locs : List Loc), hp_w D T s H locs → ∀ (ls : Array Slot), lv_has ls 11 [(0, .ref ap0), (1, .int xp1), (2, .int xp2), (3, .int xp3), (4, .int x57), (5, .int x126), (6, .int x143), (7, .int x160), (8, .int y105_l8), (10, .int y166_l10)] → WX12_drawn p l e s m below meth c D T ap0 xp1 xp2 xp3 H locs (F0 m 166 ls []) := by
                            intro n
                            induction n with
                            | zero => intro y166_l10 hmu166 c166_xp1 c166_xp2 c166_xp3 c166_y105_l8 c166_y166_l10 H166 locs166 hw ls hl; exact absurd hmu166 (Nat.not_lt_zero _)
                            | succ n ih166 =>
                              intro y166_l10 hmu166 c166_xp1 c166_xp2 c166_xp3 c166_y105_l8 c166_y166_l10 H166 locs166 hw ls hl
                              refine lv_iload hx hb dX12_drawn_166 (lv_at hl 9 rfl) ?_
                              refine lv_sipush (v := 130) hx hb dX12_drawn_168 (by decide) ?_
                              refine lv_icmp_ge (tgt := 194) hx hb dX12_drawn_171 (by decide) (fun c171 => ?_) (fun c171 => ?_)
                              · have r171tq : iv y166_l10 130 255 := (iv_le_r c171 (show iv 130 130 130 from ⟨by decide, by decide⟩) c166_y166_l10).mono (by decide) (by decide)
                                obtain ⟨x194, ex194⟩ : ∃ y : Int32, y = y105_l8 + 1 := ⟨_, rfl⟩
                                have bx194 : iv x194 1 20 := iv_add c166_y105_l8 (show iv 1 1 1 from ⟨by decide, by decide⟩) ex194 (by decide)
                                have qx194 := iv_add_eq c166_y105_l8 (show iv 1 1 1 from ⟨by decide, by decide⟩) ex194 (by decide)
                                refine lv_iinc (v := x194) (lv' := [(8, .int x194), (0, .ref ap0), (1, .int xp1), (2, .int xp2), (3, .int xp3), (4, .int x57), (5, .int x126), (6, .int x143), (7, .int x160), (10, .int y166_l10)]) hx hb dX12_drawn_194 hl (k := 8) rfl (by rw [ex194]; rfl) (by decide) rfl (fun ls hl => ?_)
                                refine lv_goto (tgt := 105) hx hb dX12_drawn_197 (by decide) ?_
                                exact ih105 x126 x143 x160 x194 (mu_up 1 hmu105 (qx194) (by decide) (show iv x194 0 20 from (bx194.mono (by decide) (by decide))).2) c166_xp1 c166_xp2 c166_xp3 (bx194.mono (by decide) (by decide)) H166 locs166 hw _ (lv_sub hl [1, 2, 3, 4, 5, 6, 7, 8, 0] rfl)
                              · have r171fp : iv y166_l10 0 129 := (iv_lt_l (iv_nle c171) c166_y166_l10 (show iv 130 130 130 from ⟨by decide, by decide⟩)).mono (by decide) (by decide)
                                refine lv_aload_n hx hb dX12_drawn_174 rfl (lv_at hl 0 rfl) ?_
                                refine hp_getr hx hb hts IX12 hown hK hw.1 hp0 rfl 20 (by decide) L39 rfl dX12_drawn_175 ?_
                                refine lv_iload hx hb dX12_drawn_178 (lv_at hl 9 rfl) ?_
                                refine lv_aload_n hx hb dX12_drawn_180 rfl (lv_at hl 0 rfl) ?_
                                refine hp_getr hx hb hts IX12 hown hK hw.1 hp0 rfl 36 (by decide) L67 rfl dX12_drawn_181 ?_
                                refine lv_iload hx hb dX12_drawn_184 (lv_at hl 9 rfl) ?_
                                refine hp_iald hx hb hK hw.1 hp0kept (vp_iv r171fp (by decide)) dX12_drawn_186 (fun v186 h186 => ?_)
                                obtain ⟨x186, rfl⟩ := kP_any h186
                                refine hp_iast hx hb hK hw hp0said (vp_iv r171fp (by decide)) (hgs _ _ (sP_ofr h186 (iv_ltn r171fp (by decide)))) dX12_drawn_187 (fun H187 locs187 hw g187 => ?_)
                                obtain ⟨x188, ex188⟩ : ∃ y : Int32, y = y166_l10 + 1 := ⟨_, rfl⟩
                                have bx188 : iv x188 1 130 := iv_add r171fp (show iv 1 1 1 from ⟨by decide, by decide⟩) ex188 (by decide)
                                have qx188 := iv_add_eq r171fp (show iv 1 1 1 from ⟨by decide, by decide⟩) ex188 (by decide)
                                refine lv_iinc (v := x188) (lv' := [(10, .int x188), (0, .ref ap0), (1, .int xp1), (2, .int xp2), (3, .int xp3), (4, .int x57), (5, .int x126), (6, .int x143), (7, .int x160), (8, .int y105_l8)]) hx hb dX12_drawn_188 hl (k := 9) rfl (by rw [ex188]; rfl) (by decide) rfl (fun ls hl => ?_)
                                refine lv_goto (tgt := 166) hx hb dX12_drawn_191 (by decide) ?_
                                exact ih166 x188 (mu_up 1 hmu166 (qx188) (by decide) (show iv x188 0 255 from (bx188.mono (by decide) (by decide))).2) c166_xp1 c166_xp2 c166_xp3 c166_y105_l8 (bx188.mono (by decide) (by decide)) H187 locs187 hw _ (lv_sub hl [1, 2, 3, 4, 5, 6, 7, 8, 9, 0] rfl)
                          exact J166 _ (0 : Int32) (Nat.lt_succ_self _) c160_xp1 c160_xp2 c160_xp3 c160_y105_l8 (show iv 0 0 255 from ⟨by decide, by decide⟩) H160 locs160 hw _ (lv_sub hl [2, 3, 4, 5, 6, 7, 8, 1, 9, 0] rfl)
                        refine lv_icmp_ne (tgt := 159) hx hb dX12_drawn_152 (by decide) (fun c152 => ?_) (fun c152 => ?_)
                        · refine lv_iconst (v := 0) hx hb dX12_drawn_159 (by decide) ?_
                          exact J160 (0 : Int32) c143_xp1 c143_xp2 c143_xp3 c143_y105_l8 (show iv 0 0 1 from ⟨by decide, by decide⟩) H143 locs143 hw _ (lv_sub hl [1, 2, 3, 4, 5, 6, 0, 8] rfl)
                        · refine lv_iconst (v := 1) hx hb dX12_drawn_155 (by decide) ?_
                          refine lv_goto (tgt := 160) hx hb dX12_drawn_156 (by decide) ?_
                          exact J160 (1 : Int32) c143_xp1 c143_xp2 c143_xp3 c143_y105_l8 (show iv 1 0 1 from ⟨by decide, by decide⟩) H143 locs143 hw _ (lv_sub hl [1, 2, 3, 4, 5, 6, 0, 8] rfl)
                      refine lv_if_eq (tgt := 142) hx hb dX12_drawn_135 (by decide) (fun c135 => ?_) (fun c135 => ?_)
                      · have r135tp : iv x134 0 0 := (iv_both (iv_any x134) (iv_eq (show iv 0 0 0 from ⟨by decide, by decide⟩) c135)).mono (by decide) (by decide)
                        refine lv_iconst (v := 0) hx hb dX12_drawn_142 (by decide) ?_
                        exact J143 (0 : Int32) c105_xp1 c105_xp2 c105_xp3 r108fp (show iv 0 0 1 from ⟨by decide, by decide⟩) H117 locs117 hw _ (lv_sub hl [2, 3, 4, 5, 6, 0, 8, 9, 1] rfl)
                      · refine lv_iconst (v := 1) hx hb dX12_drawn_138 (by decide) ?_
                        refine lv_goto (tgt := 143) hx hb dX12_drawn_139 (by decide) ?_
                        exact J143 (1 : Int32) c105_xp1 c105_xp2 c105_xp3 r108fp (show iv 1 0 1 from ⟨by decide, by decide⟩) H117 locs117 hw _ (lv_sub hl [2, 3, 4, 5, 6, 0, 8, 9, 1] rfl)
                exact J105 _ (0 : Int32) (0 : Int32) (0 : Int32) (0 : Int32) (Nat.lt_succ_self _) c74_xp1 c74_xp2 c74_xp3 (show iv 0 0 20 from ⟨by decide, by decide⟩) H74 locs74 hw _ (lv_sub hl [1, 2, 3, 4, 5, 6, 7, 8, 0] rfl)
              · have r79fp : iv y74_l8 0 129 := (iv_lt_l (iv_nle c79) c74_y74_l8 (show iv 130 130 130 from ⟨by decide, by decide⟩)).mono (by decide) (by decide)
                refine lv_aload_n hx hb dX12_drawn_82 rfl (lv_at hl 0 rfl) ?_
                refine hp_getr hx hb hts IX12 hown hK hw.1 hp0 rfl 36 (by decide) L67 rfl dX12_drawn_83 ?_
                refine lv_iload hx hb dX12_drawn_86 (lv_at hl 8 rfl) ?_
                refine lv_aload_n hx hb dX12_drawn_88 rfl (lv_at hl 0 rfl) ?_
                refine hp_getr hx hb hts IX12 hown hK hw.1 hp0 rfl 20 (by decide) L39 rfl dX12_drawn_89 ?_
                refine lv_iload hx hb dX12_drawn_92 (lv_at hl 8 rfl) ?_
                refine hp_iald hx hb hK hw.1 hp0said (vp_iv r79fp (by decide)) dX12_drawn_94 (fun v94 hr94 => ?_)
                have h94 := gsok _ _ hr94
                obtain ⟨x94, rfl⟩ := sP_any h94
                refine hp_iast hx hb hK hw hp0kept (vp_iv r79fp (by decide)) (rP_ofs h94 (iv_ltn r79fp (by decide))) dX12_drawn_95 (fun H95 locs95 hw g95 => ?_)
                obtain ⟨x96, ex96⟩ : ∃ y : Int32, y = y74_l8 + 1 := ⟨_, rfl⟩
                have bx96 : iv x96 1 130 := iv_add r79fp (show iv 1 1 1 from ⟨by decide, by decide⟩) ex96 (by decide)
                have qx96 := iv_add_eq r79fp (show iv 1 1 1 from ⟨by decide, by decide⟩) ex96 (by decide)
                refine lv_iinc (v := x96) (lv' := [(8, .int x96), (0, .ref ap0), (1, .int xp1), (2, .int xp2), (3, .int xp3), (4, .int x57), (5, .int 0), (6, .int 0), (7, .int 0)]) hx hb dX12_drawn_96 hl (k := 8) rfl (by rw [ex96]; rfl) (by decide) rfl (fun ls hl => ?_)
                refine lv_goto (tgt := 74) hx hb dX12_drawn_99 (by decide) ?_
                exact ih74 x96 (mu_up 1 hmu74 (qx96) (by decide) (show iv x96 0 255 from (bx96.mono (by decide) (by decide))).2) c74_xp1 c74_xp2 c74_xp3 (bx96.mono (by decide) (by decide)) H95 locs95 hw _ (lv_sub hl [1, 2, 3, 4, 5, 6, 7, 8, 0] rfl)
          exact J74 _ (0 : Int32) (Nat.lt_succ_self _) r16fpz r28fpz r40tpz (show iv 0 0 255 from ⟨by decide, by decide⟩) H57 locs57 hw _ (lv_sub hl [5, 6, 7, 8, 4, 3, 2, 1, 0] rfl)
        · have r40fp : iv x37 0 0 := (iv_both bx37 (iv_eq (show iv 0 0 0 from ⟨by decide, by decide⟩) c40)).mono (by decide) (by decide)
          exact J43 s.heap [] hw _ (lv_sub hl [] rfl)
abbrev WX12_haveAlike (p : Program) (l : Launch) (e : Env) (s : State) (m : MethodId) (below : List Frame) (meth : Method) (c : Code) (D : hp_D) (T : hp_T) (ap0 : Nat) (xp1 : Int32) (xp2 : Int32) (H : Heap) (locs : List Loc) (g : JFrame) : Prop := W p l e (headSpec wsX12_haveAlike ({ frames := 0, cells := 0, slots := 0, locals := 0 })).room s m ([.ref ap0, .int xp1, .int xp2] : List Value).toArray below meth c H locs 0 0 (MQ below (hq_p (fun v => ∃ r : Int32, v = some (.int r) ∧ (iv r 0 1 ∧ (r = 1 ∨ (¬ xp1 = xp2))))) ([.ref ap0, .int xp1, .int xp2] : List Value).toArray s 0 0 (fun _ => False)) g
set_option maxHeartbeats 4000000 in
set_option maxRecDepth 100000 in
theorem sX12_haveAlike (l : Launch) (D : hp_D) (T : hp_T) (ap0 : Nat) (xp1 : Int32) (xp2 : Int32) (Gm : moG) (ip0 : isMo T ap0 Gm) (bp1 : iv xp1 0 255) (bp2 : iv xp2 0 255) : Met l yX12_haveAlike wsX12_haveAlike ({ frames := 0, cells := 0, slots := 0, locals := 0 }) (hp_Pc D T [.ref ap0, .int xp1, .int xp2] (fun _ => True)) (hq_p (fun v => ∃ r : Int32, v = some (.int r) ∧ (iv r 0 1 ∧ (r = 1 ∨ (¬ xp1 = xp2))))) 0 0 (fun _ => False) := by
  obtain ⟨ap0tape, ap0sign, ap0len, ap0clause, ap0clauses, ap0read, ap0opn, ap0stack, ap0word, ap0said, ap0was, ap0fitting, ap0sums, ap0sort, ap0sumsBy, ap0oneOf, ap0otherOf, ap0kept, ap0images, ap0acts, ap0iUnd, ap0iFor, ap0iX, ap0made, gok, hp0, hp0tape, hp0sign, hp0len, hp0clause, hp0clauses, hp0read, hp0opn, hp0stack, hp0word, hp0said, hp0was, hp0fitting, hp0sums, hp0sort, hp0sumsBy, hp0oneOf, hp0otherOf, hp0kept, hp0images, hp0acts, hp0iUnd, hp0iFor, hp0iX, hp0made⟩ := id ip0
  have hpx := gok.1
  have gsok := gok.2.2.2.2
  have ggd := gok.2.2.2.1
  refine Met.ofW (cc := cX12_haveAlike) (maxL := 4) (ret := (some .boolean)) (by decide) rfl ?_
  intro p e s m args below meth c s₁ B hml hv
  obtain ⟨rfl, hok, hG, hB⟩ := hv
  have hx := B.exec
  have hb := B.bytes
  have hr := B.returns
  have hts := atoms_spec (ws := wsX12_haveAlike) B.pre
  have hown : s.vm.findClass RX12 = some m.cls := findClass_of_methodNamed B.named
  have hlocks := B.notSynchronized
  have hK := hG.1
  have hw : hp_w D T s s.heap [] := hp_w.rf hok
  have IX12 : ∀ w ∈ wsX120, w ∈ wsX12_haveAlike := by decide +kernel
  have L39 := hts (.fieldLink RX12 39 "PalmCensusModel" "said" "[I") (by decide +kernel)
  have L58 := hts (.fieldLink RX12 58 "PalmCensusModel" "sumsBy" "[I") (by decide +kernel)
  have hl := lv_entry ([.ref ap0, .int xp1, .int xp2]) (n := 4) (Nat.le_of_ble_eq_true rfl)
  rw [lg_entry_eq]
  generalize (lg_sl ([.ref ap0, .int xp1, .int xp2]) ++ List.replicate (4 - (lg_sl ([.ref ap0, .int xp1, .int xp2])).length) Slot.unset).toArray = ls at hl ⊢
  have hl : lv_has ls 4 [(0, .ref ap0), (1, .int xp1), (2, .int xp2)] := hl
  show WX12_haveAlike p l e s m below meth c D T ap0 xp1 xp2 s.heap [] (F0 m 0 ls [])
  refine lv_iconst (v := 0) hx hb dX12_haveAlike_0 (by decide) ?_
  refine lv_istore_n (lv' := [(3, .int 0), (0, .ref ap0), (1, .int xp1), (2, .int xp2)]) hx hb dX12_haveAlike_1 rfl hl (by decide) rfl (fun ls hl => ?_)
  have J2 : ∀ (n : Nat) (y2_l3 : Int32), (12 - y2_l3.toInt).toNat < n → iv xp1 0 255 → iv xp2 0 255 → iv y2_l3 0 12 → ∀ (ls : Array Slot), lv_has ls 4 [(0, .ref ap0), (1, .int xp1), (2, .int xp2), (3, .int y2_l3)] → WX12_haveAlike p l e s m below meth c D T ap0 xp1 xp2 s.heap [] (F0 m 2 ls []) := by
    intro n
    induction n with
    | zero => intro y2_l3 hmu2 c2_xp1 c2_xp2 c2_y2_l3 ls hl; exact absurd hmu2 (Nat.not_lt_zero _)
    | succ n ih2 =>
      intro y2_l3 hmu2 c2_xp1 c2_xp2 c2_y2_l3 ls hl
      refine lv_iload_n hx hb dX12_haveAlike_2 rfl (lv_at hl 3 rfl) ?_
      refine lv_aload_n hx hb dX12_haveAlike_3 rfl (lv_at hl 0 rfl) ?_
      refine hp_getr hx hb hts IX12 hown hK hw.1 hp0 rfl 20 (by decide) L39 rfl dX12_haveAlike_4 ?_
      refine lv_iconst (v := 1) hx hb dX12_haveAlike_7 (by decide) ?_
      refine hp_iald hx hb hK hw.1 hp0said (vp_iv (show iv 1 1 1 from ⟨by decide, by decide⟩) (by decide)) dX12_haveAlike_8 (fun v8 hr8 => ?_)
      have h8 := gsok _ _ hr8
      obtain ⟨x8, rfl, bx8⟩ := sP_rd1 h8 (show iv 1 1 1 from ⟨by decide, by decide⟩)
      refine lv_icmp_ge (tgt := 45) hx hb dX12_haveAlike_9 (by decide) (fun c9 => ?_) (fun c9 => ?_)
      · refine lv_iconst (v := 1) hx hb dX12_haveAlike_45 (by decide) ?_
        exact W.zret (v := 1) hx hb hr (iv_nz (show iv 1 0 1 from ⟨by decide, by decide⟩)) (fun t ht hW => ⟨some (.int 1), rfl, ⟨(1 : Int32), rfl, ⟨(show iv 1 0 1 from ⟨by decide, by decide⟩), (Or.inl rfl)⟩⟩, ht⟩) (fun q h => by cases h) dX12_haveAlike_46
      · have r9fp : iv y2_l3 0 11 := (iv_lt_l (iv_nle c9) c2_y2_l3 bx8).mono (by decide) (by decide)
        have r9fq : iv x8 1 12 := (iv_lt_r (iv_nle c9) c2_y2_l3 bx8).mono (by decide) (by decide)
        refine lv_aload_n hx hb dX12_haveAlike_12 rfl (lv_at hl 0 rfl) ?_
        refine hp_getr hx hb hts IX12 hown hK hw.1 hp0 rfl 29 (by decide) L58 rfl dX12_haveAlike_13 ?_
        refine lv_bipush (v := 12) hx hb dX12_haveAlike_16 (by decide) ?_
        refine lv_iload_n hx hb dX12_haveAlike_18 rfl (lv_at hl 1 rfl) ?_
        refine lv_imul hx hb dX12_haveAlike_19 ?_
        refine lv_topi (fun x19 ex19 => ?_)
        have bx19 : iv x19 0 3060 := iv_mul (show iv 12 12 12 from ⟨by decide, by decide⟩) c2_xp1 ex19 (by decide)
        refine lv_iload_n hx hb dX12_haveAlike_20 rfl (lv_at hl 3 rfl) ?_
        refine lv_iadd hx hb dX12_haveAlike_21 ?_
        refine lv_topi (fun x21 ex21 => ?_)
        have bx21 : iv x21 0 3071 := iv_add bx19 r9fp ex21 (by decide)
        have qx21 := iv_add_eq bx19 r9fp ex21 (by decide)
        refine hp_ialdE hx hb hK hw.1 hp0sumsBy (vp_iv bx21 (by decide)) dX12_haveAlike_22 (fun v22 h22 E22 => ?_)
        obtain ⟨x22, rfl⟩ := h22
        refine lv_aload_n hx hb dX12_haveAlike_23 rfl (lv_at hl 0 rfl) ?_
        refine hp_getr hx hb hts IX12 hown hK hw.1 hp0 rfl 29 (by decide) L58 rfl dX12_haveAlike_24 ?_
        refine lv_bipush (v := 12) hx hb dX12_haveAlike_27 (by decide) ?_
        refine lv_iload_n hx hb dX12_haveAlike_29 rfl (lv_at hl 2 rfl) ?_
        refine lv_imul hx hb dX12_haveAlike_30 ?_
        refine lv_topi (fun x30 ex30 => ?_)
        have bx30 : iv x30 0 3060 := iv_mul (show iv 12 12 12 from ⟨by decide, by decide⟩) c2_xp2 ex30 (by decide)
        refine lv_iload_n hx hb dX12_haveAlike_31 rfl (lv_at hl 3 rfl) ?_
        refine lv_iadd hx hb dX12_haveAlike_32 ?_
        refine lv_topi (fun x32 ex32 => ?_)
        have bx32 : iv x32 0 3071 := iv_add bx30 r9fp ex32 (by decide)
        have qx32 := iv_add_eq bx30 r9fp ex32 (by decide)
        refine hp_ialdE hx hb hK hw.1 hp0sumsBy (vp_iv bx32 (by decide)) dX12_haveAlike_33 (fun v33 h33 E33 => ?_)
        obtain ⟨x33, rfl⟩ := h33
        refine lv_icmp_eq (tgt := 39) hx hb dX12_haveAlike_34 (by decide) (fun c34 => ?_) (fun c34 => ?_)
        · obtain ⟨x39, ex39⟩ : ∃ y : Int32, y = y2_l3 + 1 := ⟨_, rfl⟩
          have bx39 : iv x39 1 12 := iv_add r9fp (show iv 1 1 1 from ⟨by decide, by decide⟩) ex39 (by decide)
          have qx39 := iv_add_eq r9fp (show iv 1 1 1 from ⟨by decide, by decide⟩) ex39 (by decide)
          refine lv_iinc (v := x39) (lv' := [(3, .int x39), (0, .ref ap0), (1, .int xp1), (2, .int xp2)]) hx hb dX12_haveAlike_39 hl (k := 3) rfl (by rw [ex39]; rfl) (by decide) rfl (fun ls hl => ?_)
          refine lv_goto (tgt := 2) hx hb dX12_haveAlike_42 (by decide) ?_
          exact ih2 x39 (mu_up 1 hmu2 (qx39) (by decide) (show iv x39 0 12 from (bx39.mono (by decide) (by decide))).2) c2_xp1 c2_xp2 (bx39.mono (by decide) (by decide)) _ (lv_sub hl [1, 2, 3, 0] rfl)
        · refine lv_iconst (v := 0) hx hb dX12_haveAlike_37 (by decide) ?_
          exact W.zret (v := 0) hx hb hr (iv_nz (show iv 0 0 1 from ⟨by decide, by decide⟩)) (fun t ht hW => ⟨some (.int 0), rfl, ⟨(0 : Int32), rfl, ⟨(show iv 0 0 1 from ⟨by decide, by decide⟩), (Or.inr (fun e9 => c34 (hp_et.int E22 (by rw [show x21 = x32 from by rw [ex21, ex32, ex19, ex30, e9]]; exact E33))))⟩⟩, ht⟩) (fun q h => by cases h) dX12_haveAlike_38
  exact J2 _ (0 : Int32) (Nat.lt_succ_self _) bp1 bp2 (show iv 0 0 12 from ⟨by decide, by decide⟩) _ (lv_sub hl [1, 2, 3, 0] rfl)
abbrev WX12_sorts (p : Program) (l : Launch) (e : Env) (s : State) (m : MethodId) (below : List Frame) (meth : Method) (c : Code) (D : hp_D) (T : hp_T) (ap0 : Nat) (xp1 : Int32) (H : Heap) (locs : List Loc) (g : JFrame) : Prop := W p l e (headSpec wsX12_sorts ({ frames := 5, cells := 0, slots := 0, locals := 128 })).room s m ([.ref ap0, .int xp1] : List Value).toArray below meth c H locs 0 0 (MQ below (hq_e D T (fun v st t => v = none ∧ ((True) ∧ hp_km D [(12, 18)] st.heap t.heap))) ([.ref ap0, .int xp1] : List Value).toArray s 0 0 (hp_F T)) g
set_option maxHeartbeats 4000000 in
set_option maxRecDepth 100000 in
theorem sX12_sorts (l : Launch) (D : hp_D) (T : hp_T) (ap0 : Nat) (xp1 : Int32) (Gm : moG) (ip0 : isMo T ap0 Gm) (h8 : ∀ v, gs Gm 2 v → rI 0 8 v) (bp1 : iv xp1 0 5) : Met l yX12_sorts wsX12_sorts ({ frames := 5, cells := 0, slots := 0, locals := 128 }) (hp_Pc D T [.ref ap0, .int xp1] (fun _ => True)) (hq_e D T (fun v st t => v = none ∧ ((True) ∧ hp_km D [(12, 18)] st.heap t.heap))) 0 0 (hp_F T) := by
  obtain ⟨ap0tape, ap0sign, ap0len, ap0clause, ap0clauses, ap0read, ap0opn, ap0stack, ap0word, ap0said, ap0was, ap0fitting, ap0sums, ap0sort, ap0sumsBy, ap0oneOf, ap0otherOf, ap0kept, ap0images, ap0acts, ap0iUnd, ap0iFor, ap0iX, ap0made, gok, hp0, hp0tape, hp0sign, hp0len, hp0clause, hp0clauses, hp0read, hp0opn, hp0stack, hp0word, hp0said, hp0was, hp0fitting, hp0sums, hp0sort, hp0sumsBy, hp0oneOf, hp0otherOf, hp0kept, hp0images, hp0acts, hp0iUnd, hp0iFor, hp0iX, hp0made⟩ := id ip0
  have hpx := gok.1
  have gsok := gok.2.2.2.2
  have ggd := gok.2.2.2.1
  refine Met.ofW (cc := cX12_sorts) (maxL := 5) (ret := none) (by decide) rfl ?_
  intro p e s m args below meth c s₁ B hml hv
  obtain ⟨rfl, hok, hG, hB⟩ := hv
  have hx := B.exec
  have hb := B.bytes
  have hr := B.returns
  have hts := atoms_spec (ws := wsX12_sorts) B.pre
  have hown : s.vm.findClass RX12 = some m.cls := findClass_of_methodNamed B.named
  have hlocks := B.notSynchronized
  have hK := hG.1
  have hw : hp_w D T s s.heap [] := hp_w.rf hok
  have IX12 : ∀ w ∈ wsX120, w ∈ wsX12_sorts := by decide +kernel
  have L55 := hts (.fieldLink RX12 55 "PalmCensusModel" "sort" "[I") (by decide +kernel)
  have L39 := hts (.fieldLink RX12 39 "PalmCensusModel" "said" "[I") (by decide +kernel)
  have L58 := hts (.fieldLink RX12 58 "PalmCensusModel" "sumsBy" "[I") (by decide +kernel)
  have hkm : hp_km D [(12, 18)] s.heap s.heap := fun _ _ _ _ h _ => h
  have hl := lv_entry ([.ref ap0, .int xp1]) (n := 5) (Nat.le_of_ble_eq_true rfl)
  rw [lg_entry_eq]
  generalize (lg_sl ([.ref ap0, .int xp1]) ++ List.replicate (5 - (lg_sl ([.ref ap0, .int xp1])).length) Slot.unset).toArray = ls at hl ⊢
  have hl : lv_has ls 5 [(0, .ref ap0), (1, .int xp1)] := hl
  show WX12_sorts p l e s m below meth c D T ap0 xp1 s.heap [] (F0 m 0 ls [])
  refine lv_aload_n hx hb dX12_sorts_0 rfl (lv_at hl 0 rfl) ?_
  refine hp_callpi (va_runV (As := []) (rest := []) ⟨hx, hb, hml, hown, hts⟩ (sX12_everybody_8 l D T ap0 Gm ip0 h8) (cwV 0 hts gX12_sorts_X12_everybody rfl rfl rfl (by decide +kernel) ⟨Nat.le_of_ble_eq_true rfl, Nat.le_of_ble_eq_true rfl⟩) (hp_preV hG hw hp0 rfl trivial) rfl rfl hl.1 rfl (lv_room (Nat.le_of_ble_eq_true rfl)) dX12_sorts_1 ⟨Nat.zero_le _, Nat.zero_le _⟩) (fun x1 bx1 => ?_)
  refine lv_iconst (v := 1) hx hb dX12_sorts_4 (by decide) ?_
  refine lv_iadd hx hb dX12_sorts_5 ?_
  refine lv_topi (fun x5 ex5 => ?_)
  have bx5 : iv x5 1 256 := iv_add bx1 (show iv 1 1 1 from ⟨by decide, by decide⟩) ex5 (by decide)
  have qx5 := iv_add_eq bx1 (show iv 1 1 1 from ⟨by decide, by decide⟩) ex5 (by decide)
  refine lv_istore_n (lv' := [(2, .int x5), (0, .ref ap0), (1, .int xp1)]) hx hb dX12_sorts_6 rfl hl (by decide) rfl (fun ls hl => ?_)
  refine lv_iconst (v := 0) hx hb dX12_sorts_7 (by decide) ?_
  refine lv_istore_n (lv' := [(3, .int 0), (2, .int x5), (0, .ref ap0), (1, .int xp1)]) hx hb dX12_sorts_8 rfl hl (by decide) rfl (fun ls hl => ?_)
  have J9 : ∀ (n : Nat) (y9_l3 : Int32), (256 - y9_l3.toInt).toNat < n → iv xp1 0 5 → iv x5 1 256 → iv y9_l3 0 256 → ∀ (H : Heap) (locs : List Loc), hp_w D T s H locs → hp_km D [(12, 18)] s.heap H → ∀ (ls : Array Slot), lv_has ls 5 [(0, .ref ap0), (1, .int xp1), (2, .int x5), (3, .int y9_l3)] → WX12_sorts p l e s m below meth c D T ap0 xp1 H locs (F0 m 9 ls []) := by
    intro n
    induction n with
    | zero => intro y9_l3 hmu9 c9_xp1 c9_x5 c9_y9_l3 H9 locs9 hw hkm ls hl; exact absurd hmu9 (Nat.not_lt_zero _)
    | succ n ih9 =>
      intro y9_l3 hmu9 c9_xp1 c9_x5 c9_y9_l3 H9 locs9 hw hkm ls hl
      refine lv_iload_n hx hb dX12_sorts_9 rfl (lv_at hl 3 rfl) ?_
      refine lv_iload_n hx hb dX12_sorts_10 rfl (lv_at hl 2 rfl) ?_
      refine lv_icmp_ge (tgt := 60) hx hb dX12_sorts_11 (by decide) (fun c11 => ?_) (fun c11 => ?_)
      · have r11tq : iv y9_l3 1 256 := (iv_le_r c11 c9_x5 c9_y9_l3).mono (by decide) (by decide)
        refine lv_iconst (v := 0) hx hb dX12_sorts_60 (by decide) ?_
        refine lv_istore_n (lv' := [(3, .int 0), (0, .ref ap0), (1, .int xp1), (2, .int x5)]) hx hb dX12_sorts_61 rfl hl (by decide) rfl (fun ls hl => ?_)
        have J62 : ∀ (n : Nat) (y62_l3 : Int32), (256 - y62_l3.toInt).toNat < n → iv xp1 0 5 → iv x5 1 256 → iv y62_l3 0 256 → ∀ (H : Heap) (locs : List Loc), hp_w D T s H locs → hp_km D [(12, 18)] s.heap H → ∀ (ls : Array Slot), lv_has ls 5 [(0, .ref ap0), (1, .int xp1), (2, .int x5), (3, .int y62_l3)] → WX12_sorts p l e s m below meth c D T ap0 xp1 H locs (F0 m 62 ls []) := by
          intro n
          induction n with
          | zero => intro y62_l3 hmu62 c62_xp1 c62_x5 c62_y62_l3 H62 locs62 hw hkm ls hl; exact absurd hmu62 (Nat.not_lt_zero _)
          | succ n ih62 =>
            intro y62_l3 hmu62 c62_xp1 c62_x5 c62_y62_l3 H62 locs62 hw hkm ls hl
            refine lv_iload_n hx hb dX12_sorts_62 rfl (lv_at hl 3 rfl) ?_
            refine lv_iload_n hx hb dX12_sorts_63 rfl (lv_at hl 2 rfl) ?_
            refine lv_icmp_ge (tgt := 106) hx hb dX12_sorts_64 (by decide) (fun c64 => ?_) (fun c64 => ?_)
            · have r64tq : iv y62_l3 1 256 := (iv_le_r c64 c62_x5 c62_y62_l3).mono (by decide) (by decide)
              exact W.vret hx hb hr (fun t ht hW => ⟨none, rfl, ⟨rfl, ⟨trivial, by rw [ht]; exact hkm⟩⟩, by rw [ht]; exact hw.1, hw.2.F ht⟩) hw.2.2.2 dX12_sorts_106
            · have r64fp : iv y62_l3 0 255 := (iv_lt_l (iv_nle c64) c62_y62_l3 c62_x5).mono (by decide) (by decide)
              refine lv_iconst (v := 0) hx hb dX12_sorts_67 (by decide) ?_
              refine lv_istore (lv' := [(4, .int 0), (0, .ref ap0), (1, .int xp1), (2, .int x5), (3, .int y62_l3)]) hx hb dX12_sorts_68 hl (by decide) rfl (fun ls hl => ?_)
              have J70 : ∀ (n : Nat) (y70_l4 : Int32), (255 - y70_l4.toInt).toNat < n → iv xp1 0 5 → iv x5 1 256 → iv y62_l3 0 255 → iv y70_l4 0 255 → y70_l4.toInt ≤ y62_l3.toInt → ∀ (H : Heap) (locs : List Loc), hp_w D T s H locs → hp_km D [(12, 18)] s.heap H → ∀ (ls : Array Slot), lv_has ls 5 [(0, .ref ap0), (1, .int xp1), (2, .int x5), (3, .int y62_l3), (4, .int y70_l4)] → WX12_sorts p l e s m below meth c D T ap0 xp1 H locs (F0 m 70 ls []) := by
                intro n
                induction n with
                | zero => intro y70_l4 hmu70 c70_xp1 c70_x5 c70_y62_l3 c70_y70_l4 hv70_0 H70 locs70 hw hkm ls hl; exact absurd hmu70 (Nat.not_lt_zero _)
                | succ n ih70 =>
                  intro y70_l4 hmu70 c70_xp1 c70_x5 c70_y62_l3 c70_y70_l4 hv70_0 H70 locs70 hw hkm ls hl
                  refine lv_aload_n hx hb dX12_sorts_70 rfl (lv_at hl 0 rfl) ?_
                  refine lv_iload hx hb dX12_sorts_71 (lv_at hl 4 rfl) ?_
                  refine lv_iload_n hx hb dX12_sorts_73 rfl (lv_at hl 3 rfl) ?_
                  refine hp_callpi (va_runV (As := [.int y70_l4, .int y62_l3]) (rest := []) ⟨hx, hb, hml, hown, hts⟩ (sX12_haveAlike l D T ap0 y70_l4 y62_l3 Gm ip0 c70_y70_l4 c70_y62_l3) (cwV 2 hts gX12_sorts_X12_haveAlike rfl rfl rfl (by decide +kernel) ⟨Nat.le_of_ble_eq_true rfl, Nat.le_of_ble_eq_true rfl⟩) (hp_preV hG hw hp0 rfl trivial) rfl rfl hl.1 rfl (lv_room (Nat.le_of_ble_eq_true rfl)) dX12_sorts_74 ⟨Nat.zero_le _, Nat.zero_le _⟩) (fun x74 bx74 => ?_)
                  obtain ⟨bx74, ox74⟩ := bx74
                  refine lv_if_ne (tgt := 86) hx hb dX12_sorts_77 (by decide) (fun c77 => ?_) (fun c77 => ?_)
                  · have r77tp : iv x74 1 1 := (iv_ne_lo c77 bx74 rfl).mono (by decide) (by decide)
                    refine lv_aload_n hx hb dX12_sorts_86 rfl (lv_at hl 0 rfl) ?_
                    refine hp_getr hx hb hts IX12 hown hK hw.1 hp0 rfl 28 (by decide) L55 rfl dX12_sorts_87 ?_
                    refine lv_sipush (v := 256) hx hb dX12_sorts_90 (by decide) ?_
                    refine lv_iload_n hx hb dX12_sorts_93 rfl (lv_at hl 1 rfl) ?_
                    refine lv_imul hx hb dX12_sorts_94 ?_
                    refine lv_topi (fun x94 ex94 => ?_)
                    have bx94 : iv x94 0 1280 := iv_mul (show iv 256 256 256 from ⟨by decide, by decide⟩) c70_xp1 ex94 (by decide)
                    refine lv_iload_n hx hb dX12_sorts_95 rfl (lv_at hl 3 rfl) ?_
                    refine lv_iadd hx hb dX12_sorts_96 ?_
                    refine lv_topi (fun x96 ex96 => ?_)
                    have bx96 : iv x96 0 1535 := iv_add bx94 c70_y62_l3 ex96 (by decide)
                    have qx96 := iv_add_eq bx94 c70_y62_l3 ex96 (by decide)
                    refine lv_iload hx hb dX12_sorts_97 (lv_at hl 4 rfl) ?_
                    refine hp_iast hx hb hK hw hp0sort (vp_iv bx96 (by decide)) ⟨_, rfl⟩ dX12_sorts_99 (fun H99 locs99 hw g99 => ?_)
                    have hkm := hkm.ar g99
                    obtain ⟨x100, ex100⟩ : ∃ y : Int32, y = y62_l3 + 1 := ⟨_, rfl⟩
                    have bx100 : iv x100 1 256 := iv_add c70_y62_l3 (show iv 1 1 1 from ⟨by decide, by decide⟩) ex100 (by decide)
                    have qx100 := iv_add_eq c70_y62_l3 (show iv 1 1 1 from ⟨by decide, by decide⟩) ex100 (by decide)
                    refine lv_iinc (v := x100) (lv' := [(3, .int x100), (0, .ref ap0), (1, .int xp1), (2, .int x5), (4, .int y70_l4)]) hx hb dX12_sorts_100 hl (k := 3) rfl (by rw [ex100]; rfl) (by decide) rfl (fun ls hl => ?_)
                    refine lv_goto (tgt := 62) hx hb dX12_sorts_103 (by decide) ?_
                    exact ih62 x100 (mu_up 1 hmu62 (qx100) (by decide) (show iv x100 0 256 from (bx100.mono (by decide) (by decide))).2) c70_xp1 c70_x5 (bx100.mono (by decide) (by decide)) H99 locs99 hw hkm _ (lv_sub hl [1, 2, 3, 0] rfl)
                  · have r77fp : iv x74 0 0 := (iv_both bx74 (iv_eq (show iv 0 0 0 from ⟨by decide, by decide⟩) c77)).mono (by decide) (by decide)
                    have hne : ¬ y70_l4 = y62_l3 := ox74.resolve_left (fun h9 => by rw [h9] at c77; exact absurd c77 (by decide))
                    have wa : iv y70_l4 0 254 := ⟨c70_y70_l4.1, by have := iv_neq hne; have := (c70_y70_l4).1; have := (c70_y70_l4).2; have := (c70_y62_l3).1; have := (c70_y62_l3).2; omega⟩
                    obtain ⟨x80, ex80⟩ : ∃ y : Int32, y = y70_l4 + 1 := ⟨_, rfl⟩
                    have bx80 : iv x80 1 255 := iv_add wa (show iv 1 1 1 from ⟨by decide, by decide⟩) ex80 (by decide)
                    have qx80 := iv_add_eq wa (show iv 1 1 1 from ⟨by decide, by decide⟩) ex80 (by decide)
                    refine lv_iinc (v := x80) (lv' := [(4, .int x80), (0, .ref ap0), (1, .int xp1), (2, .int x5), (3, .int y62_l3)]) hx hb dX12_sorts_80 hl (k := 4) rfl (by rw [ex80]; rfl) (by decide) rfl (fun ls hl => ?_)
                    refine lv_goto (tgt := 70) hx hb dX12_sorts_83 (by decide) ?_
                    exact ih70 x80 (mu_up 1 hmu70 (qx80) (by decide) (show iv x80 0 255 from (bx80.mono (by decide) (by decide))).2) c70_xp1 c70_x5 c70_y62_l3 (bx80.mono (by decide) (by decide)) (show x80.toInt ≤ y62_l3.toInt from by have := (bx80).1; have := (bx80).2; have := (c70_y62_l3).1; have := (c70_y62_l3).2; have := (wa).1; have := (wa).2; have : (1 : Int32).toInt = 1 := (by decide); have := iv_neq hne; omega) H70 locs70 hw hkm _ (lv_sub hl [1, 2, 3, 4, 0] rfl)
              exact J70 _ (0 : Int32) (Nat.lt_succ_self _) c62_xp1 c62_x5 r64fp (show iv 0 0 255 from ⟨by decide, by decide⟩) (show 0 ≤ y62_l3.toInt from by have := (r64fp).1; have := (r64fp).2; have := (c62_x5).1; have := (c62_x5).2; have := (Int32.lt_iff_toInt_lt.mp (iv_nle c64)); have : (1 : Int32).toInt = 1 := (by decide); omega) H62 locs62 hw hkm _ (lv_sub hl [1, 2, 3, 4, 0] rfl)
        exact J62 _ (0 : Int32) (Nat.lt_succ_self _) c9_xp1 c9_x5 (show iv 0 0 256 from ⟨by decide, by decide⟩) H9 locs9 hw hkm _ (lv_sub hl [1, 2, 3, 0] rfl)
      · have r11fp : iv y9_l3 0 255 := (iv_lt_l (iv_nle c11) c9_y9_l3 c9_x5).mono (by decide) (by decide)
        refine lv_iconst (v := 0) hx hb dX12_sorts_14 (by decide) ?_
        refine lv_istore (lv' := [(4, .int 0), (0, .ref ap0), (1, .int xp1), (2, .int x5), (3, .int y9_l3)]) hx hb dX12_sorts_15 hl (by decide) rfl (fun ls hl => ?_)
        have J17 : ∀ (n : Nat) (y17_l4 : Int32), (12 - y17_l4.toInt).toNat < n → iv xp1 0 5 → iv x5 1 256 → iv y9_l3 0 255 → iv y17_l4 0 12 → ∀ (H : Heap) (locs : List Loc), hp_w D T s H locs → hp_km D [(12, 18)] s.heap H → ∀ (ls : Array Slot), lv_has ls 5 [(0, .ref ap0), (1, .int xp1), (2, .int x5), (3, .int y9_l3), (4, .int y17_l4)] → WX12_sorts p l e s m below meth c D T ap0 xp1 H locs (F0 m 17 ls []) := by
          intro n
          induction n with
          | zero => intro y17_l4 hmu17 c17_xp1 c17_x5 c17_y9_l3 c17_y17_l4 H17 locs17 hw hkm ls hl; exact absurd hmu17 (Nat.not_lt_zero _)
          | succ n ih17 =>
            intro y17_l4 hmu17 c17_xp1 c17_x5 c17_y9_l3 c17_y17_l4 H17 locs17 hw hkm ls hl
            refine lv_iload hx hb dX12_sorts_17 (lv_at hl 4 rfl) ?_
            refine lv_aload_n hx hb dX12_sorts_19 rfl (lv_at hl 0 rfl) ?_
            refine hp_getr hx hb hts IX12 hown hK hw.1 hp0 rfl 20 (by decide) L39 rfl dX12_sorts_20 ?_
            refine lv_iconst (v := 1) hx hb dX12_sorts_23 (by decide) ?_
            refine hp_iald hx hb hK hw.1 hp0said (vp_iv (show iv 1 1 1 from ⟨by decide, by decide⟩) (by decide)) dX12_sorts_24 (fun v24 hr24 => ?_)
            have h24 := gsok _ _ hr24
            obtain ⟨x24, rfl, bx24⟩ := sP_rd1 h24 (show iv 1 1 1 from ⟨by decide, by decide⟩)
            refine lv_icmp_ge (tgt := 54) hx hb dX12_sorts_25 (by decide) (fun c25 => ?_) (fun c25 => ?_)
            · obtain ⟨x54, ex54⟩ : ∃ y : Int32, y = y9_l3 + 1 := ⟨_, rfl⟩
              have bx54 : iv x54 1 256 := iv_add c17_y9_l3 (show iv 1 1 1 from ⟨by decide, by decide⟩) ex54 (by decide)
              have qx54 := iv_add_eq c17_y9_l3 (show iv 1 1 1 from ⟨by decide, by decide⟩) ex54 (by decide)
              refine lv_iinc (v := x54) (lv' := [(3, .int x54), (0, .ref ap0), (1, .int xp1), (2, .int x5), (4, .int y17_l4)]) hx hb dX12_sorts_54 hl (k := 3) rfl (by rw [ex54]; rfl) (by decide) rfl (fun ls hl => ?_)
              refine lv_goto (tgt := 9) hx hb dX12_sorts_57 (by decide) ?_
              exact ih9 x54 (mu_up 1 hmu9 (qx54) (by decide) (show iv x54 0 256 from (bx54.mono (by decide) (by decide))).2) c17_xp1 c17_x5 (bx54.mono (by decide) (by decide)) H17 locs17 hw hkm _ (lv_sub hl [1, 2, 3, 0] rfl)
            · have r25fp : iv y17_l4 0 11 := (iv_lt_l (iv_nle c25) c17_y17_l4 bx24).mono (by decide) (by decide)
              have r25fq : iv x24 1 12 := (iv_lt_r (iv_nle c25) c17_y17_l4 bx24).mono (by decide) (by decide)
              refine lv_aload_n hx hb dX12_sorts_28 rfl (lv_at hl 0 rfl) ?_
              refine hp_getr hx hb hts IX12 hown hK hw.1 hp0 rfl 29 (by decide) L58 rfl dX12_sorts_29 ?_
              refine lv_bipush (v := 12) hx hb dX12_sorts_32 (by decide) ?_
              refine lv_iload_n hx hb dX12_sorts_34 rfl (lv_at hl 3 rfl) ?_
              refine lv_imul hx hb dX12_sorts_35 ?_
              refine lv_topi (fun x35 ex35 => ?_)
              have bx35 : iv x35 0 3060 := iv_mul (show iv 12 12 12 from ⟨by decide, by decide⟩) c17_y9_l3 ex35 (by decide)
              refine lv_iload hx hb dX12_sorts_36 (lv_at hl 4 rfl) ?_
              refine lv_iadd hx hb dX12_sorts_38 ?_
              refine lv_topi (fun x38 ex38 => ?_)
              have bx38 : iv x38 0 3071 := iv_add bx35 r25fp ex38 (by decide)
              have qx38 := iv_add_eq bx35 r25fp ex38 (by decide)
              refine lv_aload_n hx hb dX12_sorts_39 rfl (lv_at hl 0 rfl) ?_
              refine lv_iload_n hx hb dX12_sorts_40 rfl (lv_at hl 3 rfl) ?_
              refine lv_iload_n hx hb dX12_sorts_41 rfl (lv_at hl 1 rfl) ?_
              refine lv_iload hx hb dX12_sorts_42 (lv_at hl 4 rfl) ?_
              refine hp_callei (va_runV (As := [.int y9_l3, .int xp1, .int y17_l4]) (rest := [.int x38, .ref ap0sumsBy]) ⟨hx, hb, hml, hown, hts⟩ (sX12_sumOf l D T ap0 y9_l3 xp1 y17_l4 Gm ip0 r25fp) (cwV 3 hts gX12_sorts_X12_sumOf rfl rfl rfl (by decide +kernel) ⟨Nat.le_of_ble_eq_true rfl, Nat.le_of_ble_eq_true rfl⟩) (hp_preV hG hw hp0 rfl trivial) rfl rfl hl.1 rfl (lv_room (Nat.le_of_ble_eq_true rfl)) dX12_sorts_44 ⟨Nat.zero_le _, Nat.zero_le _⟩) hw (fun x44 st44 t44 H44 locs44 eh44 eg44 bx44 hw => ?_)
              obtain ⟨bx44, g44⟩ := bx44
              rw [eh44, eg44] at g44
              have hkm := hkm.call g44 (by decide)
              refine hp_iast hx hb hK hw hp0sumsBy (vp_iv bx38 (by decide)) ⟨_, rfl⟩ dX12_sorts_47 (fun H47 locs47 hw g47 => ?_)
              have hkm := hkm.ar g47
              obtain ⟨x48, ex48⟩ : ∃ y : Int32, y = y17_l4 + 1 := ⟨_, rfl⟩
              have bx48 : iv x48 1 12 := iv_add r25fp (show iv 1 1 1 from ⟨by decide, by decide⟩) ex48 (by decide)
              have qx48 := iv_add_eq r25fp (show iv 1 1 1 from ⟨by decide, by decide⟩) ex48 (by decide)
              refine lv_iinc (v := x48) (lv' := [(4, .int x48), (0, .ref ap0), (1, .int xp1), (2, .int x5), (3, .int y9_l3)]) hx hb dX12_sorts_48 hl (k := 4) rfl (by rw [ex48]; rfl) (by decide) rfl (fun ls hl => ?_)
              refine lv_goto (tgt := 17) hx hb dX12_sorts_51 (by decide) ?_
              exact ih17 x48 (mu_up 1 hmu17 (qx48) (by decide) (show iv x48 0 12 from (bx48.mono (by decide) (by decide))).2) c17_xp1 c17_x5 c17_y9_l3 (bx48.mono (by decide) (by decide)) H47 locs47 hw hkm _ (lv_sub hl [1, 2, 3, 4, 0] rfl)
        exact J17 _ (0 : Int32) (Nat.lt_succ_self _) c9_xp1 c9_x5 r11fp (show iv 0 0 12 from ⟨by decide, by decide⟩) H9 locs9 hw hkm _ (lv_sub hl [1, 2, 3, 4, 0] rfl)
  exact J9 _ (0 : Int32) (Nat.lt_succ_self _) bp1 bx5 (show iv 0 0 256 from ⟨by decide, by decide⟩) s.heap [] hw hkm _ (lv_sub hl [2, 3, 1, 0] rfl)
abbrev WX12_islands (p : Program) (l : Launch) (e : Env) (s : State) (m : MethodId) (below : List Frame) (meth : Method) (c : Code) (D : hp_D) (T : hp_T) (ap0 : Nat) (H : Heap) (locs : List Loc) (g : JFrame) : Prop := W p l e (headSpec wsX12_islands ({ frames := 4, cells := 0, slots := 0, locals := 91 })).room s m ([.ref ap0] : List Value).toArray below meth c H locs 0 0 (MQ below (hq_p (fun v => ∃ r : Int32, v = some (.int r) ∧ True)) ([.ref ap0] : List Value).toArray s 0 0 (fun _ => False)) g
set_option maxHeartbeats 4000000 in
set_option maxRecDepth 100000 in
theorem sX12_islands (l : Launch) (D : hp_D) (T : hp_T) (ap0 : Nat) (Gm : moG) (ip0 : isMo T ap0 Gm) : Met l yX12_islands wsX12_islands ({ frames := 4, cells := 0, slots := 0, locals := 91 }) (hp_Pc D T [.ref ap0] (fun _ => True)) (hq_p (fun v => ∃ r : Int32, v = some (.int r) ∧ True)) 0 0 (fun _ => False) := by
  obtain ⟨ap0tape, ap0sign, ap0len, ap0clause, ap0clauses, ap0read, ap0opn, ap0stack, ap0word, ap0said, ap0was, ap0fitting, ap0sums, ap0sort, ap0sumsBy, ap0oneOf, ap0otherOf, ap0kept, ap0images, ap0acts, ap0iUnd, ap0iFor, ap0iX, ap0made, gok, hp0, hp0tape, hp0sign, hp0len, hp0clause, hp0clauses, hp0read, hp0opn, hp0stack, hp0word, hp0said, hp0was, hp0fitting, hp0sums, hp0sort, hp0sumsBy, hp0oneOf, hp0otherOf, hp0kept, hp0images, hp0acts, hp0iUnd, hp0iFor, hp0iX, hp0made⟩ := id ip0
  have hpx := gok.1
  have gsok := gok.2.2.2.2
  have ggd := gok.2.2.2.1
  refine Met.ofW (cc := cX12_islands) (maxL := 6) (ret := (some .int)) (by decide) rfl ?_
  intro p e s m args below meth c s₁ B hml hv
  obtain ⟨rfl, hok, hG, hB⟩ := hv
  have hx := B.exec
  have hb := B.bytes
  have hr := B.returns
  have hts := atoms_spec (ws := wsX12_islands) B.pre
  have hown : s.vm.findClass RX12 = some m.cls := findClass_of_methodNamed B.named
  have hlocks := B.notSynchronized
  have hK := hG.1
  have hw : hp_w D T s s.heap [] := hp_w.rf hok
  have IX12 : ∀ w ∈ wsX120, w ∈ wsX12_islands := by decide +kernel
  have L39 := hts (.fieldLink RX12 39 "PalmCensusModel" "said" "[I") (by decide +kernel)
  have hl := lv_entry ([.ref ap0]) (n := 6) (Nat.le_of_ble_eq_true rfl)
  rw [lg_entry_eq]
  generalize (lg_sl ([.ref ap0]) ++ List.replicate (6 - (lg_sl ([.ref ap0])).length) Slot.unset).toArray = ls at hl ⊢
  have hl : lv_has ls 6 [(0, .ref ap0)] := hl
  show WX12_islands p l e s m below meth c D T ap0 s.heap [] (F0 m 0 ls [])
  refine lv_aload_n hx hb dX12_islands_0 rfl (lv_at hl 0 rfl) ?_
  refine hp_callpi (va_runV (As := []) (rest := []) ⟨hx, hb, hml, hown, hts⟩ (sX12_isTown l D T ap0 Gm ip0) (cwV 0 hts gX12_islands_X12_isTown rfl rfl rfl (by decide +kernel) ⟨Nat.le_of_ble_eq_true rfl, Nat.le_of_ble_eq_true rfl⟩) (hp_preV hG hw hp0 rfl trivial) rfl rfl hl.1 rfl (lv_room (Nat.le_of_ble_eq_true rfl)) dX12_islands_1 ⟨Nat.zero_le _, Nat.zero_le _⟩) (fun x1 bx1 => ?_)
  refine lv_if_ne (tgt := 9) hx hb dX12_islands_4 (by decide) (fun c4 => ?_) (fun c4 => ?_)
  · have r4tp : iv x1 1 1 := (iv_ne_lo c4 bx1 rfl).mono (by decide) (by decide)
    refine lv_aload_n hx hb dX12_islands_9 rfl (lv_at hl 0 rfl) ?_
    refine hp_callpi (va_runV (As := []) (rest := []) ⟨hx, hb, hml, hown, hts⟩ (sX12_everybody_0 l D T ap0 Gm ip0) (cwV 0 hts gX12_islands_X12_everybody rfl rfl rfl (by decide +kernel) ⟨Nat.le_of_ble_eq_true rfl, Nat.le_of_ble_eq_true rfl⟩) (hp_preV hG hw hp0 rfl trivial) rfl rfl hl.1 rfl (lv_room (Nat.le_of_ble_eq_true rfl)) dX12_islands_10 ⟨Nat.zero_le _, Nat.zero_le _⟩) (fun x10 bx10 => ?_)
    refine lv_istore_n (lv' := [(1, .int x10), (0, .ref ap0)]) hx hb dX12_islands_13 rfl hl (by decide) rfl (fun ls hl => ?_)
    refine lv_iconst (v := 0) hx hb dX12_islands_14 (by decide) ?_
    refine lv_istore_n (lv' := [(2, .int 0), (1, .int x10), (0, .ref ap0)]) hx hb dX12_islands_15 rfl hl (by decide) rfl (fun ls hl => ?_)
    have J16 : ∀ (n : Nat) (y16_l1 y16_l2 : Int32), y16_l1.toInt.toNat < n → iv y16_l1 0 1023 → ∀ (ls : Array Slot), lv_has ls 6 [(0, .ref ap0), (1, .int y16_l1), (2, .int y16_l2)] → WX12_islands p l e s m below meth c D T ap0 s.heap [] (F0 m 16 ls []) := by
      intro n
      induction n with
      | zero => intro y16_l1 y16_l2 hmu16 c16_y16_l1 ls hl; exact absurd hmu16 (Nat.not_lt_zero _)
      | succ n ih16 =>
        intro y16_l1 y16_l2 hmu16 c16_y16_l1 ls hl
        refine lv_iload_n hx hb dX12_islands_16 rfl (lv_at hl 1 rfl) ?_
        refine lv_if_eq (tgt := 91) hx hb dX12_islands_17 (by decide) (fun c17 => ?_) (fun c17 => ?_)
        · have r17tp : iv y16_l1 0 0 := (iv_both c16_y16_l1 (iv_eq (show iv 0 0 0 from ⟨by decide, by decide⟩) c17)).mono (by decide) (by decide)
          refine lv_iload_n hx hb dX12_islands_91 rfl (lv_at hl 2 rfl) ?_
          exact W.iret (v := y16_l2) hx hb hr (fun t ht hW => ⟨some (.int y16_l2), rfl, ⟨y16_l2, rfl, trivial⟩, ht⟩) (fun q h => by cases h) dX12_islands_92
        · have r17fp : iv y16_l1 1 1023 := (iv_ne_lo c17 c16_y16_l1 rfl).mono (by decide) (by decide)
          refine lv_iload_n hx hb dX12_islands_20 rfl (lv_at hl 1 rfl) ?_
          refine lv_iload_n hx hb dX12_islands_21 rfl (lv_at hl 1 rfl) ?_
          refine lv_ineg hx hb dX12_islands_22 ?_
          refine lv_topi (fun x22 ex22 => ?_)
          have bx22 : iv x22 (-1023) (-1) := iv_neg r17fp ex22 (by decide)
          refine lv_iand hx hb dX12_islands_23 ?_
          refine lv_topi (fun x23 ex23 => ?_)
          have bx23 : iv x23 0 1023 := iv_and_l (r17fp.mono (by decide) (by decide)) ex23
          refine lv_istore_n (lv' := [(3, .int x23), (0, .ref ap0), (1, .int y16_l1), (2, .int y16_l2)]) hx hb dX12_islands_24 rfl hl (by decide) rfl (fun ls hl => ?_)
          refine lv_iconst (v := 0) hx hb dX12_islands_25 (by decide) ?_
          refine lv_istore (lv' := [(4, .int 0), (3, .int x23), (0, .ref ap0), (1, .int y16_l1), (2, .int y16_l2)]) hx hb dX12_islands_26 hl (by decide) rfl (fun ls hl => ?_)
          have J28 : ∀ (n : Nat) (y28_l3 y28_l4 : Int32), (1023 - y28_l4.toInt).toNat < n → iv y16_l1 1 1023 → iv y28_l3 0 1023 → iv y28_l4 0 1023 → y28_l4.toInt ≤ y28_l3.toInt → ¬ (y16_l1 &&& y28_l3) = 0 → ∀ (ls : Array Slot), lv_has ls 6 [(0, .ref ap0), (1, .int y16_l1), (2, .int y16_l2), (3, .int y28_l3), (4, .int y28_l4)] → WX12_islands p l e s m below meth c D T ap0 s.heap [] (F0 m 28 ls []) := by
            intro n
            induction n with
            | zero => intro y28_l3 y28_l4 hmu28 c28_y16_l1 c28_y28_l3 c28_y28_l4 hv28_0 hv28_1 ls hl; exact absurd hmu28 (Nat.not_lt_zero _)
            | succ n ih28 =>
              intro y28_l3 y28_l4 hmu28 c28_y16_l1 c28_y28_l3 c28_y28_l4 hv28_0 hv28_1 ls hl
              refine lv_iload_n hx hb dX12_islands_28 rfl (lv_at hl 3 rfl) ?_
              refine lv_iload hx hb dX12_islands_29 (lv_at hl 4 rfl) ?_
              refine lv_icmp_eq (tgt := 79) hx hb dX12_islands_31 (by decide) (fun c31 => ?_) (fun c31 => ?_)
              · refine lv_iload_n hx hb dX12_islands_79 rfl (lv_at hl 1 rfl) ?_
                refine lv_iload_n hx hb dX12_islands_80 rfl (lv_at hl 3 rfl) ?_
                refine lv_iconst (v := (-1)) hx hb dX12_islands_81 (by decide) ?_
                refine lv_ixor hx hb dX12_islands_82 ?_
                refine lv_topi (fun x82 ex82 => ?_)
                refine lv_iand hx hb dX12_islands_83 ?_
                refine lv_topi (fun x83 ex83 => ?_)
                have bx83 : iv x83 0 1023 := iv_and_l (c28_y16_l1.mono (by decide) (by decide)) ex83
                refine lv_istore_n (lv' := [(1, .int x83), (0, .ref ap0), (2, .int y16_l2), (3, .int y28_l3), (4, .int y28_l4)]) hx hb dX12_islands_84 rfl hl (by decide) rfl (fun ls hl => ?_)
                obtain ⟨x85, ex85⟩ : ∃ y : Int32, y = y16_l2 + 1 := ⟨_, rfl⟩
                refine lv_iinc (v := x85) (lv' := [(2, .int x85), (1, .int x83), (0, .ref ap0), (3, .int y28_l3), (4, .int y28_l4)]) hx hb dX12_islands_85 hl (k := 2) rfl (by rw [ex85]; rfl) (by decide) rfl (fun ls hl => ?_)
                refine lv_goto (tgt := 16) hx hb dX12_islands_88 (by decide) ?_
                exact ih16 x83 x85 (isl_dec (u := 1023) ex82 ex83 hv28_1 (c28_y16_l1.mono (by decide) (by decide)) hmu16) bx83 _ (lv_sub hl [2, 1, 0] rfl)
              · refine lv_iload_n hx hb dX12_islands_34 rfl (lv_at hl 3 rfl) ?_
                refine lv_istore (lv' := [(4, .int y28_l3), (0, .ref ap0), (1, .int y16_l1), (2, .int y16_l2), (3, .int y28_l3)]) hx hb dX12_islands_35 hl (by decide) rfl (fun ls hl => ?_)
                refine lv_iconst (v := 0) hx hb dX12_islands_37 (by decide) ?_
                refine lv_istore (lv' := [(5, .int 0), (4, .int y28_l3), (0, .ref ap0), (1, .int y16_l1), (2, .int y16_l2), (3, .int y28_l3)]) hx hb dX12_islands_38 hl (by decide) rfl (fun ls hl => ?_)
                have J40 : ∀ (n : Nat) (y40_l3 y40_l5 : Int32), (10 - y40_l5.toInt).toNat < n → iv y16_l1 1 1023 → iv y40_l3 0 1023 → iv y28_l3 0 1023 → iv y40_l5 0 10 → y28_l3.toInt ≤ y40_l3.toInt → ¬ (y16_l1 &&& y40_l3) = 0 → ∀ (ls : Array Slot), lv_has ls 6 [(0, .ref ap0), (1, .int y16_l1), (2, .int y16_l2), (3, .int y40_l3), (4, .int y28_l3), (5, .int y40_l5)] → WX12_islands p l e s m below meth c D T ap0 s.heap [] (F0 m 40 ls []) := by
                  intro n
                  induction n with
                  | zero => intro y40_l3 y40_l5 hmu40 c40_y16_l1 c40_y40_l3 c40_y28_l3 c40_y40_l5 hv40_0 hv40_1 ls hl; exact absurd hmu40 (Nat.not_lt_zero _)
                  | succ n ih40 =>
                    intro y40_l3 y40_l5 hmu40 c40_y16_l1 c40_y40_l3 c40_y28_l3 c40_y40_l5 hv40_0 hv40_1 ls hl
                    refine lv_iload hx hb dX12_islands_40 (lv_at hl 5 rfl) ?_
                    refine lv_aload_n hx hb dX12_islands_42 rfl (lv_at hl 0 rfl) ?_
                    refine hp_getr hx hb hts IX12 hown hK hw.1 hp0 rfl 20 (by decide) L39 rfl dX12_islands_43 ?_
                    refine lv_iconst (v := 2) hx hb dX12_islands_46 (by decide) ?_
                    refine hp_iald hx hb hK hw.1 hp0said (vp_iv (show iv 2 2 2 from ⟨by decide, by decide⟩) (by decide)) dX12_islands_47 (fun v47 hr47 => ?_)
                    have h47 := gsok _ _ hr47
                    obtain ⟨x47, rfl, bx47⟩ := sP_rd2 h47 (show iv 2 2 2 from ⟨by decide, by decide⟩)
                    refine lv_icmp_ge (tgt := 76) hx hb dX12_islands_48 (by decide) (fun c48 => ?_) (fun c48 => ?_)
                    · refine lv_goto (tgt := 28) hx hb dX12_islands_76 (by decide) ?_
                      exact ih28 y40_l3 y28_l3 (by have := iv_neq c31; have := (c40_y28_l3).2; omega) c40_y16_l1 c40_y40_l3 c40_y28_l3 (show y28_l3.toInt ≤ y40_l3.toInt from by have := (c40_y28_l3).1; have := (c40_y28_l3).2; have := (c40_y40_l3).1; have := (c40_y40_l3).2; have := (bx47).1; have := (bx47).2; have := (c40_y40_l5).1; have := (c40_y40_l5).2; have := (Int32.le_iff_toInt_le.mp c48); omega) (show ¬ (y16_l1 &&& y40_l3) = 0 from hv40_1) _ (lv_sub hl [0, 1, 2, 3, 4] rfl)
                    · have r48fp : iv y40_l5 0 9 := (iv_lt_l (iv_nle c48) c40_y40_l5 bx47).mono (by decide) (by decide)
                      have r48fq : iv x47 1 10 := (iv_lt_r (iv_nle c48) c40_y40_l5 bx47).mono (by decide) (by decide)
                      refine lv_iload hx hb dX12_islands_51 (lv_at hl 4 rfl) ?_
                      refine lv_iload hx hb dX12_islands_53 (lv_at hl 5 rfl) ?_
                      refine hp_callpi (va_runS (As := [.int y28_l3, .int y40_l5]) (rest := []) ⟨hx, hb, hml, hown, hts⟩ (sX12_isOf l D T y28_l3 y40_l5) (va_cwS 2 hts gX12_islands_X12_isOf rfl rfl rfl (by decide +kernel) ⟨Nat.le_of_ble_eq_true rfl, Nat.le_of_ble_eq_true rfl⟩) (hp_preS hG hw trivial) rfl rfl hl.1 rfl (lv_room (Nat.le_of_ble_eq_true rfl)) dX12_islands_55 ⟨Nat.zero_le _, Nat.zero_le _⟩) (fun x55 bx55 => ?_)
                      have J70 : ∀ (y70_l3 : Int32), iv y16_l1 1 1023 → iv y70_l3 0 1023 → iv y28_l3 0 1023 → iv y40_l5 0 9 → y28_l3.toInt ≤ y70_l3.toInt → ¬ (y16_l1 &&& y70_l3) = 0 → ∀ (ls : Array Slot), lv_has ls 6 [(0, .ref ap0), (1, .int y16_l1), (2, .int y16_l2), (3, .int y70_l3), (4, .int y28_l3), (5, .int y40_l5)] → WX12_islands p l e s m below meth c D T ap0 s.heap [] (F0 m 70 ls []) := by
                        intro y70_l3 c70_y16_l1 c70_y70_l3 c70_y28_l3 c70_y40_l5 hv70_0 hv70_1 ls hl
                        obtain ⟨x70, ex70⟩ : ∃ y : Int32, y = y40_l5 + 1 := ⟨_, rfl⟩
                        have bx70 : iv x70 1 10 := iv_add c70_y40_l5 (show iv 1 1 1 from ⟨by decide, by decide⟩) ex70 (by decide)
                        have qx70 := iv_add_eq c70_y40_l5 (show iv 1 1 1 from ⟨by decide, by decide⟩) ex70 (by decide)
                        refine lv_iinc (v := x70) (lv' := [(5, .int x70), (0, .ref ap0), (1, .int y16_l1), (2, .int y16_l2), (3, .int y70_l3), (4, .int y28_l3)]) hx hb dX12_islands_70 hl (k := 5) rfl (by rw [ex70]; rfl) (by decide) rfl (fun ls hl => ?_)
                        refine lv_goto (tgt := 40) hx hb dX12_islands_73 (by decide) ?_
                        exact ih40 y70_l3 x70 (mu_up 1 hmu40 (qx70) (by decide) (show iv x70 0 10 from (bx70.mono (by decide) (by decide))).2) c70_y16_l1 c70_y70_l3 c70_y28_l3 (bx70.mono (by decide) (by decide)) (show y28_l3.toInt ≤ y70_l3.toInt from by have := (c70_y28_l3).1; have := (c70_y28_l3).2; have := (c70_y70_l3).1; have := (c70_y70_l3).2; omega) (show ¬ (y16_l1 &&& y70_l3) = 0 from hv70_1) _ (lv_sub hl [1, 2, 3, 4, 5, 0] rfl)
                      refine lv_if_eq (tgt := 70) hx hb dX12_islands_58 (by decide) (fun c58 => ?_) (fun c58 => ?_)
                      · have r58tp : iv x55 0 0 := (iv_both bx55 (iv_eq (show iv 0 0 0 from ⟨by decide, by decide⟩) c58)).mono (by decide) (by decide)
                        exact J70 y40_l3 c40_y16_l1 c40_y40_l3 c40_y28_l3 r48fp (show y28_l3.toInt ≤ y40_l3.toInt from by have := (c40_y28_l3).1; have := (c40_y28_l3).2; have := (c40_y40_l3).1; have := (c40_y40_l3).2; have := (r48fp).1; have := (r48fp).2; have := (r48fq).1; have := (r48fq).2; have := (Int32.lt_iff_toInt_lt.mp (iv_nle c48)); omega) (show ¬ (y16_l1 &&& y40_l3) = 0 from hv40_1) _ (lv_sub hl [0, 1, 2, 3, 4, 5] rfl)
                      · have r58fp : iv x55 1 1 := (iv_ne_lo c58 bx55 rfl).mono (by decide) (by decide)
                        refine lv_iload_n hx hb dX12_islands_61 rfl (lv_at hl 3 rfl) ?_
                        refine lv_aload_n hx hb dX12_islands_62 rfl (lv_at hl 0 rfl) ?_
                        refine lv_iload hx hb dX12_islands_63 (lv_at hl 5 rfl) ?_
                        refine hp_callpi (va_runV (As := [.int y40_l5]) (rest := [.int y40_l3]) ⟨hx, hb, hml, hown, hts⟩ (sX12_meetsOf l D T ap0 y40_l5 Gm ip0 r48fp) (cwV 1 hts gX12_islands_X12_meetsOf rfl rfl rfl (by decide +kernel) ⟨Nat.le_of_ble_eq_true rfl, Nat.le_of_ble_eq_true rfl⟩) (hp_preV hG hw hp0 rfl trivial) rfl rfl hl.1 rfl (lv_room (Nat.le_of_ble_eq_true rfl)) dX12_islands_65 ⟨Nat.zero_le _, Nat.zero_le _⟩) (fun x65 bx65 => ?_)
                        refine lv_ior hx hb dX12_islands_68 ?_
                        refine lv_topi (fun x68 ex68 => ?_)
                        have bx68 : iv x68 0 1023 := iv_or 10 c40_y40_l3 bx65 ex68 (by decide) (by decide)
                        refine lv_istore_n (lv' := [(3, .int x68), (0, .ref ap0), (1, .int y16_l1), (2, .int y16_l2), (4, .int y28_l3), (5, .int y40_l5)]) hx hb dX12_islands_69 rfl hl (by decide) rfl (fun ls hl => ?_)
                        exact J70 x68 c40_y16_l1 bx68 c40_y28_l3 r48fp (show y28_l3.toInt ≤ x68.toInt from by have := (c40_y28_l3).1; have := (c40_y28_l3).2; have := (bx68).1; have := (bx68).2; have := (r48fp).1; have := (r48fp).2; have := (r48fq).1; have := (r48fq).2; have := (Int32.lt_iff_toInt_lt.mp (iv_nle c48)); have : (0 : Int32).toInt = 0 := (by decide); have := or_ge (u := 1023) (w := 1023) ex68 c40_y40_l3 bx65; omega) (show ¬ (y16_l1 &&& x68) = 0 from (isl_or ex68 hv40_1)) _ (lv_sub hl [1, 2, 3, 0, 4, 5] rfl)
                exact J40 _ y28_l3 (0 : Int32) (Nat.lt_succ_self _) c28_y16_l1 c28_y28_l3 c28_y28_l3 (show iv 0 0 10 from ⟨by decide, by decide⟩) (show y28_l3.toInt ≤ y28_l3.toInt from by have := (c28_y28_l3).1; have := (c28_y28_l3).2; have := iv_neq c31; omega) (show ¬ (y16_l1 &&& y28_l3) = 0 from hv28_1) _ (lv_sub hl [2, 3, 4, 5, 1, 0] rfl)
          exact J28 _ x23 (0 : Int32) (Nat.lt_succ_self _) r17fp bx23 (show iv 0 0 1023 from ⟨by decide, by decide⟩) (show 0 ≤ x23.toInt from by have := (bx23).1; have := (bx23).2; have : (0 : Int32).toInt = 0 := (by decide); omega) (show ¬ (y16_l1 &&& x23) = 0 from (isl_0 (u := 1023) ex22 ex23 c17 (r17fp.mono (by decide) (by decide)))) _ (lv_sub hl [2, 3, 4, 1, 0] rfl)
    exact J16 _ x10 (0 : Int32) (Nat.lt_succ_self _) bx10 _ (lv_sub hl [2, 1, 0] rfl)
  · have r4fp : iv x1 0 0 := (iv_both bx1 (iv_eq (show iv 0 0 0 from ⟨by decide, by decide⟩) c4)).mono (by decide) (by decide)
    refine lv_iconst (v := (-1)) hx hb dX12_islands_7 (by decide) ?_
    exact W.iret (v := (-1)) hx hb hr (fun t ht hW => ⟨some (.int (-1)), rfl, ⟨((-1) : Int32), rfl, trivial⟩, ht⟩) (fun q h => by cases h) dX12_islands_8
abbrev WX12_gates_8 (p : Program) (l : Launch) (e : Env) (s : State) (m : MethodId) (below : List Frame) (meth : Method) (c : Code) (D : hp_D) (T : hp_T) (ap0 : Nat) (xp1 : Int32) (H : Heap) (locs : List Loc) (g : JFrame) : Prop := W p l e (headSpec wsX12_gates ({ frames := 6, cells := 0, slots := 0, locals := 152 })).room s m ([.ref ap0, .int xp1] : List Value).toArray below meth c H locs 0 0 (MQ below (hq_e D T (fun v _ _ => ∃ r : Int32, v = some (.int r) ∧ True)) ([.ref ap0, .int xp1] : List Value).toArray s 0 0 (hp_F T)) g
set_option maxHeartbeats 4000000 in
set_option maxRecDepth 100000 in
theorem sX12_gates_8 (l : Launch) (D : hp_D) (T : hp_T) (ap0 : Nat) (xp1 : Int32) (Gm : moG) (ip0 : isMo T ap0 Gm) (h8 : ∀ v, gs Gm 2 v → rI 0 8 v) : Met l yX12_gates wsX12_gates ({ frames := 6, cells := 0, slots := 0, locals := 152 }) (hp_Pc D T [.ref ap0, .int xp1] (fun _ => True)) (hq_e D T (fun v _ _ => ∃ r : Int32, v = some (.int r) ∧ True)) 0 0 (hp_F T) := by
  obtain ⟨ap0tape, ap0sign, ap0len, ap0clause, ap0clauses, ap0read, ap0opn, ap0stack, ap0word, ap0said, ap0was, ap0fitting, ap0sums, ap0sort, ap0sumsBy, ap0oneOf, ap0otherOf, ap0kept, ap0images, ap0acts, ap0iUnd, ap0iFor, ap0iX, ap0made, gok, hp0, hp0tape, hp0sign, hp0len, hp0clause, hp0clauses, hp0read, hp0opn, hp0stack, hp0word, hp0said, hp0was, hp0fitting, hp0sums, hp0sort, hp0sumsBy, hp0oneOf, hp0otherOf, hp0kept, hp0images, hp0acts, hp0iUnd, hp0iFor, hp0iX, hp0made⟩ := id ip0
  have hpx := gok.1
  have gsok := gok.2.2.2.2
  have ggd := gok.2.2.2.1
  refine Met.ofW (cc := cX12_gates) (maxL := 4) (ret := (some .int)) (by decide) rfl ?_
  intro p e s m args below meth c s₁ B hml hv
  obtain ⟨rfl, hok, hG, hB⟩ := hv
  have hx := B.exec
  have hb := B.bytes
  have hr := B.returns
  have hts := atoms_spec (ws := wsX12_gates) B.pre
  have hown : s.vm.findClass RX12 = some m.cls := findClass_of_methodNamed B.named
  have hlocks := B.notSynchronized
  have hK := hG.1
  have hw : hp_w D T s s.heap [] := hp_w.rf hok
  have IX12 : ∀ w ∈ wsX120, w ∈ wsX12_gates := by decide +kernel
  have L39 := hts (.fieldLink RX12 39 "PalmCensusModel" "said" "[I") (by decide +kernel)
  have hl := lv_entry ([.ref ap0, .int xp1]) (n := 4) (Nat.le_of_ble_eq_true rfl)
  rw [lg_entry_eq]
  generalize (lg_sl ([.ref ap0, .int xp1]) ++ List.replicate (4 - (lg_sl ([.ref ap0, .int xp1])).length) Slot.unset).toArray = ls at hl ⊢
  have hl : lv_has ls 4 [(0, .ref ap0), (1, .int xp1)] := hl
  show WX12_gates_8 p l e s m below meth c D T ap0 xp1 s.heap [] (F0 m 0 ls [])
  refine lv_aload_n hx hb dX12_gates_0 rfl (lv_at hl 0 rfl) ?_
  refine hp_callpi (va_runV (As := []) (rest := []) ⟨hx, hb, hml, hown, hts⟩ (sX12_isTown l D T ap0 Gm ip0) (cwV 0 hts gX12_gates_X12_isTown rfl rfl rfl (by decide +kernel) ⟨Nat.le_of_ble_eq_true rfl, Nat.le_of_ble_eq_true rfl⟩) (hp_preV hG hw hp0 rfl trivial) rfl rfl hl.1 rfl (lv_room (Nat.le_of_ble_eq_true rfl)) dX12_gates_1 ⟨Nat.zero_le _, Nat.zero_le _⟩) (fun x1 bx1 => ?_)
  have J17 : ∀ (H : Heap) (locs : List Loc), hp_w D T s H locs → ∀ (ls : Array Slot), lv_has ls 4 [] → WX12_gates_8 p l e s m below meth c D T ap0 xp1 H locs (F0 m 17 ls []) := by
    intro H17 locs17 hw ls hl
    refine lv_iconst (v := (-1)) hx hb dX12_gates_17 (by decide) ?_
    exact W.iret (v := (-1)) hx hb hr (fun t ht hW => ⟨some (.int (-1)), rfl, ⟨((-1) : Int32), rfl, trivial⟩, by rw [ht]; exact hw.1, hw.2.F ht⟩) hw.2.2.2 dX12_gates_18
  refine lv_if_eq (tgt := 17) hx hb dX12_gates_4 (by decide) (fun c4 => ?_) (fun c4 => ?_)
  · have r4tp : iv x1 0 0 := (iv_both bx1 (iv_eq (show iv 0 0 0 from ⟨by decide, by decide⟩) c4)).mono (by decide) (by decide)
    exact J17 s.heap [] hw _ (lv_sub hl [] rfl)
  · have r4fp : iv x1 1 1 := (iv_ne_lo c4 bx1 rfl).mono (by decide) (by decide)
    refine lv_iload_n hx hb dX12_gates_7 rfl (lv_at hl 1 rfl) ?_
    obtain ⟨x8, ex8⟩ : ∃ y : Int64, xp1.toInt64 = y := ⟨_, rfl⟩
    refine lv_i2l (v := x8) hx hb dX12_gates_8 ex8 ?_
    refine lv_lconst (v := 0) hx hb dX12_gates_9 (by decide) ?_
    refine lv_lconst (v := 1) hx hb dX12_gates_10 (by decide) ?_
    refine hp_callpi (va_runS (As := [.long x8, .long 0, .long 1]) (rest := []) ⟨hx, hb, hml, hown, hts⟩ (sX12_in l D T x8 0 1) (va_cwS 3 hts gX12_gates_X12_in rfl rfl rfl (by decide +kernel) ⟨Nat.le_of_ble_eq_true rfl, Nat.le_of_ble_eq_true rfl⟩) (hp_preS hG hw trivial) rfl rfl hl.1 rfl (lv_room (Nat.le_of_ble_eq_true rfl)) dX12_gates_11 ⟨Nat.zero_le _, Nat.zero_le _⟩) (fun x11 bx11 => ?_)
    obtain ⟨bx11, ox11, nx11⟩ := bx11
    have ox11a_ : x11 = 0 ∨ iv xp1 0 1 := ox11.imp id (fun h => iv_in64 ex8 h.1 h.2 (by decide) (by decide))
    have ox11a : x11 = 0 ∨ iv xp1 0 1 := ox11.imp id (fun h => iv_in64 ex8 h.1 h.2 (by decide) (by decide))
    refine lv_if_ne (tgt := 19) hx hb dX12_gates_14 (by decide) (fun c14 => ?_) (fun c14 => ?_)
    · have r14tp : iv x11 1 1 := (iv_ne_lo c14 bx11 rfl).mono (by decide) (by decide)
      have r14tpz : iv xp1 0 1 := (iv_both (iv_any xp1) ((fun h9 => ox11a.resolve_left h9) (iv_ne0 r14tp (by decide)))).mono (by decide) (by decide)
      refine lv_aload_n hx hb dX12_gates_19 rfl (lv_at hl 0 rfl) ?_
      refine hp_getr hx hb hts IX12 hown hK hw.1 hp0 rfl 20 (by decide) L39 rfl dX12_gates_20 ?_
      refine lv_iconst (v := 2) hx hb dX12_gates_23 (by decide) ?_
      refine hp_iald hx hb hK hw.1 hp0said (vp_iv (show iv 2 2 2 from ⟨by decide, by decide⟩) (by decide)) dX12_gates_24 (fun v24 hr24 => ?_)
      have h24 := gsok _ _ hr24
      obtain ⟨x24, rfl, bx24⟩ := sP_rd2 h24 (show iv 2 2 2 from ⟨by decide, by decide⟩)
      refine lv_bipush (v := 8) hx hb dX12_gates_25 (by decide) ?_
      refine lv_icmp_le (tgt := 33) hx hb dX12_gates_27 (by decide) (fun c27 => ?_) (fun c27 => ?_)
      · have r27tp : iv x24 0 8 := (iv_le_l c27 bx24 (show iv 8 8 8 from ⟨by decide, by decide⟩)).mono (by decide) (by decide)
        refine lv_iconst (v := 0) hx hb dX12_gates_33 (by decide) ?_
        refine lv_istore_n (lv' := [(2, .int 0), (0, .ref ap0), (1, .int xp1)]) hx hb dX12_gates_34 rfl hl (by decide) rfl (fun ls hl => ?_)
        have J35 : ∀ (n : Nat) (y35_l2 : Int32), (6 - y35_l2.toInt).toNat < n → iv xp1 0 1 → iv y35_l2 0 6 → ∀ (H : Heap) (locs : List Loc), hp_w D T s H locs → ∀ (ls : Array Slot), lv_has ls 4 [(0, .ref ap0), (1, .int xp1), (2, .int y35_l2)] → WX12_gates_8 p l e s m below meth c D T ap0 xp1 H locs (F0 m 35 ls []) := by
          intro n
          induction n with
          | zero => intro y35_l2 hmu35 c35_xp1 c35_y35_l2 H35 locs35 hw ls hl; exact absurd hmu35 (Nat.not_lt_zero _)
          | succ n ih35 =>
            intro y35_l2 hmu35 c35_xp1 c35_y35_l2 H35 locs35 hw ls hl
            refine lv_iload_n hx hb dX12_gates_35 rfl (lv_at hl 2 rfl) ?_
            refine lv_aload_n hx hb dX12_gates_36 rfl (lv_at hl 0 rfl) ?_
            refine hp_getr hx hb hts IX12 hown hK hw.1 hp0 rfl 20 (by decide) L39 rfl dX12_gates_37 ?_
            refine lv_iconst (v := 0) hx hb dX12_gates_40 (by decide) ?_
            refine hp_iald hx hb hK hw.1 hp0said (vp_iv (show iv 0 0 0 from ⟨by decide, by decide⟩) (by decide)) dX12_gates_41 (fun v41 hr41 => ?_)
            have h41 := gsok _ _ hr41
            obtain ⟨x41, rfl, bx41⟩ := sP_rd0 h41 (show iv 0 0 0 from ⟨by decide, by decide⟩)
            refine lv_icmp_ge (tgt := 56) hx hb dX12_gates_42 (by decide) (fun c42 => ?_) (fun c42 => ?_)
            · refine lv_bipush (v := (-2)) hx hb dX12_gates_56 (by decide) ?_
              refine lv_istore_n (lv' := [(2, .int (-2)), (0, .ref ap0), (1, .int xp1)]) hx hb dX12_gates_58 rfl hl (by decide) rfl (fun ls hl => ?_)
              refine lv_iconst (v := 0) hx hb dX12_gates_59 (by decide) ?_
              refine lv_istore_n (lv' := [(3, .int 0), (2, .int (-2)), (0, .ref ap0), (1, .int xp1)]) hx hb dX12_gates_60 rfl hl (by decide) rfl (fun ls hl => ?_)
              have J61 : ∀ (n : Nat) (y61_l2 y61_l3 : Int32), (64 - y61_l3.toInt).toNat < n → iv xp1 0 1 → iv y61_l2 (-2) 63 → iv y61_l3 0 64 → ∀ (H : Heap) (locs : List Loc), hp_w D T s H locs → ∀ (ls : Array Slot), lv_has ls 4 [(0, .ref ap0), (1, .int xp1), (2, .int y61_l2), (3, .int y61_l3)] → WX12_gates_8 p l e s m below meth c D T ap0 xp1 H locs (F0 m 61 ls []) := by
                intro n
                induction n with
                | zero => intro y61_l2 y61_l3 hmu61 c61_xp1 c61_y61_l2 c61_y61_l3 H61 locs61 hw ls hl; exact absurd hmu61 (Nat.not_lt_zero _)
                | succ n ih61 =>
                  intro y61_l2 y61_l3 hmu61 c61_xp1 c61_y61_l2 c61_y61_l3 H61 locs61 hw ls hl
                  refine lv_iload_n hx hb dX12_gates_61 rfl (lv_at hl 3 rfl) ?_
                  refine lv_iconst (v := 1) hx hb dX12_gates_62 (by decide) ?_
                  refine lv_aload_n hx hb dX12_gates_63 rfl (lv_at hl 0 rfl) ?_
                  refine hp_getr hx hb hts IX12 hown hK hw.1 hp0 rfl 20 (by decide) L39 rfl dX12_gates_64 ?_
                  refine lv_iconst (v := 0) hx hb dX12_gates_67 (by decide) ?_
                  refine hp_iald hx hb hK hw.1 hp0said (vp_iv (show iv 0 0 0 from ⟨by decide, by decide⟩) (by decide)) dX12_gates_68 (fun v68 hr68 => ?_)
                  have h68 := gsok _ _ hr68
                  obtain ⟨x68, rfl, bx68⟩ := sP_rd0 h68 (show iv 0 0 0 from ⟨by decide, by decide⟩)
                  refine lv_ishl hx hb dX12_gates_69 ?_
                  refine lv_topi (fun x69 ex69 => ?_)
                  have bx69 : iv x69 1 64 := iv_shl 6 (show iv 1 1 1 from ⟨by decide, by decide⟩) bx68 ex69 (by decide)
                  refine lv_icmp_ge (tgt := 104) hx hb dX12_gates_70 (by decide) (fun c70 => ?_) (fun c70 => ?_)
                  · have r70tq : iv y61_l3 1 64 := (iv_le_r c70 bx69 c61_y61_l3).mono (by decide) (by decide)
                    refine lv_iload_n hx hb dX12_gates_104 rfl (lv_at hl 2 rfl) ?_
                    have J125 : ∀ (y125_s0 : Int32), ∀ (H : Heap) (locs : List Loc), hp_w D T s H locs → ∀ (ls : Array Slot), lv_has ls 4 [] → WX12_gates_8 p l e s m below meth c D T ap0 xp1 H locs (F0 m 125 ls [.int y125_s0]) := by
                      intro y125_s0 H125 locs125 hw ls hl
                      exact W.iret (v := y125_s0) hx hb hr (fun t ht hW => ⟨some (.int y125_s0), rfl, ⟨y125_s0, rfl, trivial⟩, by rw [ht]; exact hw.1, hw.2.F ht⟩) hw.2.2.2 dX12_gates_125
                    refine lv_if_ge (tgt := 113) hx hb dX12_gates_105 (by decide) (fun c105 => ?_) (fun c105 => ?_)
                    · have r105tq : iv y61_l2 0 63 := (iv_le_r c105 (show iv 0 0 0 from ⟨by decide, by decide⟩) c61_y61_l2).mono (by decide) (by decide)
                      refine lv_iload_n hx hb dX12_gates_113 rfl (lv_at hl 1 rfl) ?_
                      refine lv_if_ne (tgt := 124) hx hb dX12_gates_114 (by decide) (fun c114 => ?_) (fun c114 => ?_)
                      · have r114tp : iv xp1 1 1 := (iv_ne_lo c114 c61_xp1 rfl).mono (by decide) (by decide)
                        refine lv_iload_n hx hb dX12_gates_124 rfl (lv_at hl 2 rfl) ?_
                        exact J125 y61_l2 H61 locs61 hw _ (lv_sub hl [] rfl)
                      · have r114fp : iv xp1 0 0 := (iv_both c61_xp1 (iv_eq (show iv 0 0 0 from ⟨by decide, by decide⟩) c114)).mono (by decide) (by decide)
                        refine lv_iload_n hx hb dX12_gates_117 rfl (lv_at hl 2 rfl) ?_
                        refine hp_callpi (va_runS (As := [.int y61_l2]) (rest := []) ⟨hx, hb, hml, hown, hts⟩ (sX12_bits l D T y61_l2) (va_cwS 1 hts gX12_gates_X12_bits rfl rfl rfl (by decide +kernel) ⟨Nat.le_of_ble_eq_true rfl, Nat.le_of_ble_eq_true rfl⟩) (hp_preS hG hw trivial) rfl rfl hl.1 rfl (lv_room (Nat.le_of_ble_eq_true rfl)) dX12_gates_118 ⟨Nat.zero_le _, Nat.zero_le _⟩) (fun x118 bx118 => ?_)
                        refine lv_goto (tgt := 125) hx hb dX12_gates_121 (by decide) ?_
                        exact J125 x118 H61 locs61 hw _ (lv_sub hl [] rfl)
                    · have r105fp : iv y61_l2 (-2) (-1) := (iv_lt_l (iv_nle c105) c61_y61_l2 (show iv 0 0 0 from ⟨by decide, by decide⟩)).mono (by decide) (by decide)
                      refine lv_bipush (v := (-2)) hx hb dX12_gates_108 (by decide) ?_
                      refine lv_goto (tgt := 125) hx hb dX12_gates_110 (by decide) ?_
                      exact J125 ((-2) : Int32) H61 locs61 hw _ (lv_sub hl [] rfl)
                  · have r70fp : iv y61_l3 0 63 := (iv_lt_l (iv_nle c70) c61_y61_l3 bx69).mono (by decide) (by decide)
                    refine lv_iload_n hx hb dX12_gates_73 rfl (lv_at hl 2 rfl) ?_
                    have J98 : ∀ (y98_l2 : Int32), iv xp1 0 1 → iv y98_l2 (-2) 63 → iv y61_l3 0 63 → ∀ (H : Heap) (locs : List Loc), hp_w D T s H locs → ∀ (ls : Array Slot), lv_has ls 4 [(0, .ref ap0), (1, .int xp1), (2, .int y98_l2), (3, .int y61_l3)] → WX12_gates_8 p l e s m below meth c D T ap0 xp1 H locs (F0 m 98 ls []) := by
                      intro y98_l2 c98_xp1 c98_y98_l2 c98_y61_l3 H98 locs98 hw ls hl
                      obtain ⟨x98, ex98⟩ : ∃ y : Int32, y = y61_l3 + 1 := ⟨_, rfl⟩
                      have bx98 : iv x98 1 64 := iv_add c98_y61_l3 (show iv 1 1 1 from ⟨by decide, by decide⟩) ex98 (by decide)
                      have qx98 := iv_add_eq c98_y61_l3 (show iv 1 1 1 from ⟨by decide, by decide⟩) ex98 (by decide)
                      refine lv_iinc (v := x98) (lv' := [(3, .int x98), (0, .ref ap0), (1, .int xp1), (2, .int y98_l2)]) hx hb dX12_gates_98 hl (k := 3) rfl (by rw [ex98]; rfl) (by decide) rfl (fun ls hl => ?_)
                      refine lv_goto (tgt := 61) hx hb dX12_gates_101 (by decide) ?_
                      exact ih61 y98_l2 x98 (mu_up 1 hmu61 (qx98) (by decide) (show iv x98 0 64 from (bx98.mono (by decide) (by decide))).2) c98_xp1 c98_y98_l2 (bx98.mono (by decide) (by decide)) H98 locs98 hw _ (lv_sub hl [1, 2, 3, 0] rfl)
                    have J88 : iv xp1 0 1 → iv y61_l2 (-2) 63 → iv y61_l3 0 63 → ∀ (H : Heap) (locs : List Loc), hp_w D T s H locs → ∀ (ls : Array Slot), lv_has ls 4 [(0, .ref ap0), (1, .int xp1), (2, .int y61_l2), (3, .int y61_l3)] → WX12_gates_8 p l e s m below meth c D T ap0 xp1 H locs (F0 m 88 ls []) := by
                      intro c88_xp1 c88_y61_l2 c88_y61_l3 H88 locs88 hw ls hl
                      refine lv_aload_n hx hb dX12_gates_88 rfl (lv_at hl 0 rfl) ?_
                      refine lv_iload_n hx hb dX12_gates_89 rfl (lv_at hl 3 rfl) ?_
                      refine hp_callpi (va_runV (As := [.int y61_l3]) (rest := []) ⟨hx, hb, hml, hown, hts⟩ (sX12_isSureBy l D T ap0 y61_l3 Gm ip0 h8) (cwV 1 hts gX12_gates_X12_isSureBy rfl rfl rfl (by decide +kernel) ⟨Nat.le_of_ble_eq_true rfl, Nat.le_of_ble_eq_true rfl⟩) (hp_preV hG hw hp0 rfl trivial) rfl rfl hl.1 rfl (lv_room (Nat.le_of_ble_eq_true rfl)) dX12_gates_90 ⟨Nat.zero_le _, Nat.zero_le _⟩) (fun x90 bx90 => ?_)
                      refine lv_if_eq (tgt := 98) hx hb dX12_gates_93 (by decide) (fun c93 => ?_) (fun c93 => ?_)
                      · have r93tp : iv x90 0 0 := (iv_both bx90 (iv_eq (show iv 0 0 0 from ⟨by decide, by decide⟩) c93)).mono (by decide) (by decide)
                        exact J98 y61_l2 c88_xp1 c88_y61_l2 c88_y61_l3 H88 locs88 hw _ (lv_sub hl [0, 1, 2, 3] rfl)
                      · have r93fp : iv x90 1 1 := (iv_ne_lo c93 bx90 rfl).mono (by decide) (by decide)
                        refine lv_iload_n hx hb dX12_gates_96 rfl (lv_at hl 3 rfl) ?_
                        refine lv_istore_n (lv' := [(2, .int y61_l3), (0, .ref ap0), (1, .int xp1), (3, .int y61_l3)]) hx hb dX12_gates_97 rfl hl (by decide) rfl (fun ls hl => ?_)
                        exact J98 y61_l3 c88_xp1 (c88_y61_l3.mono (by decide) (by decide)) c88_y61_l3 H88 locs88 hw _ (lv_sub hl [1, 2, 0, 3] rfl)
                    refine lv_if_lt (tgt := 88) hx hb dX12_gates_74 (by decide) (fun c74 => ?_) (fun c74 => ?_)
                    · have r74tp : iv y61_l2 (-2) (-1) := (iv_lt_l c74 c61_y61_l2 (show iv 0 0 0 from ⟨by decide, by decide⟩)).mono (by decide) (by decide)
                      exact J88 c61_xp1 (r74tp.mono (by decide) (by decide)) r70fp H61 locs61 hw _ (lv_sub hl [0, 1, 2, 3] rfl)
                    · have r74fq : iv y61_l2 0 63 := (iv_le_r (iv_nlt c74) (show iv 0 0 0 from ⟨by decide, by decide⟩) c61_y61_l2).mono (by decide) (by decide)
                      refine lv_iload_n hx hb dX12_gates_77 rfl (lv_at hl 3 rfl) ?_
                      refine hp_callpi (va_runS (As := [.int y61_l3]) (rest := []) ⟨hx, hb, hml, hown, hts⟩ (sX12_bits l D T y61_l3) (va_cwS 1 hts gX12_gates_X12_bits rfl rfl rfl (by decide +kernel) ⟨Nat.le_of_ble_eq_true rfl, Nat.le_of_ble_eq_true rfl⟩) (hp_preS hG hw trivial) rfl rfl hl.1 rfl (lv_room (Nat.le_of_ble_eq_true rfl)) dX12_gates_78 ⟨Nat.zero_le _, Nat.zero_le _⟩) (fun x78 bx78 => ?_)
                      refine lv_iload_n hx hb dX12_gates_81 rfl (lv_at hl 2 rfl) ?_
                      refine hp_callpi (va_runS (As := [.int y61_l2]) (rest := [.int x78]) ⟨hx, hb, hml, hown, hts⟩ (sX12_bits l D T y61_l2) (va_cwS 1 hts gX12_gates_X12_bits rfl rfl rfl (by decide +kernel) ⟨Nat.le_of_ble_eq_true rfl, Nat.le_of_ble_eq_true rfl⟩) (hp_preS hG hw trivial) rfl rfl hl.1 rfl (lv_room (Nat.le_of_ble_eq_true rfl)) dX12_gates_82 ⟨Nat.zero_le _, Nat.zero_le _⟩) (fun x82 bx82 => ?_)
                      refine lv_icmp_ge (tgt := 98) hx hb dX12_gates_85 (by decide) (fun c85 => ?_) (fun c85 => ?_)
                      · exact J98 y61_l2 c61_xp1 (r74fq.mono (by decide) (by decide)) r70fp H61 locs61 hw _ (lv_sub hl [0, 1, 2, 3] rfl)
                      · have r85fp : iv x78 (-2147483648) 2147483646 := (iv_lt_l (iv_nle c85) (iv_any x78) (iv_any x82)).mono (by decide) (by decide)
                        have r85fq : iv x82 (-2147483647) 2147483647 := (iv_lt_r (iv_nle c85) (iv_any x78) (iv_any x82)).mono (by decide) (by decide)
                        exact J88 c61_xp1 (r74fq.mono (by decide) (by decide)) r70fp H61 locs61 hw _ (lv_sub hl [0, 1, 2, 3] rfl)
              exact J61 _ ((-2) : Int32) (0 : Int32) (Nat.lt_succ_self _) c35_xp1 (show iv (-2) (-2) 63 from ⟨by decide, by decide⟩) (show iv 0 0 64 from ⟨by decide, by decide⟩) H35 locs35 hw _ (lv_sub hl [2, 3, 1, 0] rfl)
            · have r42fp : iv y35_l2 0 5 := (iv_lt_l (iv_nle c42) c35_y35_l2 bx41).mono (by decide) (by decide)
              have r42fq : iv x41 1 6 := (iv_lt_r (iv_nle c42) c35_y35_l2 bx41).mono (by decide) (by decide)
              refine lv_aload_n hx hb dX12_gates_45 rfl (lv_at hl 0 rfl) ?_
              refine lv_iload_n hx hb dX12_gates_46 rfl (lv_at hl 2 rfl) ?_
              refine hp_callev (va_runV (As := [.int y35_l2]) (rest := []) ⟨hx, hb, hml, hown, hts⟩ (sX12_sorts l D T ap0 y35_l2 Gm ip0 h8 r42fp) (cwV 1 hts gX12_gates_X12_sorts rfl rfl rfl (by decide +kernel) ⟨Nat.le_of_ble_eq_true rfl, Nat.le_of_ble_eq_true rfl⟩) (hp_preV hG hw hp0 rfl trivial) rfl rfl hl.1 rfl (lv_room (Nat.le_of_ble_eq_true rfl)) dX12_gates_47 ⟨Nat.zero_le _, Nat.zero_le _⟩) hw (fun st47 t47 H47 locs47 eh47 eg47 bx47 hw => ?_)
              obtain ⟨bx47, g47⟩ := bx47
              rw [eh47, eg47] at g47
              obtain ⟨x50, ex50⟩ : ∃ y : Int32, y = y35_l2 + 1 := ⟨_, rfl⟩
              have bx50 : iv x50 1 6 := iv_add r42fp (show iv 1 1 1 from ⟨by decide, by decide⟩) ex50 (by decide)
              have qx50 := iv_add_eq r42fp (show iv 1 1 1 from ⟨by decide, by decide⟩) ex50 (by decide)
              refine lv_iinc (v := x50) (lv' := [(2, .int x50), (0, .ref ap0), (1, .int xp1)]) hx hb dX12_gates_50 hl (k := 2) rfl (by rw [ex50]; rfl) (by decide) rfl (fun ls hl => ?_)
              refine lv_goto (tgt := 35) hx hb dX12_gates_53 (by decide) ?_
              exact ih35 x50 (mu_up 1 hmu35 (qx50) (by decide) (show iv x50 0 6 from (bx50.mono (by decide) (by decide))).2) c35_xp1 (bx50.mono (by decide) (by decide)) H47 locs47 hw _ (lv_sub hl [1, 2, 0] rfl)
        exact J35 _ (0 : Int32) (Nat.lt_succ_self _) r14tpz (show iv 0 0 6 from ⟨by decide, by decide⟩) s.heap [] hw _ (lv_sub hl [1, 2, 0] rfl)
      · have r27fq : iv x24 9 10 := (iv_lt_r (iv_nle c27) (show iv 8 8 8 from ⟨by decide, by decide⟩) bx24).mono (by decide) (by decide)
        refine lv_bipush (v := (-3)) hx hb dX12_gates_30 (by decide) ?_
        exact W.iret (v := (-3)) hx hb hr (fun t ht hW => ⟨some (.int (-3)), rfl, ⟨((-3) : Int32), rfl, trivial⟩, by rw [ht]; exact hw.1, hw.2.F ht⟩) hw.2.2.2 dX12_gates_32
    · have r14fp : iv x11 0 0 := (iv_both bx11 (iv_eq (show iv 0 0 0 from ⟨by decide, by decide⟩) c14)).mono (by decide) (by decide)
      exact J17 s.heap [] hw _ (lv_sub hl [] rfl)
abbrev WX12_gates_9 (p : Program) (l : Launch) (e : Env) (s : State) (m : MethodId) (below : List Frame) (meth : Method) (c : Code) (D : hp_D) (T : hp_T) (ap0 : Nat) (xp1 : Int32) (H : Heap) (locs : List Loc) (g : JFrame) : Prop := W p l e (headSpec wsX12_gates ({ frames := 1, cells := 0, slots := 0, locals := 25 })).room s m ([.ref ap0, .int xp1] : List Value).toArray below meth c H locs 0 0 (MQ below (hq_p (fun v => ∃ r : Int32, v = some (.int r) ∧ True)) ([.ref ap0, .int xp1] : List Value).toArray s 0 0 (fun _ => False)) g
set_option maxHeartbeats 4000000 in
set_option maxRecDepth 100000 in
theorem sX12_gates_9 (l : Launch) (D : hp_D) (T : hp_T) (ap0 : Nat) (xp1 : Int32) (Gm : moG) (ip0 : isMo T ap0 Gm) (h9 : ∀ v, gs Gm 2 v → rI 9 10 v) : Met l yX12_gates wsX12_gates ({ frames := 1, cells := 0, slots := 0, locals := 25 }) (hp_Pc D T [.ref ap0, .int xp1] (fun _ => True)) (hq_p (fun v => ∃ r : Int32, v = some (.int r) ∧ True)) 0 0 (fun _ => False) := by
  obtain ⟨ap0tape, ap0sign, ap0len, ap0clause, ap0clauses, ap0read, ap0opn, ap0stack, ap0word, ap0said, ap0was, ap0fitting, ap0sums, ap0sort, ap0sumsBy, ap0oneOf, ap0otherOf, ap0kept, ap0images, ap0acts, ap0iUnd, ap0iFor, ap0iX, ap0made, gok, hp0, hp0tape, hp0sign, hp0len, hp0clause, hp0clauses, hp0read, hp0opn, hp0stack, hp0word, hp0said, hp0was, hp0fitting, hp0sums, hp0sort, hp0sumsBy, hp0oneOf, hp0otherOf, hp0kept, hp0images, hp0acts, hp0iUnd, hp0iFor, hp0iX, hp0made⟩ := id ip0
  have hpx := gok.1
  have gsok := gok.2.2.2.2
  have ggd := gok.2.2.2.1
  refine Met.ofW (cc := cX12_gates) (maxL := 4) (ret := (some .int)) (by decide) rfl ?_
  intro p e s m args below meth c s₁ B hml hv
  obtain ⟨rfl, hok, hG, hB⟩ := hv
  have hx := B.exec
  have hb := B.bytes
  have hr := B.returns
  have hts := atoms_spec (ws := wsX12_gates) B.pre
  have hown : s.vm.findClass RX12 = some m.cls := findClass_of_methodNamed B.named
  have hlocks := B.notSynchronized
  have hK := hG.1
  have hw : hp_w D T s s.heap [] := hp_w.rf hok
  have IX12 : ∀ w ∈ wsX120, w ∈ wsX12_gates := by decide +kernel
  have L39 := hts (.fieldLink RX12 39 "PalmCensusModel" "said" "[I") (by decide +kernel)
  have hl := lv_entry ([.ref ap0, .int xp1]) (n := 4) (Nat.le_of_ble_eq_true rfl)
  rw [lg_entry_eq]
  generalize (lg_sl ([.ref ap0, .int xp1]) ++ List.replicate (4 - (lg_sl ([.ref ap0, .int xp1])).length) Slot.unset).toArray = ls at hl ⊢
  have hl : lv_has ls 4 [(0, .ref ap0), (1, .int xp1)] := hl
  show WX12_gates_9 p l e s m below meth c D T ap0 xp1 s.heap [] (F0 m 0 ls [])
  refine lv_aload_n hx hb dX12_gates_0 rfl (lv_at hl 0 rfl) ?_
  refine hp_callpi (va_runV (As := []) (rest := []) ⟨hx, hb, hml, hown, hts⟩ (sX12_isTown l D T ap0 Gm ip0) (cwV 0 hts gX12_gates_X12_isTown rfl rfl rfl (by decide +kernel) ⟨Nat.le_of_ble_eq_true rfl, Nat.le_of_ble_eq_true rfl⟩) (hp_preV hG hw hp0 rfl trivial) rfl rfl hl.1 rfl (lv_room (Nat.le_of_ble_eq_true rfl)) dX12_gates_1 ⟨Nat.zero_le _, Nat.zero_le _⟩) (fun x1 bx1 => ?_)
  have J17 : ∀ (ls : Array Slot), lv_has ls 4 [] → WX12_gates_9 p l e s m below meth c D T ap0 xp1 s.heap [] (F0 m 17 ls []) := by
    intro ls hl
    refine lv_iconst (v := (-1)) hx hb dX12_gates_17 (by decide) ?_
    exact W.iret (v := (-1)) hx hb hr (fun t ht hW => ⟨some (.int (-1)), rfl, ⟨((-1) : Int32), rfl, trivial⟩, ht⟩) (fun q h => by cases h) dX12_gates_18
  refine lv_if_eq (tgt := 17) hx hb dX12_gates_4 (by decide) (fun c4 => ?_) (fun c4 => ?_)
  · have r4tp : iv x1 0 0 := (iv_both bx1 (iv_eq (show iv 0 0 0 from ⟨by decide, by decide⟩) c4)).mono (by decide) (by decide)
    exact J17 _ (lv_sub hl [] rfl)
  · have r4fp : iv x1 1 1 := (iv_ne_lo c4 bx1 rfl).mono (by decide) (by decide)
    refine lv_iload_n hx hb dX12_gates_7 rfl (lv_at hl 1 rfl) ?_
    obtain ⟨x8, ex8⟩ : ∃ y : Int64, xp1.toInt64 = y := ⟨_, rfl⟩
    refine lv_i2l (v := x8) hx hb dX12_gates_8 ex8 ?_
    refine lv_lconst (v := 0) hx hb dX12_gates_9 (by decide) ?_
    refine lv_lconst (v := 1) hx hb dX12_gates_10 (by decide) ?_
    refine hp_callpi (va_runS (As := [.long x8, .long 0, .long 1]) (rest := []) ⟨hx, hb, hml, hown, hts⟩ (sX12_in l D T x8 0 1) (va_cwS 3 hts gX12_gates_X12_in rfl rfl rfl (by decide +kernel) ⟨Nat.le_of_ble_eq_true rfl, Nat.le_of_ble_eq_true rfl⟩) (hp_preS hG hw trivial) rfl rfl hl.1 rfl (lv_room (Nat.le_of_ble_eq_true rfl)) dX12_gates_11 ⟨Nat.zero_le _, Nat.zero_le _⟩) (fun x11 bx11 => ?_)
    obtain ⟨bx11, ox11, nx11⟩ := bx11
    have ox11a_ : x11 = 0 ∨ iv xp1 0 1 := ox11.imp id (fun h => iv_in64 ex8 h.1 h.2 (by decide) (by decide))
    have ox11a : x11 = 0 ∨ iv xp1 0 1 := ox11.imp id (fun h => iv_in64 ex8 h.1 h.2 (by decide) (by decide))
    refine lv_if_ne (tgt := 19) hx hb dX12_gates_14 (by decide) (fun c14 => ?_) (fun c14 => ?_)
    · have r14tp : iv x11 1 1 := (iv_ne_lo c14 bx11 rfl).mono (by decide) (by decide)
      have r14tpz : iv xp1 0 1 := (iv_both (iv_any xp1) ((fun h9 => ox11a.resolve_left h9) (iv_ne0 r14tp (by decide)))).mono (by decide) (by decide)
      refine lv_aload_n hx hb dX12_gates_19 rfl (lv_at hl 0 rfl) ?_
      refine hp_getr hx hb hts IX12 hown hK hw.1 hp0 rfl 20 (by decide) L39 rfl dX12_gates_20 ?_
      refine lv_iconst (v := 2) hx hb dX12_gates_23 (by decide) ?_
      refine hp_iald hx hb hK hw.1 hp0said (vp_iv (show iv 2 2 2 from ⟨by decide, by decide⟩) (by decide)) dX12_gates_24 (fun v24 hr24 => ?_)
      have h24 := gsok _ _ hr24
      obtain ⟨x24, rfl, bx24⟩ := sP_rd2 h24 (show iv 2 2 2 from ⟨by decide, by decide⟩)
      have bx24e : iv x24 9 10 := rI_iv (h9 _ hr24)
      refine lv_bipush (v := 8) hx hb dX12_gates_25 (by decide) ?_
      refine lv_icmp_le (tgt := 33) hx hb dX12_gates_27 (by decide) (fun c27 => ?_) (fun c27 => ?_)
      · exact iv_abs (iv_le_l c27 bx24e (show iv 8 8 8 from ⟨by decide, by decide⟩)) (by decide)
      · refine lv_bipush (v := (-3)) hx hb dX12_gates_30 (by decide) ?_
        exact W.iret (v := (-3)) hx hb hr (fun t ht hW => ⟨some (.int (-3)), rfl, ⟨((-3) : Int32), rfl, trivial⟩, ht⟩) (fun q h => by cases h) dX12_gates_32
    · have r14fp : iv x11 0 0 := (iv_both bx11 (iv_eq (show iv 0 0 0 from ⟨by decide, by decide⟩) c14)).mono (by decide) (by decide)
      exact J17 _ (lv_sub hl [] rfl)
abbrev WX12_seed_n (p : Program) (l : Launch) (e : Env) (s : State) (m : MethodId) (below : List Frame) (meth : Method) (c : Code) (D : hp_D) (T : hp_T) (ap0 : Nat) (xp1 : Int32) (H : Heap) (locs : List Loc) (g : JFrame) : Prop := W p l e (headSpec wsX12_seed ({ frames := 0, cells := 0, slots := 0, locals := 0 })).room s m ([.ref ap0, .int xp1] : List Value).toArray below meth c H locs 0 0 (MQ below (hq_p (fun v => ∃ r : Int32, v = some (.int r) ∧ iv r (-1) (-1))) ([.ref ap0, .int xp1] : List Value).toArray s 0 0 (fun _ => False)) g
set_option maxHeartbeats 4000000 in
set_option maxRecDepth 100000 in
theorem sX12_seed_n (l : Launch) (D : hp_D) (T : hp_T) (ap0 : Nat) (xp1 : Int32) (Gm : moG) (ip0 : isMo T ap0 Gm) (bp1 : iv xp1 (-2147483648) (-1)) : Met l yX12_seed wsX12_seed ({ frames := 0, cells := 0, slots := 0, locals := 0 }) (hp_Pc D T [.ref ap0, .int xp1] (fun _ => True)) (hq_p (fun v => ∃ r : Int32, v = some (.int r) ∧ iv r (-1) (-1))) 0 0 (fun _ => False) := by
  obtain ⟨ap0tape, ap0sign, ap0len, ap0clause, ap0clauses, ap0read, ap0opn, ap0stack, ap0word, ap0said, ap0was, ap0fitting, ap0sums, ap0sort, ap0sumsBy, ap0oneOf, ap0otherOf, ap0kept, ap0images, ap0acts, ap0iUnd, ap0iFor, ap0iX, ap0made, gok, hp0, hp0tape, hp0sign, hp0len, hp0clause, hp0clauses, hp0read, hp0opn, hp0stack, hp0word, hp0said, hp0was, hp0fitting, hp0sums, hp0sort, hp0sumsBy, hp0oneOf, hp0otherOf, hp0kept, hp0images, hp0acts, hp0iUnd, hp0iFor, hp0iX, hp0made⟩ := id ip0
  have hpx := gok.1
  have gsok := gok.2.2.2.2
  have ggd := gok.2.2.2.1
  refine Met.ofW (cc := cX12_seed) (maxL := 3) (ret := (some .int)) (by decide) rfl ?_
  intro p e s m args below meth c s₁ B hml hv
  obtain ⟨rfl, hok, hG, hB⟩ := hv
  have hx := B.exec
  have hb := B.bytes
  have hr := B.returns
  have hts := atoms_spec (ws := wsX12_seed) B.pre
  have hown : s.vm.findClass RX12 = some m.cls := findClass_of_methodNamed B.named
  have hlocks := B.notSynchronized
  have hK := hG.1
  have hw : hp_w D T s s.heap [] := hp_w.rf hok
  have hl := lv_entry ([.ref ap0, .int xp1]) (n := 3) (Nat.le_of_ble_eq_true rfl)
  rw [lg_entry_eq]
  generalize (lg_sl ([.ref ap0, .int xp1]) ++ List.replicate (3 - (lg_sl ([.ref ap0, .int xp1])).length) Slot.unset).toArray = ls at hl ⊢
  have hl : lv_has ls 3 [(0, .ref ap0), (1, .int xp1)] := hl
  show WX12_seed_n p l e s m below meth c D T ap0 xp1 s.heap [] (F0 m 0 ls [])
  refine lv_iload_n hx hb dX12_seed_0 rfl (lv_at hl 1 rfl) ?_
  refine lv_if_ge (tgt := 6) hx hb dX12_seed_1 (by decide) (fun c1 => ?_) (fun c1 => ?_)
  · exact iv_abs (iv_le_l c1 (show iv 0 0 0 from ⟨by decide, by decide⟩) bp1) (by decide)
  · refine lv_iconst (v := (-1)) hx hb dX12_seed_4 (by decide) ?_
    exact W.iret (v := (-1)) hx hb hr (fun t ht hW => ⟨some (.int (-1)), rfl, ⟨((-1) : Int32), rfl, (show iv (-1) (-1) (-1) from ⟨by decide, by decide⟩)⟩, ht⟩) (fun q h => by cases h) dX12_seed_5
abbrev WX12_seed_p (p : Program) (l : Launch) (e : Env) (s : State) (m : MethodId) (below : List Frame) (meth : Method) (c : Code) (D : hp_D) (T : hp_T) (ap0 : Nat) (xp1 : Int32) (xp100 : Int32) (H : Heap) (locs : List Loc) (g : JFrame) : Prop := W p l e (headSpec wsX12_seed ({ frames := 0, cells := 0, slots := 0, locals := 0 })).room s m ([.ref ap0, .int xp1] : List Value).toArray below meth c H locs 0 0 (MQ below (hq_e D T (fun v st t => ∃ r : Int32, v = some (.int r) ∧ ((True ∧ r = xp100) ∧ hp_f D t.heap ap0 12 22 (.int xp1)))) ([.ref ap0, .int xp1] : List Value).toArray s 0 0 (hp_F T)) g
set_option maxHeartbeats 4000000 in
set_option maxRecDepth 100000 in
theorem sX12_seed_p (l : Launch) (D : hp_D) (T : hp_T) (ap0 : Nat) (xp1 : Int32) (xp100 : Int32) (Gm : moG) (ip0 : isMo T ap0 Gm) (hgx : ∀ y : Int32, gx Gm (.int y)) (bp1 : iv xp1 0 2147483647) (bp100 : iv xp100 (-2147483648) 2147483647) : Met l yX12_seed wsX12_seed ({ frames := 0, cells := 0, slots := 0, locals := 0 }) (hp_Pc D T [.ref ap0, .int xp1] (fun H => hp_f D H ap0 12 22 (.int xp100))) (hq_e D T (fun v st t => ∃ r : Int32, v = some (.int r) ∧ ((True ∧ r = xp100) ∧ hp_f D t.heap ap0 12 22 (.int xp1)))) 0 0 (hp_F T) := by
  obtain ⟨ap0tape, ap0sign, ap0len, ap0clause, ap0clauses, ap0read, ap0opn, ap0stack, ap0word, ap0said, ap0was, ap0fitting, ap0sums, ap0sort, ap0sumsBy, ap0oneOf, ap0otherOf, ap0kept, ap0images, ap0acts, ap0iUnd, ap0iFor, ap0iX, ap0made, gok, hp0, hp0tape, hp0sign, hp0len, hp0clause, hp0clauses, hp0read, hp0opn, hp0stack, hp0word, hp0said, hp0was, hp0fitting, hp0sums, hp0sort, hp0sumsBy, hp0oneOf, hp0otherOf, hp0kept, hp0images, hp0acts, hp0iUnd, hp0iFor, hp0iX, hp0made⟩ := id ip0
  have hpx := gok.1
  have gsok := gok.2.2.2.2
  have ggd := gok.2.2.2.1
  refine Met.ofW (cc := cX12_seed) (maxL := 3) (ret := (some .int)) (by decide) rfl ?_
  intro p e s m args below meth c s₁ B hml hv
  obtain ⟨rfl, hok, hG, hB⟩ := hv
  have hx := B.exec
  have hb := B.bytes
  have hr := B.returns
  have hts := atoms_spec (ws := wsX12_seed) B.pre
  have hown : s.vm.findClass RX12 = some m.cls := findClass_of_methodNamed B.named
  have hlocks := B.notSynchronized
  have hK := hG.1
  have hw : hp_w D T s s.heap [] := hp_w.rf hok
  have IX12 : ∀ w ∈ wsX120, w ∈ wsX12_seed := by decide +kernel
  have L429 := hts (.fieldLink RX12 429 "PalmCensusModel" "x" "I") (by decide +kernel)
  have hl := lv_entry ([.ref ap0, .int xp1]) (n := 3) (Nat.le_of_ble_eq_true rfl)
  rw [lg_entry_eq]
  generalize (lg_sl ([.ref ap0, .int xp1]) ++ List.replicate (3 - (lg_sl ([.ref ap0, .int xp1])).length) Slot.unset).toArray = ls at hl ⊢
  have hl : lv_has ls 3 [(0, .ref ap0), (1, .int xp1)] := hl
  show WX12_seed_p p l e s m below meth c D T ap0 xp1 xp100 s.heap [] (F0 m 0 ls [])
  refine lv_iload_n hx hb dX12_seed_0 rfl (lv_at hl 1 rfl) ?_
  refine lv_if_ge (tgt := 6) hx hb dX12_seed_1 (by decide) (fun c1 => ?_) (fun c1 => ?_)
  · refine lv_aload_n hx hb dX12_seed_6 rfl (lv_at hl 0 rfl) ?_
    refine hp_getf hx hb hts IX12 hown hK hB rfl (by decide) L429 dX12_seed_7 ?_
    refine lv_istore_n (lv' := [(2, .int xp100), (0, .ref ap0), (1, .int xp1)]) hx hb dX12_seed_10 rfl hl (by decide) rfl (fun ls hl => ?_)
    refine lv_aload_n hx hb dX12_seed_11 rfl (lv_at hl 1 rfl) ?_
    refine lv_iload_n hx hb dX12_seed_12 rfl (lv_at hl 2 rfl) ?_
    refine hp_put hx hb hts IX12 tyX12 tyX12_ok nmX12 hown hK hw hp0 rfl 22 (by decide) L429 rfl rfl (hgx _) rfl rfl dX12_seed_13 (fun H13 locs13 hw f13n g13 => ?_)
    refine lv_iload_n hx hb dX12_seed_16 rfl (lv_at hl 0 rfl) ?_
    exact W.iret (v := xp100) hx hb hr (fun t ht hW => ⟨some (.int xp100), rfl, ⟨xp100, rfl, ⟨⟨trivial, rfl⟩, by rw [ht]; exact f13n⟩⟩, by rw [ht]; exact hw.1, hw.2.F ht⟩) hw.2.2.2 dX12_seed_17
  · exact iv_abs (iv_lt_l (iv_nle c1) bp1 (show iv 0 0 0 from ⟨by decide, by decide⟩)) (by decide)
