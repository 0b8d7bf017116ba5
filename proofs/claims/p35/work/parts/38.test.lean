abbrev WX12_tested (p : Program) (l : Launch) (e : Env) (s : State) (m : MethodId) (below : List Frame) (meth : Method) (c : Code) (D : hp_D) (T : hp_T) (ap0 : Nat) (xp100 : Int32) (xp101 : Int32) (xp102 : Int32) (A : Nat → Nat) (Tp : Nat → Value) (gS0 : Nat → Int32) (gb : Int) (gB : Int) (H : Heap) (locs : List Loc) (g : JFrame) : Prop := W p l e (headSpec wsX12_tested ({ frames := 8, cells := 0, slots := 0, locals := 176 })).room s m ([.ref ap0] : List Value).toArray below meth c H locs 0 0 (MQ below (hq_e D T (fun v st t => ∃ r : Int32, v = some (.int r) ∧ ((∃ y0 : Int32, hp_km D [(12, 8), (12, 9), (12, 10), (12, 12), (12, 13), (12, 16)] st.heap t.heap ∧ hp_on (fun q => q = ap0 ∨ q = A 1 ∨ q = A 2 ∨ q = A 6) st.heap t.heap ∧ hp_f D t.heap ap0 12 8 (.int y0) ∧ iv r 0 1 ∧ iv y0 0 400 ∧ (xp100.toInt ≤ y0.toInt) ∧ (¬ r.toInt = 0 → cs D t.heap ap0 A xp102 gS0 gb 1 0 (y0.toInt)) ∧ (r.toInt = 0 → csw D t.heap A xp102 gS0 gb))))) ([.ref ap0] : List Value).toArray s 0 0 (hp_F T)) g
set_option maxHeartbeats 4000000 in
set_option maxRecDepth 100000 in
theorem sX12_tested (l : Launch) (D : hp_D) (T : hp_T) (ap0 : Nat) (xp100 : Int32) (xp101 : Int32) (xp102 : Int32) (A : Nat → Nat) (Gm : moG) (Tp : Nat → Value) (ip0 : isMp T ap0 A Gm Tp) (gS0 : Nat → Int32) (gb : Int) (gB : Int) (hBd : gB ≤ xp100.toInt) (bp100 : iv xp100 0 400) (bp101 : iv xp101 0 400) (bp102 : iv xp102 0 5) : Met l yX12_tested wsX12_tested ({ frames := 8, cells := 0, slots := 0, locals := 176 }) (hp_Pc D T [.ref ap0] (fun H => hp_f D H ap0 12 8 (.int xp100) ∧ hp_f D H ap0 12 1 (.int xp101) ∧ hp_f D H ap0 12 11 (.int xp102) ∧ cs D H ap0 A xp102 gS0 gb 0 0 gB)) (hq_e D T (fun v st t => ∃ r : Int32, v = some (.int r) ∧ ((∃ y0 : Int32, hp_km D [(12, 8), (12, 9), (12, 10), (12, 12), (12, 13), (12, 16)] st.heap t.heap ∧ hp_on (fun q => q = ap0 ∨ q = A 1 ∨ q = A 2 ∨ q = A 6) st.heap t.heap ∧ hp_f D t.heap ap0 12 8 (.int y0) ∧ iv r 0 1 ∧ iv y0 0 400 ∧ (xp100.toInt ≤ y0.toInt) ∧ (¬ r.toInt = 0 → cs D t.heap ap0 A xp102 gS0 gb 1 0 (y0.toInt)) ∧ (r.toInt = 0 → csw D t.heap A xp102 gS0 gb))))) 0 0 (hp_F T) := by
  obtain ⟨gok, tpok, hp0, hp0tape, hp0sign, hp0len, hp0clause, hp0clauses, hp0read, hp0opn, hp0stack, hp0word, hp0said, hp0was, hp0fitting, hp0sums, hp0sort, hp0sumsBy, hp0oneOf, hp0otherOf, hp0kept, hp0images, hp0acts, hp0iUnd, hp0iFor, hp0iX, hp0made⟩ := id ip0
  have hpx := gok.1
  have gsok := gok.2.2.2.2
  have ggd := gok.2.2.2.1
  refine Met.ofW (cc := cX12_tested) (maxL := 3) (ret := (some .boolean)) (by decide) rfl ?_
  intro p e s m args below meth c s₁ B hml hv
  obtain ⟨rfl, hok, hG, hB⟩ := hv
  have hx := B.exec
  have hb := B.bytes
  have hr := B.returns
  have hts := atoms_spec (ws := wsX12_tested) B.pre
  have hown : s.vm.findClass RX12 = some m.cls := findClass_of_methodNamed B.named
  have hlocks := B.notSynchronized
  have hK := hG.1
  have hw : hp_w D T s s.heap [] := hp_w.rf hok
  have IX12 : ∀ w ∈ wsX120, w ∈ wsX12_tested := by decide +kernel
  have L162 := hts (.fieldLink RX12 162 "PalmCensusModel" "opened" "I") (by decide +kernel)
  have L159 := hts (.fieldLink RX12 159 "PalmCensusModel" "deep" "I") (by decide +kernel)
  have L99 := hts (.fieldLink RX12 99 "PalmCensusModel" "next" "I") (by decide +kernel)
  have K213 := hts (.constantLong RX12 213 6385252) (by decide +kernel)
  have L29 := hts (.fieldLink RX12 29 "PalmCensusModel" "open" "[I") (by decide +kernel)
  have K215 := hts (.constantLong RX12 215 28530) (by decide +kernel)
  have hon : hp_on (fun q => q = ap0 ∨ q = A 1 ∨ q = A 2 ∨ q = A 6) s.heap s.heap := fun _ _ => rfl
  have k0 : (0 : Int32).toInt = 0 := (by decide)
  have k1 : (1 : Int32).toInt = 1 := (by decide)
  have k12 : (12 : Int32).toInt = 12 := (by decide)
  have k13 : (13 : Int32).toInt = 13 := (by decide)
  have obp100 := iv_o bp100
  have obp101 := iv_o bp101
  have obp102 := iv_o bp102
  obtain ⟨O0, hcO⟩ := hp_c.ex hok hp0opn (fun j v h9 => h9)
  have hov : ovd O0 0 := fun j h9 => absurd h9 (by omega)
  have hkm : hp_km D [(12, 8), (12, 9), (12, 10), (12, 12), (12, 13), (12, 16)] s.heap s.heap := fun _ _ _ _ h _ => h
  have hl := lv_entry ([.ref ap0]) (n := 3) (Nat.le_of_ble_eq_true rfl)
  rw [lg_entry_eq]
  generalize (lg_sl ([.ref ap0]) ++ List.replicate (3 - (lg_sl ([.ref ap0])).length) Slot.unset).toArray = ls at hl ⊢
  have hl : lv_has ls 3 [(0, .ref ap0)] := hl
  show WX12_tested p l e s m below meth c D T ap0 xp100 xp101 xp102 A Tp gS0 gb gB s.heap [] (F0 m 0 ls [])
  have obp100 := iv_o bp100
  have obp101 := iv_o bp101
  have obp102 := iv_o bp102
  obtain ⟨x9000op0_16, bx9000op0_16, fx9000op0_16⟩ := hp_opI hw.1 hp0 16 rfl
  have obx9000op0_16 := iv_o bx9000op0_16
  refine lv_aload_n hx hb dX12_tested_0 rfl (lv_at hl 0 rfl) ?_
  refine lv_iconst (v := 0) hx hb dX12_tested_1 (by decide) ?_
  refine hp_putE hx hb hts IX12 tyX12 tyX12_ok nmX12 hown hK hw hp0 rfl 16 (by decide) L162 rfl rfl ⟨_, rfl, (show iv 0 0 400 from ⟨by decide, by decide⟩)⟩ rfl rfl dX12_tested_2 (fun H2 locs2 hw f2n g2 on2 => ?_)
  have hon := hon.trans (hp_on.mono (show hp_on (fun q => q = ap0) _ _ from on2) (fun q h9 => by rcases h9 with rfl; exact Or.inl rfl))
  have hcO := hp_c.kept hcO (on2 _ (fun h9 => hp_ne_ao hp0opn hp0 h9))
  have hcs := cs.put hB.2.2.2 g2 on2 (hp_ne_ao hp0sign hp0) (hp_ne_ao hp0len hp0) (by decide)
  have hkm := hkm.put g2 (by decide)
  have f_p0_8 := g2 _ _ _ _ hB.1 (Or.inr ⟨rfl, by decide⟩)
  have f_p0_1 := g2 _ _ _ _ hB.2.1 (Or.inr ⟨rfl, by decide⟩)
  have f_p0_11 := g2 _ _ _ _ hB.2.2.1 (Or.inr ⟨rfl, by decide⟩)
  refine lv_aload_n hx hb dX12_tested_5 rfl (lv_at hl 0 rfl) ?_
  refine lv_iconst (v := 0) hx hb dX12_tested_6 (by decide) ?_
  refine hp_putE hx hb hts IX12 tyX12 tyX12_ok nmX12 hown hK hw hp0 rfl 13 (by decide) L159 rfl rfl ⟨_, rfl⟩ rfl rfl dX12_tested_7 (fun H7 locs7 hw f7n g7 on7 => ?_)
  have hon := hon.trans (hp_on.mono (show hp_on (fun q => q = ap0) _ _ from on7) (fun q h9 => by rcases h9 with rfl; exact Or.inl rfl))
  have hcO := hp_c.kept hcO (on7 _ (fun h9 => hp_ne_ao hp0opn hp0 h9))
  have hcs := cs.put hcs g7 on7 (hp_ne_ao hp0sign hp0) (hp_ne_ao hp0len hp0) (by decide)
  have hkm := hkm.put g7 (by decide)
  have f_p0_8 := g7 _ _ _ _ f_p0_8 (Or.inr ⟨rfl, by decide⟩)
  have f_p0_1 := g7 _ _ _ _ f_p0_1 (Or.inr ⟨rfl, by decide⟩)
  have f_p0_11 := g7 _ _ _ _ f_p0_11 (Or.inr ⟨rfl, by decide⟩)
  have f_p0_16 := g7 _ _ _ _ f2n (Or.inr ⟨rfl, by decide⟩)
  refine lv_iconst (v := 1) hx hb dX12_tested_10 (by decide) ?_
  refine lv_istore_n (lv' := [(1, .int 1), (0, .ref ap0)]) hx hb dX12_tested_11 rfl hl (by decide) rfl (fun ls hl => ?_)
  have J12 : ∀ (n : Nat) (y12_l1 y12_fp0_16 y12_fp0_8 : Int32), (2 * (400 - y12_fp0_8.toInt) + y12_l1.toInt).toNat < n → iv y12_l1 0 1 → iv xp101 0 400 → iv xp102 0 5 → iv y12_fp0_16 0 400 → iv y12_fp0_8 0 400 → (xp100.toInt ≤ y12_fp0_8.toInt) → ∀ (H : Heap) (locs : List Loc), hp_w D T s H locs → hp_km D [(12, 8), (12, 9), (12, 10), (12, 12), (12, 13), (12, 16)] s.heap H → hp_on (fun q => q = ap0 ∨ q = A 1 ∨ q = A 2 ∨ q = A 6) s.heap H → hp_f D H ap0 12 1 (.int xp101) → hp_f D H ap0 12 11 (.int xp102) → hp_f D H ap0 12 16 (.int y12_fp0_16) → hp_f D H ap0 12 8 (.int y12_fp0_8) → (os D H ap0 A xp102 gS0 gb (1 - (y12_l1.toInt : Int)).toNat (y12_fp0_16.toInt) (y12_fp0_8.toInt)) → ∀ (ls : Array Slot), lv_has ls 3 [(0, .ref ap0), (1, .int y12_l1)] → WX12_tested p l e s m below meth c D T ap0 xp100 xp101 xp102 A Tp gS0 gb gB H locs (F0 m 12 ls []) := by
    intro n
    induction n with
    | zero => intro y12_l1 y12_fp0_16 y12_fp0_8 hmu12 c12_y12_l1 c12_xp101 c12_xp102 c12_y12_fp0_16 c12_y12_fp0_8 hv12_0 H12 locs12 hw hkm hon f_p0_1 f_p0_11 f_p0_16 f_p0_8 hos ls hl; exact absurd hmu12 (Nat.not_lt_zero _)
    | succ n ih12 =>
      intro y12_l1 y12_fp0_16 y12_fp0_8 hmu12 c12_y12_l1 c12_xp101 c12_xp102 c12_y12_fp0_16 c12_y12_fp0_8 hv12_0 H12 locs12 hw hkm hon f_p0_1 f_p0_11 f_p0_16 f_p0_8 hos ls hl
      have oc12_y12_l1 := iv_o c12_y12_l1
      have oc12_xp101 := iv_o c12_xp101
      have oc12_xp102 := iv_o c12_xp102
      have oc12_y12_fp0_16 := iv_o c12_y12_fp0_16
      have oc12_y12_fp0_8 := iv_o c12_y12_fp0_8
      refine lv_iload_n hx hb dX12_tested_12 rfl (lv_at hl 1 rfl) ?_
      refine lv_if_eq (tgt := 112) hx hb dX12_tested_13 (by decide) (fun c13 => ?_) (fun c13 => ?_)
      · have oc13 := congrArg Int32.toInt c13
        have r13tp : iv y12_l1 0 0 := (iv_both c12_y12_l1 (iv_eq (show iv 0 0 0 from ⟨by decide, by decide⟩) c13)).mono (by decide) (by decide)
        have or13tp := iv_o r13tp
        obtain ⟨Ot1, hcO, hov, hcs⟩ := (show os D H12 ap0 A xp102 gS0 gb 1 (y12_fp0_16.toInt) (y12_fp0_8.toInt) from by have h9 := hos; rw [show (1 - (y12_l1.toInt : Int)).toNat = 1 by omega] at h9; exact h9)
        refine lv_aload_n hx hb dX12_tested_112 rfl (lv_at hl 0 rfl) ?_
        refine hp_callpi (va_runV (As := []) (rest := []) ⟨hx, hb, hml, hown, hts⟩ (sX12_isInside l D T ap0 y12_fp0_16 A Gm Tp ip0 Ot1 c12_y12_fp0_16) (cwV 0 hts gX12_tested_X12_isInside rfl rfl rfl (by decide +kernel) ⟨Nat.le_of_ble_eq_true rfl, Nat.le_of_ble_eq_true rfl⟩) (hp_preV hG hw hp0 rfl ⟨f_p0_16, hcO⟩) rfl rfl hl.1 rfl (lv_room (Nat.le_of_ble_eq_true rfl)) dX12_tested_113 ⟨Nat.zero_le _, Nat.zero_le _⟩) (fun x113 bx113 => ?_)
        obtain ⟨cx113, R113_0, R113_1⟩ := bx113
        have ocx113 := iv_o cx113
        refine lv_if_eq (tgt := 134) hx hb dX12_tested_116 (by decide) (fun c116 => ?_) (fun c116 => ?_)
        · have oc116 := congrArg Int32.toInt c116
          have r116tp : iv x113 0 0 := (iv_both cx113 (iv_eq (show iv 0 0 0 from ⟨by decide, by decide⟩) c116)).mono (by decide) (by decide)
          have or116tp := iv_o r116tp
          refine lv_aload_n hx hb dX12_tested_134 rfl (lv_at hl 0 rfl) ?_
          refine lv_iconst (v := 1) hx hb dX12_tested_135 (by decide) ?_
          refine hp_callev (va_runV (As := [.int 1]) (rest := []) ⟨hx, hb, hml, hown, hts⟩ (sX12_settles l D T ap0 (1 : Int32) y12_fp0_16 xp102 A Gm Tp ip0 gS0 gb 0 (y12_fp0_8.toInt - y12_fp0_16.toInt) Ot1 hov (by omega) (show iv 1 1 3 from ⟨by decide, by decide⟩) c12_y12_fp0_16 c12_xp102) (cwV 1 hts gX12_tested_X12_settles rfl rfl rfl (by decide +kernel) ⟨Nat.le_of_ble_eq_true rfl, Nat.le_of_ble_eq_true rfl⟩) (hp_preV hG hw hp0 rfl ⟨f_p0_16, f_p0_11, hcO, (cs.hh hcs (by first | rfl | omega))⟩) rfl rfl hl.1 rfl (lv_room (Nat.le_of_ble_eq_true rfl)) dX12_tested_136 ⟨Nat.zero_le _, Nat.zero_le _⟩) hw (fun st136 t136 H136 locs136 eh136 eg136 bx136 hw => ?_)
          obtain ⟨x136p0, g136, on136, fx136p0, bx136p0, R136_0, R136_1, R136_2, R136_3⟩ := bx136
          rw [eh136, eg136] at g136 on136
          have hcO := hp_c.kept hcO (on136 _ (fun h9 => by rcases h9 with h9 | h9 | h9; (exact hp_ne_ao hp0opn hp0 h9); (exact hp_ne_len hp0opn hp0sign (by decide) h9); (exact hp_ne_len hp0opn hp0len (by decide) h9)))
          rw [eg136] at fx136p0
          have hkm := hkm.call g136 (by decide)
          have hon := hon.trans (hp_on.mono on136 (fun q h9 => by rcases h9 with rfl | rfl | rfl; (exact Or.inl rfl); (exact Or.inr (Or.inl rfl)); (exact Or.inr (Or.inr (Or.inl rfl)))))
          have f_p0_8 := g136 _ _ _ _ f_p0_8 (by decide)
          have f_p0_1 := g136 _ _ _ _ f_p0_1 (by decide)
          have f_p0_11 := g136 _ _ _ _ f_p0_11 (by decide)
          have obx136p0 := iv_o bx136p0
          have hcs := R136_1
          rw [eg136] at hcs
          have hov := ovd_le hov R136_0
          refine lv_iconst (v := 1) hx hb dX12_tested_139 (by decide) ?_
          exact W.zret (v := 1) hx hb hr (iv_nz (show iv 1 0 1 from ⟨by decide, by decide⟩)) (fun t ht hW => ⟨some (.int 1), rfl, ⟨(1 : Int32), rfl, ⟨y12_fp0_8, by rw [ht]; exact hkm, by rw [ht]; exact hon, by rw [ht]; exact f_p0_8, (show iv 1 0 1 from ⟨by decide, by decide⟩), c12_y12_fp0_8, (by intros; omega), (fun _ => by have z9 := out_top (R113_1 c116) (R136_3 k1) (by omega) R136_0; rw [ht]; exact cs.mono (cs.hh hcs (by rw [z9]; rfl)) (by omega) (by omega)), (fun h9 => absurd h9 (by omega))⟩⟩, by rw [ht]; exact hw.1, hw.2.F ht⟩) hw.2.2.2 dX12_tested_140
        · have oc116 := iv_neq c116
          have r116fp : iv x113 1 1 := (iv_ne_lo c116 cx113 rfl).mono (by decide) (by decide)
          have or116fp := iv_o r116fp
          refine lv_aload_n hx hb dX12_tested_119 rfl (lv_at hl 0 rfl) ?_
          refine hp_callei (va_runV (As := []) (rest := []) ⟨hx, hb, hml, hown, hts⟩ (sX12_see_x l D T ap0 y12_fp0_8 xp101 A Gm Tp ip0 c12_y12_fp0_8 c12_xp101) (cwV 0 hts gX12_tested_X12_see rfl rfl rfl (by decide +kernel) ⟨Nat.le_of_ble_eq_true rfl, Nat.le_of_ble_eq_true rfl⟩) (hp_preV hG hw hp0 rfl ⟨f_p0_8, f_p0_1⟩) rfl rfl hl.1 rfl (lv_room (Nat.le_of_ble_eq_true rfl)) dX12_tested_120 ⟨Nat.zero_le _, Nat.zero_le _⟩) hw (fun x120 st120 t120 H120 locs120 eh120 eg120 bx120 hw => ?_)
          obtain ⟨x120p0, g120, on120, fx120p0, cx120, bx120p0, R120_0, R120_1, R120_2, R120_3⟩ := bx120
          rw [eh120, eg120] at g120 on120
          have hcO := hp_c.kept hcO (on120 _ (fun h9 => hp_ne_ao hp0opn hp0 h9))
          rw [eg120] at fx120p0
          have hkm := hkm.call g120 (by decide)
          have hon := hon.trans (hp_on.mono on120 (fun q h9 => by rcases h9 with rfl; exact Or.inl rfl))
          have f_p0_1 := g120 _ _ _ _ f_p0_1 (by decide)
          have f_p0_11 := g120 _ _ _ _ f_p0_11 (by decide)
          have f_p0_16 := g120 _ _ _ _ f_p0_16 (by decide)
          have obx120p0 := iv_o bx120p0
          have ocx120 := iv_o cx120
          have hcs := cs.on (T := T) hcs on120 g120 (fun h9 => hp_ne_ao hp0sign hp0 h9) (fun h9 => hp_ne_ao hp0len hp0 h9) (by decide)
          refine lv_pop hx hb dX12_tested_123 rfl ?_
          refine lv_aload_n hx hb dX12_tested_124 rfl (lv_at hl 0 rfl) ?_
          refine lv_iconst (v := 0) hx hb dX12_tested_125 (by decide) ?_
          refine lv_aload_n hx hb dX12_tested_126 rfl (lv_at hl 0 rfl) ?_
          refine hp_getf hx hb hts IX12 hown hK fx120p0 rfl (by decide) L99 dX12_tested_127 ?_
          refine hp_callei (va_runV (As := [.int 0, .int x120p0]) (rest := []) ⟨hx, hb, hml, hown, hts⟩ (sX12_fails l D T ap0 (0 : Int32) x120p0 A Gm Tp ip0) (cwV 2 hts gX12_tested_X12_fails rfl rfl rfl (by decide +kernel) ⟨Nat.le_of_ble_eq_true rfl, Nat.le_of_ble_eq_true rfl⟩) (hp_preV hG hw hp0 rfl trivial) rfl rfl hl.1 rfl (lv_room (Nat.le_of_ble_eq_true rfl)) dX12_tested_130 ⟨Nat.zero_le _, Nat.zero_le _⟩) hw (fun x130 st130 t130 H130 locs130 eh130 eg130 bx130 hw => ?_)
          obtain ⟨g130, on130, cx130⟩ := bx130
          rw [eh130, eg130] at g130 on130
          have hcO := hp_c.kept hcO (on130 _ (fun h9 => hp_ne_ao hp0opn hp0 h9))
          have hkm := hkm.call g130 (by decide)
          have hon := hon.trans (hp_on.mono on130 (fun q h9 => by rcases h9 with rfl; exact Or.inl rfl))
          have f_p0_1 := g130 _ _ _ _ f_p0_1 (by decide)
          have f_p0_11 := g130 _ _ _ _ f_p0_11 (by decide)
          have f_p0_16 := g130 _ _ _ _ f_p0_16 (by decide)
          have f_p0_8 := g130 _ _ _ _ fx120p0 (by decide)
          have ocx130 := iv_o cx130
          have hcs := cs.on (T := T) hcs on130 g130 (fun h9 => hp_ne_ao hp0sign hp0 h9) (fun h9 => hp_ne_ao hp0len hp0 h9) (by decide)
          exact W.zret (v := x130) hx hb hr (iv_nz (cx130.mono (by decide) (by decide))) (fun t ht hW => ⟨some (.int x130), rfl, ⟨x130, rfl, ⟨x120p0, by rw [ht]; exact hkm, by rw [ht]; exact hon, by rw [ht]; exact f_p0_8, (cx130.mono (by decide) (by decide)), bx120p0, (by intros; omega), (fun h9 => absurd (by omega) h9), (fun _ => by rw [ht]; exact cs.w hcs)⟩⟩, by rw [ht]; exact hw.1, hw.2.F ht⟩) hw.2.2.2 dX12_tested_133
      · have oc13 := iv_neq c13
        have r13fp : iv y12_l1 1 1 := (iv_ne_lo c13 c12_y12_l1 rfl).mono (by decide) (by decide)
        have or13fp := iv_o r13fp
        obtain ⟨Ot0, hcO, hov, hcs⟩ := (show os D H12 ap0 A xp102 gS0 gb 0 (y12_fp0_16.toInt) (y12_fp0_8.toInt) from by have h9 := hos; rw [show (1 - (y12_l1.toInt : Int)).toNat = 0 by omega] at h9; exact h9)
        refine lv_aload_n hx hb dX12_tested_16 rfl (lv_at hl 0 rfl) ?_
        refine hp_callei (va_runV (As := []) (rest := []) ⟨hx, hb, hml, hown, hts⟩ (sX12_fact l D T ap0 y12_fp0_8 xp101 xp102 y12_fp0_16 A Gm Tp ip0 gS0 gb c12_y12_fp0_8 c12_xp101 c12_xp102 c12_y12_fp0_16) (cwV 0 hts gX12_tested_X12_fact rfl rfl rfl (by decide +kernel) ⟨Nat.le_of_ble_eq_true rfl, Nat.le_of_ble_eq_true rfl⟩) (hp_preV hG hw hp0 rfl ⟨f_p0_8, f_p0_1, f_p0_11, f_p0_16, (os_mk hcO hov hcs (by first | rfl | omega) (by omega) (by omega))⟩) rfl rfl hl.1 rfl (lv_room (Nat.le_of_ble_eq_true rfl)) dX12_tested_17 ⟨Nat.zero_le _, Nat.zero_le _⟩) hw (fun x17 st17 t17 H17 locs17 eh17 eg17 bx17 hw => ?_)
        obtain ⟨x17p0, x17p1, g17, on17, fx17p0, fx17p1, cx17, bx17p0, bx17p1, R17_0, R17_1, R17_2, R17_3⟩ := bx17
        rw [eh17, eg17] at g17 on17
        rw [eg17] at fx17p0
        rw [eg17] at fx17p1
        have hkm := hkm.call g17 (by decide)
        have hon := hon.trans on17
        have f_p0_1 := g17 _ _ _ _ f_p0_1 (by decide)
        have f_p0_11 := g17 _ _ _ _ f_p0_11 (by decide)
        have obx17p0 := iv_o bx17p0
        have obx17p1 := iv_o bx17p1
        have ocx17 := iv_o cx17
        refine lv_if_ne (tgt := 25) hx hb dX12_tested_20 (by decide) (fun c20 => ?_) (fun c20 => ?_)
        · have oc20 := iv_neq c20
          have r20tp : iv x17 1 1 := (iv_ne_lo c20 cx17 rfl).mono (by decide) (by decide)
          have or20tp := iv_o r20tp
          have hos := R17_2 (by omega)
          rw [eg17] at hos
          obtain ⟨Of17, hcO, hov, hcs⟩ := hos
          refine lv_aload_n hx hb dX12_tested_25 rfl (lv_at hl 0 rfl) ?_
          refine hp_callev (va_runV (As := []) (rest := []) ⟨hx, hb, hml, hown, hts⟩ (sX12_closes l D T ap0 x17p0 xp101 xp102 x17p1 A Gm Tp ip0 gS0 gb bx17p0 c12_xp101 c12_xp102 bx17p1) (cwV 0 hts gX12_tested_X12_closes rfl rfl rfl (by decide +kernel) ⟨Nat.le_of_ble_eq_true rfl, Nat.le_of_ble_eq_true rfl⟩) (hp_preV hG hw hp0 rfl ⟨fx17p0, f_p0_1, f_p0_11, fx17p1, (os_mk hcO hov hcs (by first | rfl | omega) (by omega) (by omega))⟩) rfl rfl hl.1 rfl (lv_room (Nat.le_of_ble_eq_true rfl)) dX12_tested_26 ⟨Nat.zero_le _, Nat.zero_le _⟩) hw (fun st26 t26 H26 locs26 eh26 eg26 bx26 hw => ?_)
          obtain ⟨x26p0, x26p1, g26, on26, fx26p0, fx26p1, bx26p0, bx26p1, R26_0, R26_1⟩ := bx26
          rw [eh26, eg26] at g26 on26
          have hcO := hp_c.kept hcO (on26 _ (fun h9 => by rcases h9 with h9 | h9 | h9; (exact hp_ne_ao hp0opn hp0 h9); (exact hp_ne_len hp0opn hp0sign (by decide) h9); (exact hp_ne_len hp0opn hp0len (by decide) h9)))
          rw [eg26] at fx26p0
          rw [eg26] at fx26p1
          have hkm := hkm.call g26 (by decide)
          have hon := hon.trans (hp_on.mono on26 (fun q h9 => by rcases h9 with rfl | rfl | rfl; (exact Or.inl rfl); (exact Or.inr (Or.inl rfl)); (exact Or.inr (Or.inr (Or.inl rfl)))))
          have f_p0_1 := g26 _ _ _ _ f_p0_1 (by decide)
          have f_p0_11 := g26 _ _ _ _ f_p0_11 (by decide)
          have obx26p0 := iv_o bx26p0
          have obx26p1 := iv_o bx26p1
          have hos := R26_1
          rw [eg26] at hos
          obtain ⟨Oc26, hcO, hov, hcs⟩ := hos
          refine lv_aload_n hx hb dX12_tested_29 rfl (lv_at hl 0 rfl) ?_
          refine lv_ldc2 (v := 6385252) hx hb hown K213 dX12_tested_30 ?_
          refine hp_callei (va_runV (As := [.long 6385252]) (rest := []) ⟨hx, hb, hml, hown, hts⟩ (sX12_isWord_x l D T ap0 6385252 x26p0 xp101 A Gm Tp ip0 bx26p0 c12_xp101) (cwV 1 hts gX12_tested_X12_isWord rfl rfl rfl (by decide +kernel) ⟨Nat.le_of_ble_eq_true rfl, Nat.le_of_ble_eq_true rfl⟩) (hp_preV hG hw hp0 rfl ⟨fx26p0, f_p0_1⟩) rfl rfl hl.1 rfl (lv_room (Nat.le_of_ble_eq_true rfl)) dX12_tested_33 ⟨Nat.zero_le _, Nat.zero_le _⟩) hw (fun x33 st33 t33 H33 locs33 eh33 eg33 bx33 hw => ?_)
          obtain ⟨x33p0, g33, on33, fx33p0, cx33, bx33p0, R33_0, R33_1, R33_2⟩ := bx33
          rw [eh33, eg33] at g33 on33
          have hcO := hp_c.kept hcO (on33 _ (fun h9 => hp_ne_ao hp0opn hp0 h9))
          rw [eg33] at fx33p0
          have hkm := hkm.call g33 (by decide)
          have hon := hon.trans (hp_on.mono on33 (fun q h9 => by rcases h9 with rfl; exact Or.inl rfl))
          have f_p0_1 := g33 _ _ _ _ f_p0_1 (by decide)
          have f_p0_11 := g33 _ _ _ _ f_p0_11 (by decide)
          have f_p0_16 := g33 _ _ _ _ fx26p1 (by decide)
          have obx33p0 := iv_o bx33p0
          have ocx33 := iv_o cx33
          have hcs := cs.on (T := T) hcs on33 g33 (fun h9 => hp_ne_ao hp0sign hp0 h9) (fun h9 => hp_ne_ao hp0len hp0 h9) (by decide)
          refine lv_if_ne (tgt := 49) hx hb dX12_tested_36 (by decide) (fun c36 => ?_) (fun c36 => ?_)
          · have oc36 := iv_neq c36
            have r36tp : iv x33 1 1 := (iv_ne_lo c36 cx33 rfl).mono (by decide) (by decide)
            have or36tp := iv_o r36tp
            refine lv_iconst (v := 1) hx hb dX12_tested_49 (by decide) ?_
            refine lv_goto (tgt := 54) hx hb dX12_tested_50 (by decide) ?_
            refine lv_istore_n (lv' := [(1, .int 1), (0, .ref ap0)]) hx hb dX12_tested_54 rfl hl (by decide) rfl (fun ls hl => ?_)
            refine lv_iload_n hx hb dX12_tested_55 rfl (lv_at hl 0 rfl) ?_
            refine lv_if_eq (tgt := 12) hx hb dX12_tested_56 (by decide) (fun c56 => ?_) (fun c56 => ?_)
            · have oc56 := congrArg Int32.toInt c56
              exact iv_abs2 c56 (show iv 1 1 1 from ⟨by decide, by decide⟩) (show iv 0 0 0 from ⟨by decide, by decide⟩) (by decide)
            · have oc56 := iv_neq c56
              refine lv_aload_n hx hb dX12_tested_59 rfl (lv_at hl 1 rfl) ?_
              refine lv_ldc2 (v := 6385252) hx hb hown K213 dX12_tested_60 ?_
              refine hp_callei (va_runV (As := [.long 6385252]) (rest := []) ⟨hx, hb, hml, hown, hts⟩ (sX12_isWord_x l D T ap0 6385252 x33p0 xp101 A Gm Tp ip0 bx33p0 c12_xp101) (cwV 1 hts gX12_tested_X12_isWord rfl rfl rfl (by decide +kernel) ⟨Nat.le_of_ble_eq_true rfl, Nat.le_of_ble_eq_true rfl⟩) (hp_preV hG hw hp0 rfl ⟨fx33p0, f_p0_1⟩) rfl rfl hl.1 rfl (lv_room (Nat.le_of_ble_eq_true rfl)) dX12_tested_63 ⟨Nat.zero_le _, Nat.zero_le _⟩) hw (fun x63 st63 t63 H63 locs63 eh63 eg63 bx63 hw => ?_)
              obtain ⟨x63p0, g63, on63, fx63p0, cx63, bx63p0, R63_0, R63_1, R63_2⟩ := bx63
              rw [eh63, eg63] at g63 on63
              have hcO := hp_c.kept hcO (on63 _ (fun h9 => hp_ne_ao hp0opn hp0 h9))
              rw [eg63] at fx63p0
              have hkm := hkm.call g63 (by decide)
              have hon := hon.trans (hp_on.mono on63 (fun q h9 => by rcases h9 with rfl; exact Or.inl rfl))
              have f_p0_1 := g63 _ _ _ _ f_p0_1 (by decide)
              have f_p0_11 := g63 _ _ _ _ f_p0_11 (by decide)
              have f_p0_16 := g63 _ _ _ _ f_p0_16 (by decide)
              have obx63p0 := iv_o bx63p0
              have ocx63 := iv_o cx63
              have hcs := cs.on (T := T) hcs on63 g63 (fun h9 => hp_ne_ao hp0sign hp0 h9) (fun h9 => hp_ne_ao hp0len hp0 h9) (by decide)
              refine lv_if_eq (tgt := 74) hx hb dX12_tested_66 (by decide) (fun c66 => ?_) (fun c66 => ?_)
              · have oc66 := congrArg Int32.toInt c66
                have r66tp : iv x63 0 0 := (iv_both cx63 (iv_eq (show iv 0 0 0 from ⟨by decide, by decide⟩) c66)).mono (by decide) (by decide)
                have or66tp := iv_o r66tp
                refine lv_bipush (v := 13) hx hb dX12_tested_74 (by decide) ?_
                refine lv_istore_n (lv' := [(2, .int 13), (1, .int 1), (0, .ref ap0)]) hx hb dX12_tested_76 rfl hl (by decide) rfl (fun ls hl => ?_)
                have ch9 : chb Tp 97 122 x63p0.toInt xp101.toInt := by rw [R63_2 (chb_no (R33_1 (by omega)) (by decide))]; exact R33_1 (by omega)
                refine lv_aload_n hx hb dX12_tested_77 rfl (lv_at hl 2 rfl) ?_
                refine hp_callev (va_runV (As := []) (rest := []) ⟨hx, hb, hml, hown, hts⟩ (sX12_passWord l D T ap0 x63p0 xp101 A Gm Tp ip0 bx63p0 c12_xp101) (cwV 0 hts gX12_tested_X12_passWord rfl rfl rfl (by decide +kernel) ⟨Nat.le_of_ble_eq_true rfl, Nat.le_of_ble_eq_true rfl⟩) (hp_preV hG hw hp0 rfl ⟨fx63p0, f_p0_1⟩) rfl rfl hl.1 rfl (lv_room (Nat.le_of_ble_eq_true rfl)) dX12_tested_78 ⟨Nat.zero_le _, Nat.zero_le _⟩) hw (fun st78 t78 H78 locs78 eh78 eg78 bx78 hw => ?_)
                obtain ⟨x78p0, g78, on78, fx78p0, bx78p0, R78_0, R78_1⟩ := bx78
                rw [eh78, eg78] at g78 on78
                have hcO := hp_c.kept hcO (on78 _ (fun h9 => hp_ne_ao hp0opn hp0 h9))
                rw [eg78] at fx78p0
                have hkm := hkm.call g78 (by decide)
                have hon := hon.trans (hp_on.mono on78 (fun q h9 => by rcases h9 with rfl; exact Or.inl rfl))
                have f_p0_1 := g78 _ _ _ _ f_p0_1 (by decide)
                have f_p0_11 := g78 _ _ _ _ f_p0_11 (by decide)
                have f_p0_16 := g78 _ _ _ _ f_p0_16 (by decide)
                have obx78p0 := iv_o bx78p0
                have hcs := cs.on (T := T) hcs on78 g78 (fun h9 => hp_ne_ao hp0sign hp0 h9) (fun h9 => hp_ne_ao hp0len hp0 h9) (by decide)
                have pg9 := R78_1 ch9
                refine lv_aload_n hx hb dX12_tested_81 rfl (lv_at hl 2 rfl) ?_
                refine lv_iload_n hx hb dX12_tested_82 rfl (lv_at hl 0 rfl) ?_
                refine hp_callpi (va_runS (As := [.int 13]) (rest := [.ref ap0]) ⟨hx, hb, hml, hown, hts⟩ (sX12_strength_x l D T (13 : Int32)) (va_cwS 1 hts gX12_tested_X12_strength rfl rfl rfl (by decide +kernel) ⟨Nat.le_of_ble_eq_true rfl, Nat.le_of_ble_eq_true rfl⟩) (hp_preS hG hw trivial) rfl rfl hl.1 rfl (lv_room (Nat.le_of_ble_eq_true rfl)) dX12_tested_83 ⟨Nat.zero_le _, Nat.zero_le _⟩) (fun x83 bx83 => ?_)
                obtain ⟨bx83, ox83, nx83⟩ := bx83
                have obx83 := iv_o bx83
                have z86 : ¬ x83 = 0 := fun h9 => by rcases nx83 with h8 | h8 | h8; (exact absurd (h9.symm.trans h8) (by decide)); (exact h8 h9); (exact h8 (by decide))
                have w86 : iv x83 1 3 := (iv_ne_lo z86 bx83 rfl).mono (by decide) (by decide)
                have ow86 := iv_o w86
                refine hp_callev (va_runV (As := [.int x83]) (rest := []) ⟨hx, hb, hml, hown, hts⟩ (sX12_settles l D T ap0 x83 x26p1 xp102 A Gm Tp ip0 gS0 gb 0 (x26p0.toInt - x26p1.toInt) Oc26 hov (by omega) w86 bx26p1 c12_xp102) (cwV 1 hts gX12_tested_X12_settles rfl rfl rfl (by decide +kernel) ⟨Nat.le_of_ble_eq_true rfl, Nat.le_of_ble_eq_true rfl⟩) (hp_preV hG hw hp0 rfl ⟨f_p0_16, f_p0_11, hcO, (cs.hh hcs (by first | rfl | omega))⟩) rfl rfl hl.1 rfl (lv_room (Nat.le_of_ble_eq_true rfl)) dX12_tested_86 ⟨Nat.zero_le _, Nat.zero_le _⟩) hw (fun st86 t86 H86 locs86 eh86 eg86 bx86 hw => ?_)
                obtain ⟨x86p0, g86, on86, fx86p0, bx86p0, R86_0, R86_1, R86_2, R86_3⟩ := bx86
                rw [eh86, eg86] at g86 on86
                have hcO := hp_c.kept hcO (on86 _ (fun h9 => by rcases h9 with h9 | h9 | h9; (exact hp_ne_ao hp0opn hp0 h9); (exact hp_ne_len hp0opn hp0sign (by decide) h9); (exact hp_ne_len hp0opn hp0len (by decide) h9)))
                rw [eg86] at fx86p0
                have hkm := hkm.call g86 (by decide)
                have hon := hon.trans (hp_on.mono on86 (fun q h9 => by rcases h9 with rfl | rfl | rfl; (exact Or.inl rfl); (exact Or.inr (Or.inl rfl)); (exact Or.inr (Or.inr (Or.inl rfl)))))
                have f_p0_1 := g86 _ _ _ _ f_p0_1 (by decide)
                have f_p0_11 := g86 _ _ _ _ f_p0_11 (by decide)
                have f_p0_8 := g86 _ _ _ _ fx78p0 (by decide)
                have obx86p0 := iv_o bx86p0
                have hcs := R86_1
                rw [eg86] at hcs
                have hov := ovd_le hov R86_0
                have bd9 := cs.bd0 hcs
                have w89 : iv x86p0 0 399 := ⟨by omega, by omega⟩
                have ow89 := iv_o w89
                refine lv_aload_n hx hb dX12_tested_89 rfl (lv_at hl 2 rfl) ?_
                refine hp_getr hx hb hts IX12 hown hK hw.1 hp0 rfl 15 (by decide) L29 rfl dX12_tested_90 ?_
                refine lv_aload_n hx hb dX12_tested_93 rfl (lv_at hl 2 rfl) ?_
                refine hp_getf hx hb hts IX12 hown hK fx86p0 rfl (by decide) L162 dX12_tested_94 ?_
                refine lv_iload_n hx hb dX12_tested_97 rfl (lv_at hl 0 rfl) ?_
                refine hp_iastC hx hb hK hw hp0opn (vp_iv w89 (by decide)) ⟨_, rfl⟩ hcO dX12_tested_98 (fun H98 locs98 hw g98 o98 hcO => ?_)
                have hon := hon.trans (hp_on.mono (show hp_on (fun q => q = A 6) _ _ from o98) (fun q h9 => by subst h9; exact Or.inr (Or.inr (Or.inr (rfl)))))
                have hcs := cs.on (T := T) hcs (show hp_on (fun q => q = A 6) _ _ from o98) (show hp_km D [] _ _ from fun b cj j w h _ => g98 b cj j w h) (hp_ne_len hp0sign hp0opn (by decide)) (hp_ne_len hp0len hp0opn (by decide)) (by decide)
                have hkm := hkm.ar g98
                have f_p0_1 := g98 _ _ _ _ f_p0_1
                have f_p0_11 := g98 _ _ _ _ f_p0_11
                have f_p0_8 := g98 _ _ _ _ f_p0_8
                have f_p0_16 := g98 _ _ _ _ fx86p0
                refine lv_aload_n hx hb dX12_tested_99 rfl (lv_at hl 2 rfl) ?_
                refine lv_dup hx hb dX12_tested_100 rfl ?_
                refine hp_getf hx hb hts IX12 hown hK f_p0_16 rfl (by decide) L162 dX12_tested_101 ?_
                refine lv_iconst (v := 1) hx hb dX12_tested_104 (by decide) ?_
                refine lv_iadd hx hb dX12_tested_105 ?_
                refine lv_topi (fun x105 ex105 => ?_)
                have bx105 : iv x105 1 400 := iv_add w89 (show iv 1 1 1 from ⟨by decide, by decide⟩) ex105 (by decide)
                have obx105 := iv_o bx105
                have qx105 := iv_add_eq w89 (show iv 1 1 1 from ⟨by decide, by decide⟩) ex105 (by decide)
                have eo9 : x105.toInt = x86p0.toInt + 1 := by omega
                have hov := ovd_p (s := 13) hov (show x86p0.toInt = x86p0.toInt from rfl) (by omega) eo9 (by decide)
                have hnb := nbin_p1 (O := Oc26) (s := 13) (show x86p0.toInt = x86p0.toInt from rfl) (by omega) eo9 (by decide)
                refine hp_putE hx hb hts IX12 tyX12 tyX12_ok nmX12 hown hK hw hp0 rfl 16 (by decide) L162 rfl rfl ⟨_, rfl, (bx105.mono (by decide) (by decide))⟩ rfl rfl dX12_tested_106 (fun H106 locs106 hw f106n g106 on106 => ?_)
                have hon := hon.trans (hp_on.mono (show hp_on (fun q => q = ap0) _ _ from on106) (fun q h9 => by rcases h9 with rfl; exact Or.inl rfl))
                have hcO := hp_c.kept hcO (on106 _ (fun h9 => hp_ne_ao hp0opn hp0 h9))
                have hcs := cs.put hcs g106 on106 (hp_ne_ao hp0sign hp0) (hp_ne_ao hp0len hp0) (by decide)
                have hkm := hkm.put g106 (by decide)
                have f_p0_1 := g106 _ _ _ _ f_p0_1 (Or.inr ⟨rfl, by decide⟩)
                have f_p0_11 := g106 _ _ _ _ f_p0_11 (Or.inr ⟨rfl, by decide⟩)
                have f_p0_8 := g106 _ _ _ _ f_p0_8 (Or.inr ⟨rfl, by decide⟩)
                refine lv_goto (tgt := 12) hx hb dX12_tested_109 (by decide) ?_
                exact ih12 (1 : Int32) x105 x78p0 (by omega) (show iv 1 0 1 from ⟨by decide, by decide⟩) c12_xp101 c12_xp102 (bx105.mono (by decide) (by decide)) bx78p0 (show xp100.toInt ≤ x78p0.toInt from by have := (bx78p0).1; have := (bx78p0).2; have : (0 : Int32).toInt = 0 := (by decide); have : (1 : Int32).toInt = 1 := (by decide); omega) H106 locs106 hw hkm hon f_p0_1 f_p0_11 f106n f_p0_8 (os_mk hcO hov hcs (by first | rfl | (rw [hnb]; omega)) (by omega) (by omega)) _ (lv_sub hl [2, 1] rfl)
              · have oc66 := iv_neq c66
                have r66fp : iv x63 1 1 := (iv_ne_lo c66 cx63 rfl).mono (by decide) (by decide)
                have or66fp := iv_o r66fp
                refine lv_bipush (v := 12) hx hb dX12_tested_69 (by decide) ?_
                refine lv_goto (tgt := 76) hx hb dX12_tested_71 (by decide) ?_
                refine lv_istore_n (lv' := [(2, .int 12), (1, .int 1), (0, .ref ap0)]) hx hb dX12_tested_76 rfl hl (by decide) rfl (fun ls hl => ?_)
                have ch9 : chb Tp 97 122 x63p0.toInt xp101.toInt := by rw [R63_2 (chb_no (R33_1 (by omega)) (by decide))]; exact R33_1 (by omega)
                refine lv_aload_n hx hb dX12_tested_77 rfl (lv_at hl 2 rfl) ?_
                refine hp_callev (va_runV (As := []) (rest := []) ⟨hx, hb, hml, hown, hts⟩ (sX12_passWord l D T ap0 x63p0 xp101 A Gm Tp ip0 bx63p0 c12_xp101) (cwV 0 hts gX12_tested_X12_passWord rfl rfl rfl (by decide +kernel) ⟨Nat.le_of_ble_eq_true rfl, Nat.le_of_ble_eq_true rfl⟩) (hp_preV hG hw hp0 rfl ⟨fx63p0, f_p0_1⟩) rfl rfl hl.1 rfl (lv_room (Nat.le_of_ble_eq_true rfl)) dX12_tested_78 ⟨Nat.zero_le _, Nat.zero_le _⟩) hw (fun st78 t78 H78 locs78 eh78 eg78 bx78 hw => ?_)
                obtain ⟨x78p0, g78, on78, fx78p0, bx78p0, R78_0, R78_1⟩ := bx78
                rw [eh78, eg78] at g78 on78
                have hcO := hp_c.kept hcO (on78 _ (fun h9 => hp_ne_ao hp0opn hp0 h9))
                rw [eg78] at fx78p0
                have hkm := hkm.call g78 (by decide)
                have hon := hon.trans (hp_on.mono on78 (fun q h9 => by rcases h9 with rfl; exact Or.inl rfl))
                have f_p0_1 := g78 _ _ _ _ f_p0_1 (by decide)
                have f_p0_11 := g78 _ _ _ _ f_p0_11 (by decide)
                have f_p0_16 := g78 _ _ _ _ f_p0_16 (by decide)
                have obx78p0 := iv_o bx78p0
                have hcs := cs.on (T := T) hcs on78 g78 (fun h9 => hp_ne_ao hp0sign hp0 h9) (fun h9 => hp_ne_ao hp0len hp0 h9) (by decide)
                have pg9 := R78_1 ch9
                refine lv_aload_n hx hb dX12_tested_81 rfl (lv_at hl 2 rfl) ?_
                refine lv_iload_n hx hb dX12_tested_82 rfl (lv_at hl 0 rfl) ?_
                refine hp_callpi (va_runS (As := [.int 12]) (rest := [.ref ap0]) ⟨hx, hb, hml, hown, hts⟩ (sX12_strength_x l D T (12 : Int32)) (va_cwS 1 hts gX12_tested_X12_strength rfl rfl rfl (by decide +kernel) ⟨Nat.le_of_ble_eq_true rfl, Nat.le_of_ble_eq_true rfl⟩) (hp_preS hG hw trivial) rfl rfl hl.1 rfl (lv_room (Nat.le_of_ble_eq_true rfl)) dX12_tested_83 ⟨Nat.zero_le _, Nat.zero_le _⟩) (fun x83 bx83 => ?_)
                obtain ⟨bx83, ox83, nx83⟩ := bx83
                have obx83 := iv_o bx83
                have z86 : ¬ x83 = 0 := fun h9 => by rcases nx83 with h8 | h8 | h8; (exact absurd (h9.symm.trans h8) (by decide)); (exact h8 h9); (exact h8 (by decide))
                have w86 : iv x83 1 3 := (iv_ne_lo z86 bx83 rfl).mono (by decide) (by decide)
                have ow86 := iv_o w86
                refine hp_callev (va_runV (As := [.int x83]) (rest := []) ⟨hx, hb, hml, hown, hts⟩ (sX12_settles l D T ap0 x83 x26p1 xp102 A Gm Tp ip0 gS0 gb 0 (x26p0.toInt - x26p1.toInt) Oc26 hov (by omega) w86 bx26p1 c12_xp102) (cwV 1 hts gX12_tested_X12_settles rfl rfl rfl (by decide +kernel) ⟨Nat.le_of_ble_eq_true rfl, Nat.le_of_ble_eq_true rfl⟩) (hp_preV hG hw hp0 rfl ⟨f_p0_16, f_p0_11, hcO, (cs.hh hcs (by first | rfl | omega))⟩) rfl rfl hl.1 rfl (lv_room (Nat.le_of_ble_eq_true rfl)) dX12_tested_86 ⟨Nat.zero_le _, Nat.zero_le _⟩) hw (fun st86 t86 H86 locs86 eh86 eg86 bx86 hw => ?_)
                obtain ⟨x86p0, g86, on86, fx86p0, bx86p0, R86_0, R86_1, R86_2, R86_3⟩ := bx86
                rw [eh86, eg86] at g86 on86
                have hcO := hp_c.kept hcO (on86 _ (fun h9 => by rcases h9 with h9 | h9 | h9; (exact hp_ne_ao hp0opn hp0 h9); (exact hp_ne_len hp0opn hp0sign (by decide) h9); (exact hp_ne_len hp0opn hp0len (by decide) h9)))
                rw [eg86] at fx86p0
                have hkm := hkm.call g86 (by decide)
                have hon := hon.trans (hp_on.mono on86 (fun q h9 => by rcases h9 with rfl | rfl | rfl; (exact Or.inl rfl); (exact Or.inr (Or.inl rfl)); (exact Or.inr (Or.inr (Or.inl rfl)))))
                have f_p0_1 := g86 _ _ _ _ f_p0_1 (by decide)
                have f_p0_11 := g86 _ _ _ _ f_p0_11 (by decide)
                have f_p0_8 := g86 _ _ _ _ fx78p0 (by decide)
                have obx86p0 := iv_o bx86p0
                have hcs := R86_1
                rw [eg86] at hcs
                have hov := ovd_le hov R86_0
                have bd9 := cs.bd0 hcs
                have w89 : iv x86p0 0 399 := ⟨by omega, by omega⟩
                have ow89 := iv_o w89
                refine lv_aload_n hx hb dX12_tested_89 rfl (lv_at hl 2 rfl) ?_
                refine hp_getr hx hb hts IX12 hown hK hw.1 hp0 rfl 15 (by decide) L29 rfl dX12_tested_90 ?_
                refine lv_aload_n hx hb dX12_tested_93 rfl (lv_at hl 2 rfl) ?_
                refine hp_getf hx hb hts IX12 hown hK fx86p0 rfl (by decide) L162 dX12_tested_94 ?_
                refine lv_iload_n hx hb dX12_tested_97 rfl (lv_at hl 0 rfl) ?_
                refine hp_iastC hx hb hK hw hp0opn (vp_iv w89 (by decide)) ⟨_, rfl⟩ hcO dX12_tested_98 (fun H98 locs98 hw g98 o98 hcO => ?_)
                have hon := hon.trans (hp_on.mono (show hp_on (fun q => q = A 6) _ _ from o98) (fun q h9 => by subst h9; exact Or.inr (Or.inr (Or.inr (rfl)))))
                have hcs := cs.on (T := T) hcs (show hp_on (fun q => q = A 6) _ _ from o98) (show hp_km D [] _ _ from fun b cj j w h _ => g98 b cj j w h) (hp_ne_len hp0sign hp0opn (by decide)) (hp_ne_len hp0len hp0opn (by decide)) (by decide)
                have hkm := hkm.ar g98
                have f_p0_1 := g98 _ _ _ _ f_p0_1
                have f_p0_11 := g98 _ _ _ _ f_p0_11
                have f_p0_8 := g98 _ _ _ _ f_p0_8
                have f_p0_16 := g98 _ _ _ _ fx86p0
                refine lv_aload_n hx hb dX12_tested_99 rfl (lv_at hl 2 rfl) ?_
                refine lv_dup hx hb dX12_tested_100 rfl ?_
                refine hp_getf hx hb hts IX12 hown hK f_p0_16 rfl (by decide) L162 dX12_tested_101 ?_
                refine lv_iconst (v := 1) hx hb dX12_tested_104 (by decide) ?_
                refine lv_iadd hx hb dX12_tested_105 ?_
                refine lv_topi (fun x105 ex105 => ?_)
                have bx105 : iv x105 1 400 := iv_add w89 (show iv 1 1 1 from ⟨by decide, by decide⟩) ex105 (by decide)
                have obx105 := iv_o bx105
                have qx105 := iv_add_eq w89 (show iv 1 1 1 from ⟨by decide, by decide⟩) ex105 (by decide)
                have eo9 : x105.toInt = x86p0.toInt + 1 := by omega
                have hov := ovd_p (s := 12) hov (show x86p0.toInt = x86p0.toInt from rfl) (by omega) eo9 (by decide)
                have hnb := nbin_p1 (O := Oc26) (s := 12) (show x86p0.toInt = x86p0.toInt from rfl) (by omega) eo9 (by decide)
                refine hp_putE hx hb hts IX12 tyX12 tyX12_ok nmX12 hown hK hw hp0 rfl 16 (by decide) L162 rfl rfl ⟨_, rfl, (bx105.mono (by decide) (by decide))⟩ rfl rfl dX12_tested_106 (fun H106 locs106 hw f106n g106 on106 => ?_)
                have hon := hon.trans (hp_on.mono (show hp_on (fun q => q = ap0) _ _ from on106) (fun q h9 => by rcases h9 with rfl; exact Or.inl rfl))
                have hcO := hp_c.kept hcO (on106 _ (fun h9 => hp_ne_ao hp0opn hp0 h9))
                have hcs := cs.put hcs g106 on106 (hp_ne_ao hp0sign hp0) (hp_ne_ao hp0len hp0) (by decide)
                have hkm := hkm.put g106 (by decide)
                have f_p0_1 := g106 _ _ _ _ f_p0_1 (Or.inr ⟨rfl, by decide⟩)
                have f_p0_11 := g106 _ _ _ _ f_p0_11 (Or.inr ⟨rfl, by decide⟩)
                have f_p0_8 := g106 _ _ _ _ f_p0_8 (Or.inr ⟨rfl, by decide⟩)
                refine lv_goto (tgt := 12) hx hb dX12_tested_109 (by decide) ?_
                exact ih12 (1 : Int32) x105 x78p0 (by omega) (show iv 1 0 1 from ⟨by decide, by decide⟩) c12_xp101 c12_xp102 (bx105.mono (by decide) (by decide)) bx78p0 (show xp100.toInt ≤ x78p0.toInt from by have := (bx78p0).1; have := (bx78p0).2; have : (0 : Int32).toInt = 0 := (by decide); have : (1 : Int32).toInt = 1 := (by decide); omega) H106 locs106 hw hkm hon f_p0_1 f_p0_11 f106n f_p0_8 (os_mk hcO hov hcs (by first | rfl | (rw [hnb]; omega)) (by omega) (by omega)) _ (lv_sub hl [2, 1] rfl)
          · have oc36 := congrArg Int32.toInt c36
            have r36fp : iv x33 0 0 := (iv_both cx33 (iv_eq (show iv 0 0 0 from ⟨by decide, by decide⟩) c36)).mono (by decide) (by decide)
            have or36fp := iv_o r36fp
            refine lv_aload_n hx hb dX12_tested_39 rfl (lv_at hl 0 rfl) ?_
            refine lv_ldc2 (v := 28530) hx hb hown K215 dX12_tested_40 ?_
            refine hp_callei (va_runV (As := [.long 28530]) (rest := []) ⟨hx, hb, hml, hown, hts⟩ (sX12_isWord_x l D T ap0 28530 x33p0 xp101 A Gm Tp ip0 bx33p0 c12_xp101) (cwV 1 hts gX12_tested_X12_isWord rfl rfl rfl (by decide +kernel) ⟨Nat.le_of_ble_eq_true rfl, Nat.le_of_ble_eq_true rfl⟩) (hp_preV hG hw hp0 rfl ⟨fx33p0, f_p0_1⟩) rfl rfl hl.1 rfl (lv_room (Nat.le_of_ble_eq_true rfl)) dX12_tested_43 ⟨Nat.zero_le _, Nat.zero_le _⟩) hw (fun x43 st43 t43 H43 locs43 eh43 eg43 bx43 hw => ?_)
            obtain ⟨x43p0, g43, on43, fx43p0, cx43, bx43p0, R43_0, R43_1, R43_2⟩ := bx43
            rw [eh43, eg43] at g43 on43
            have hcO := hp_c.kept hcO (on43 _ (fun h9 => hp_ne_ao hp0opn hp0 h9))
            rw [eg43] at fx43p0
            have hkm := hkm.call g43 (by decide)
            have hon := hon.trans (hp_on.mono on43 (fun q h9 => by rcases h9 with rfl; exact Or.inl rfl))
            have f_p0_1 := g43 _ _ _ _ f_p0_1 (by decide)
            have f_p0_11 := g43 _ _ _ _ f_p0_11 (by decide)
            have f_p0_16 := g43 _ _ _ _ f_p0_16 (by decide)
            have obx43p0 := iv_o bx43p0
            have ocx43 := iv_o cx43
            have hcs := cs.on (T := T) hcs on43 g43 (fun h9 => hp_ne_ao hp0sign hp0 h9) (fun h9 => hp_ne_ao hp0len hp0 h9) (by decide)
            refine lv_if_eq (tgt := 53) hx hb dX12_tested_46 (by decide) (fun c46 => ?_) (fun c46 => ?_)
            · have oc46 := congrArg Int32.toInt c46
              have r46tp : iv x43 0 0 := (iv_both cx43 (iv_eq (show iv 0 0 0 from ⟨by decide, by decide⟩) c46)).mono (by decide) (by decide)
              have or46tp := iv_o r46tp
              refine lv_iconst (v := 0) hx hb dX12_tested_53 (by decide) ?_
              refine lv_istore_n (lv' := [(1, .int 0), (0, .ref ap0)]) hx hb dX12_tested_54 rfl hl (by decide) rfl (fun ls hl => ?_)
              refine lv_iload_n hx hb dX12_tested_55 rfl (lv_at hl 0 rfl) ?_
              refine lv_if_eq (tgt := 12) hx hb dX12_tested_56 (by decide) (fun c56 => ?_) (fun c56 => ?_)
              · have oc56 := congrArg Int32.toInt c56
                exact ih12 (0 : Int32) x26p1 x43p0 (by omega) (show iv 0 0 1 from ⟨by decide, by decide⟩) c12_xp101 c12_xp102 bx26p1 bx43p0 (show xp100.toInt ≤ x43p0.toInt from by have := (bx43p0).1; have := (bx43p0).2; have : (0 : Int32).toInt = 0 := (by decide); omega) H43 locs43 hw hkm hon f_p0_1 f_p0_11 f_p0_16 fx43p0 (os_mk hcO hov hcs (by first | rfl | omega) (by omega) (by omega)) _ (lv_sub hl [1, 0] rfl)
              · have oc56 := iv_neq c56
                exact absurd rfl c56
            · have oc46 := iv_neq c46
              have r46fp : iv x43 1 1 := (iv_ne_lo c46 cx43 rfl).mono (by decide) (by decide)
              have or46fp := iv_o r46fp
              refine lv_iconst (v := 1) hx hb dX12_tested_49 (by decide) ?_
              refine lv_goto (tgt := 54) hx hb dX12_tested_50 (by decide) ?_
              refine lv_istore_n (lv' := [(1, .int 1), (0, .ref ap0)]) hx hb dX12_tested_54 rfl hl (by decide) rfl (fun ls hl => ?_)
              refine lv_iload_n hx hb dX12_tested_55 rfl (lv_at hl 0 rfl) ?_
              refine lv_if_eq (tgt := 12) hx hb dX12_tested_56 (by decide) (fun c56 => ?_) (fun c56 => ?_)
              · have oc56 := congrArg Int32.toInt c56
                exact iv_abs2 c56 (show iv 1 1 1 from ⟨by decide, by decide⟩) (show iv 0 0 0 from ⟨by decide, by decide⟩) (by decide)
              · have oc56 := iv_neq c56
                refine lv_aload_n hx hb dX12_tested_59 rfl (lv_at hl 1 rfl) ?_
                refine lv_ldc2 (v := 6385252) hx hb hown K213 dX12_tested_60 ?_
                refine hp_callei (va_runV (As := [.long 6385252]) (rest := []) ⟨hx, hb, hml, hown, hts⟩ (sX12_isWord_x l D T ap0 6385252 x43p0 xp101 A Gm Tp ip0 bx43p0 c12_xp101) (cwV 1 hts gX12_tested_X12_isWord rfl rfl rfl (by decide +kernel) ⟨Nat.le_of_ble_eq_true rfl, Nat.le_of_ble_eq_true rfl⟩) (hp_preV hG hw hp0 rfl ⟨fx43p0, f_p0_1⟩) rfl rfl hl.1 rfl (lv_room (Nat.le_of_ble_eq_true rfl)) dX12_tested_63 ⟨Nat.zero_le _, Nat.zero_le _⟩) hw (fun x63 st63 t63 H63 locs63 eh63 eg63 bx63 hw => ?_)
                obtain ⟨x63p0, g63, on63, fx63p0, cx63, bx63p0, R63_0, R63_1, R63_2⟩ := bx63
                rw [eh63, eg63] at g63 on63
                have hcO := hp_c.kept hcO (on63 _ (fun h9 => hp_ne_ao hp0opn hp0 h9))
                rw [eg63] at fx63p0
                have hkm := hkm.call g63 (by decide)
                have hon := hon.trans (hp_on.mono on63 (fun q h9 => by rcases h9 with rfl; exact Or.inl rfl))
                have f_p0_1 := g63 _ _ _ _ f_p0_1 (by decide)
                have f_p0_11 := g63 _ _ _ _ f_p0_11 (by decide)
                have f_p0_16 := g63 _ _ _ _ f_p0_16 (by decide)
                have obx63p0 := iv_o bx63p0
                have ocx63 := iv_o cx63
                have hcs := cs.on (T := T) hcs on63 g63 (fun h9 => hp_ne_ao hp0sign hp0 h9) (fun h9 => hp_ne_ao hp0len hp0 h9) (by decide)
                refine lv_if_eq (tgt := 74) hx hb dX12_tested_66 (by decide) (fun c66 => ?_) (fun c66 => ?_)
                · have oc66 := congrArg Int32.toInt c66
                  have r66tp : iv x63 0 0 := (iv_both cx63 (iv_eq (show iv 0 0 0 from ⟨by decide, by decide⟩) c66)).mono (by decide) (by decide)
                  have or66tp := iv_o r66tp
                  refine lv_bipush (v := 13) hx hb dX12_tested_74 (by decide) ?_
                  refine lv_istore_n (lv' := [(2, .int 13), (1, .int 1), (0, .ref ap0)]) hx hb dX12_tested_76 rfl hl (by decide) rfl (fun ls hl => ?_)
                  have ch9 : chb Tp 97 122 x63p0.toInt xp101.toInt := by rw [R63_2 (chb_no (R43_1 (by omega)) (by decide))]; exact R43_1 (by omega)
                  refine lv_aload_n hx hb dX12_tested_77 rfl (lv_at hl 2 rfl) ?_
                  refine hp_callev (va_runV (As := []) (rest := []) ⟨hx, hb, hml, hown, hts⟩ (sX12_passWord l D T ap0 x63p0 xp101 A Gm Tp ip0 bx63p0 c12_xp101) (cwV 0 hts gX12_tested_X12_passWord rfl rfl rfl (by decide +kernel) ⟨Nat.le_of_ble_eq_true rfl, Nat.le_of_ble_eq_true rfl⟩) (hp_preV hG hw hp0 rfl ⟨fx63p0, f_p0_1⟩) rfl rfl hl.1 rfl (lv_room (Nat.le_of_ble_eq_true rfl)) dX12_tested_78 ⟨Nat.zero_le _, Nat.zero_le _⟩) hw (fun st78 t78 H78 locs78 eh78 eg78 bx78 hw => ?_)
                  obtain ⟨x78p0, g78, on78, fx78p0, bx78p0, R78_0, R78_1⟩ := bx78
                  rw [eh78, eg78] at g78 on78
                  have hcO := hp_c.kept hcO (on78 _ (fun h9 => hp_ne_ao hp0opn hp0 h9))
                  rw [eg78] at fx78p0
                  have hkm := hkm.call g78 (by decide)
                  have hon := hon.trans (hp_on.mono on78 (fun q h9 => by rcases h9 with rfl; exact Or.inl rfl))
                  have f_p0_1 := g78 _ _ _ _ f_p0_1 (by decide)
                  have f_p0_11 := g78 _ _ _ _ f_p0_11 (by decide)
                  have f_p0_16 := g78 _ _ _ _ f_p0_16 (by decide)
                  have obx78p0 := iv_o bx78p0
                  have hcs := cs.on (T := T) hcs on78 g78 (fun h9 => hp_ne_ao hp0sign hp0 h9) (fun h9 => hp_ne_ao hp0len hp0 h9) (by decide)
                  have pg9 := R78_1 ch9
                  refine lv_aload_n hx hb dX12_tested_81 rfl (lv_at hl 2 rfl) ?_
                  refine lv_iload_n hx hb dX12_tested_82 rfl (lv_at hl 0 rfl) ?_
                  refine hp_callpi (va_runS (As := [.int 13]) (rest := [.ref ap0]) ⟨hx, hb, hml, hown, hts⟩ (sX12_strength_x l D T (13 : Int32)) (va_cwS 1 hts gX12_tested_X12_strength rfl rfl rfl (by decide +kernel) ⟨Nat.le_of_ble_eq_true rfl, Nat.le_of_ble_eq_true rfl⟩) (hp_preS hG hw trivial) rfl rfl hl.1 rfl (lv_room (Nat.le_of_ble_eq_true rfl)) dX12_tested_83 ⟨Nat.zero_le _, Nat.zero_le _⟩) (fun x83 bx83 => ?_)
                  obtain ⟨bx83, ox83, nx83⟩ := bx83
                  have obx83 := iv_o bx83
                  have z86 : ¬ x83 = 0 := fun h9 => by rcases nx83 with h8 | h8 | h8; (exact absurd (h9.symm.trans h8) (by decide)); (exact h8 h9); (exact h8 (by decide))
                  have w86 : iv x83 1 3 := (iv_ne_lo z86 bx83 rfl).mono (by decide) (by decide)
                  have ow86 := iv_o w86
                  refine hp_callev (va_runV (As := [.int x83]) (rest := []) ⟨hx, hb, hml, hown, hts⟩ (sX12_settles l D T ap0 x83 x26p1 xp102 A Gm Tp ip0 gS0 gb 0 (x26p0.toInt - x26p1.toInt) Oc26 hov (by omega) w86 bx26p1 c12_xp102) (cwV 1 hts gX12_tested_X12_settles rfl rfl rfl (by decide +kernel) ⟨Nat.le_of_ble_eq_true rfl, Nat.le_of_ble_eq_true rfl⟩) (hp_preV hG hw hp0 rfl ⟨f_p0_16, f_p0_11, hcO, (cs.hh hcs (by first | rfl | omega))⟩) rfl rfl hl.1 rfl (lv_room (Nat.le_of_ble_eq_true rfl)) dX12_tested_86 ⟨Nat.zero_le _, Nat.zero_le _⟩) hw (fun st86 t86 H86 locs86 eh86 eg86 bx86 hw => ?_)
                  obtain ⟨x86p0, g86, on86, fx86p0, bx86p0, R86_0, R86_1, R86_2, R86_3⟩ := bx86
                  rw [eh86, eg86] at g86 on86
                  have hcO := hp_c.kept hcO (on86 _ (fun h9 => by rcases h9 with h9 | h9 | h9; (exact hp_ne_ao hp0opn hp0 h9); (exact hp_ne_len hp0opn hp0sign (by decide) h9); (exact hp_ne_len hp0opn hp0len (by decide) h9)))
                  rw [eg86] at fx86p0
                  have hkm := hkm.call g86 (by decide)
                  have hon := hon.trans (hp_on.mono on86 (fun q h9 => by rcases h9 with rfl | rfl | rfl; (exact Or.inl rfl); (exact Or.inr (Or.inl rfl)); (exact Or.inr (Or.inr (Or.inl rfl)))))
                  have f_p0_1 := g86 _ _ _ _ f_p0_1 (by decide)
                  have f_p0_11 := g86 _ _ _ _ f_p0_11 (by decide)
                  have f_p0_8 := g86 _ _ _ _ fx78p0 (by decide)
                  have obx86p0 := iv_o bx86p0
                  have hcs := R86_1
                  rw [eg86] at hcs
                  have hov := ovd_le hov R86_0
                  have bd9 := cs.bd0 hcs
                  have w89 : iv x86p0 0 399 := ⟨by omega, by omega⟩
                  have ow89 := iv_o w89
                  refine lv_aload_n hx hb dX12_tested_89 rfl (lv_at hl 2 rfl) ?_
                  refine hp_getr hx hb hts IX12 hown hK hw.1 hp0 rfl 15 (by decide) L29 rfl dX12_tested_90 ?_
                  refine lv_aload_n hx hb dX12_tested_93 rfl (lv_at hl 2 rfl) ?_
                  refine hp_getf hx hb hts IX12 hown hK fx86p0 rfl (by decide) L162 dX12_tested_94 ?_
                  refine lv_iload_n hx hb dX12_tested_97 rfl (lv_at hl 0 rfl) ?_
                  refine hp_iastC hx hb hK hw hp0opn (vp_iv w89 (by decide)) ⟨_, rfl⟩ hcO dX12_tested_98 (fun H98 locs98 hw g98 o98 hcO => ?_)
                  have hon := hon.trans (hp_on.mono (show hp_on (fun q => q = A 6) _ _ from o98) (fun q h9 => by subst h9; exact Or.inr (Or.inr (Or.inr (rfl)))))
                  have hcs := cs.on (T := T) hcs (show hp_on (fun q => q = A 6) _ _ from o98) (show hp_km D [] _ _ from fun b cj j w h _ => g98 b cj j w h) (hp_ne_len hp0sign hp0opn (by decide)) (hp_ne_len hp0len hp0opn (by decide)) (by decide)
                  have hkm := hkm.ar g98
                  have f_p0_1 := g98 _ _ _ _ f_p0_1
                  have f_p0_11 := g98 _ _ _ _ f_p0_11
                  have f_p0_8 := g98 _ _ _ _ f_p0_8
                  have f_p0_16 := g98 _ _ _ _ fx86p0
                  refine lv_aload_n hx hb dX12_tested_99 rfl (lv_at hl 2 rfl) ?_
                  refine lv_dup hx hb dX12_tested_100 rfl ?_
                  refine hp_getf hx hb hts IX12 hown hK f_p0_16 rfl (by decide) L162 dX12_tested_101 ?_
                  refine lv_iconst (v := 1) hx hb dX12_tested_104 (by decide) ?_
                  refine lv_iadd hx hb dX12_tested_105 ?_
                  refine lv_topi (fun x105 ex105 => ?_)
                  have bx105 : iv x105 1 400 := iv_add w89 (show iv 1 1 1 from ⟨by decide, by decide⟩) ex105 (by decide)
                  have obx105 := iv_o bx105
                  have qx105 := iv_add_eq w89 (show iv 1 1 1 from ⟨by decide, by decide⟩) ex105 (by decide)
                  have eo9 : x105.toInt = x86p0.toInt + 1 := by omega
                  have hov := ovd_p (s := 13) hov (show x86p0.toInt = x86p0.toInt from rfl) (by omega) eo9 (by decide)
                  have hnb := nbin_p1 (O := Oc26) (s := 13) (show x86p0.toInt = x86p0.toInt from rfl) (by omega) eo9 (by decide)
                  refine hp_putE hx hb hts IX12 tyX12 tyX12_ok nmX12 hown hK hw hp0 rfl 16 (by decide) L162 rfl rfl ⟨_, rfl, (bx105.mono (by decide) (by decide))⟩ rfl rfl dX12_tested_106 (fun H106 locs106 hw f106n g106 on106 => ?_)
                  have hon := hon.trans (hp_on.mono (show hp_on (fun q => q = ap0) _ _ from on106) (fun q h9 => by rcases h9 with rfl; exact Or.inl rfl))
                  have hcO := hp_c.kept hcO (on106 _ (fun h9 => hp_ne_ao hp0opn hp0 h9))
                  have hcs := cs.put hcs g106 on106 (hp_ne_ao hp0sign hp0) (hp_ne_ao hp0len hp0) (by decide)
                  have hkm := hkm.put g106 (by decide)
                  have f_p0_1 := g106 _ _ _ _ f_p0_1 (Or.inr ⟨rfl, by decide⟩)
                  have f_p0_11 := g106 _ _ _ _ f_p0_11 (Or.inr ⟨rfl, by decide⟩)
                  have f_p0_8 := g106 _ _ _ _ f_p0_8 (Or.inr ⟨rfl, by decide⟩)
                  refine lv_goto (tgt := 12) hx hb dX12_tested_109 (by decide) ?_
                  exact ih12 (1 : Int32) x105 x78p0 (by omega) (show iv 1 0 1 from ⟨by decide, by decide⟩) c12_xp101 c12_xp102 (bx105.mono (by decide) (by decide)) bx78p0 (show xp100.toInt ≤ x78p0.toInt from by have := (bx78p0).1; have := (bx78p0).2; have : (0 : Int32).toInt = 0 := (by decide); have : (1 : Int32).toInt = 1 := (by decide); omega) H106 locs106 hw hkm hon f_p0_1 f_p0_11 f106n f_p0_8 (os_mk hcO hov hcs (by first | rfl | (rw [hnb]; omega)) (by omega) (by omega)) _ (lv_sub hl [2, 1] rfl)
                · have oc66 := iv_neq c66
                  have r66fp : iv x63 1 1 := (iv_ne_lo c66 cx63 rfl).mono (by decide) (by decide)
                  have or66fp := iv_o r66fp
                  refine lv_bipush (v := 12) hx hb dX12_tested_69 (by decide) ?_
                  refine lv_goto (tgt := 76) hx hb dX12_tested_71 (by decide) ?_
                  refine lv_istore_n (lv' := [(2, .int 12), (1, .int 1), (0, .ref ap0)]) hx hb dX12_tested_76 rfl hl (by decide) rfl (fun ls hl => ?_)
                  have ch9 : chb Tp 97 122 x63p0.toInt xp101.toInt := by rw [R63_2 (chb_no (R43_1 (by omega)) (by decide))]; exact R43_1 (by omega)
                  refine lv_aload_n hx hb dX12_tested_77 rfl (lv_at hl 2 rfl) ?_
                  refine hp_callev (va_runV (As := []) (rest := []) ⟨hx, hb, hml, hown, hts⟩ (sX12_passWord l D T ap0 x63p0 xp101 A Gm Tp ip0 bx63p0 c12_xp101) (cwV 0 hts gX12_tested_X12_passWord rfl rfl rfl (by decide +kernel) ⟨Nat.le_of_ble_eq_true rfl, Nat.le_of_ble_eq_true rfl⟩) (hp_preV hG hw hp0 rfl ⟨fx63p0, f_p0_1⟩) rfl rfl hl.1 rfl (lv_room (Nat.le_of_ble_eq_true rfl)) dX12_tested_78 ⟨Nat.zero_le _, Nat.zero_le _⟩) hw (fun st78 t78 H78 locs78 eh78 eg78 bx78 hw => ?_)
                  obtain ⟨x78p0, g78, on78, fx78p0, bx78p0, R78_0, R78_1⟩ := bx78
                  rw [eh78, eg78] at g78 on78
                  have hcO := hp_c.kept hcO (on78 _ (fun h9 => hp_ne_ao hp0opn hp0 h9))
                  rw [eg78] at fx78p0
                  have hkm := hkm.call g78 (by decide)
                  have hon := hon.trans (hp_on.mono on78 (fun q h9 => by rcases h9 with rfl; exact Or.inl rfl))
                  have f_p0_1 := g78 _ _ _ _ f_p0_1 (by decide)
                  have f_p0_11 := g78 _ _ _ _ f_p0_11 (by decide)
                  have f_p0_16 := g78 _ _ _ _ f_p0_16 (by decide)
                  have obx78p0 := iv_o bx78p0
                  have hcs := cs.on (T := T) hcs on78 g78 (fun h9 => hp_ne_ao hp0sign hp0 h9) (fun h9 => hp_ne_ao hp0len hp0 h9) (by decide)
                  have pg9 := R78_1 ch9
                  refine lv_aload_n hx hb dX12_tested_81 rfl (lv_at hl 2 rfl) ?_
                  refine lv_iload_n hx hb dX12_tested_82 rfl (lv_at hl 0 rfl) ?_
                  refine hp_callpi (va_runS (As := [.int 12]) (rest := [.ref ap0]) ⟨hx, hb, hml, hown, hts⟩ (sX12_strength_x l D T (12 : Int32)) (va_cwS 1 hts gX12_tested_X12_strength rfl rfl rfl (by decide +kernel) ⟨Nat.le_of_ble_eq_true rfl, Nat.le_of_ble_eq_true rfl⟩) (hp_preS hG hw trivial) rfl rfl hl.1 rfl (lv_room (Nat.le_of_ble_eq_true rfl)) dX12_tested_83 ⟨Nat.zero_le _, Nat.zero_le _⟩) (fun x83 bx83 => ?_)
                  obtain ⟨bx83, ox83, nx83⟩ := bx83
                  have obx83 := iv_o bx83
                  have z86 : ¬ x83 = 0 := fun h9 => by rcases nx83 with h8 | h8 | h8; (exact absurd (h9.symm.trans h8) (by decide)); (exact h8 h9); (exact h8 (by decide))
                  have w86 : iv x83 1 3 := (iv_ne_lo z86 bx83 rfl).mono (by decide) (by decide)
                  have ow86 := iv_o w86
                  refine hp_callev (va_runV (As := [.int x83]) (rest := []) ⟨hx, hb, hml, hown, hts⟩ (sX12_settles l D T ap0 x83 x26p1 xp102 A Gm Tp ip0 gS0 gb 0 (x26p0.toInt - x26p1.toInt) Oc26 hov (by omega) w86 bx26p1 c12_xp102) (cwV 1 hts gX12_tested_X12_settles rfl rfl rfl (by decide +kernel) ⟨Nat.le_of_ble_eq_true rfl, Nat.le_of_ble_eq_true rfl⟩) (hp_preV hG hw hp0 rfl ⟨f_p0_16, f_p0_11, hcO, (cs.hh hcs (by first | rfl | omega))⟩) rfl rfl hl.1 rfl (lv_room (Nat.le_of_ble_eq_true rfl)) dX12_tested_86 ⟨Nat.zero_le _, Nat.zero_le _⟩) hw (fun st86 t86 H86 locs86 eh86 eg86 bx86 hw => ?_)
                  obtain ⟨x86p0, g86, on86, fx86p0, bx86p0, R86_0, R86_1, R86_2, R86_3⟩ := bx86
                  rw [eh86, eg86] at g86 on86
                  have hcO := hp_c.kept hcO (on86 _ (fun h9 => by rcases h9 with h9 | h9 | h9; (exact hp_ne_ao hp0opn hp0 h9); (exact hp_ne_len hp0opn hp0sign (by decide) h9); (exact hp_ne_len hp0opn hp0len (by decide) h9)))
                  rw [eg86] at fx86p0
                  have hkm := hkm.call g86 (by decide)
                  have hon := hon.trans (hp_on.mono on86 (fun q h9 => by rcases h9 with rfl | rfl | rfl; (exact Or.inl rfl); (exact Or.inr (Or.inl rfl)); (exact Or.inr (Or.inr (Or.inl rfl)))))
                  have f_p0_1 := g86 _ _ _ _ f_p0_1 (by decide)
                  have f_p0_11 := g86 _ _ _ _ f_p0_11 (by decide)
                  have f_p0_8 := g86 _ _ _ _ fx78p0 (by decide)
                  have obx86p0 := iv_o bx86p0
                  have hcs := R86_1
                  rw [eg86] at hcs
                  have hov := ovd_le hov R86_0
                  have bd9 := cs.bd0 hcs
                  have w89 : iv x86p0 0 399 := ⟨by omega, by omega⟩
                  have ow89 := iv_o w89
                  refine lv_aload_n hx hb dX12_tested_89 rfl (lv_at hl 2 rfl) ?_
                  refine hp_getr hx hb hts IX12 hown hK hw.1 hp0 rfl 15 (by decide) L29 rfl dX12_tested_90 ?_
                  refine lv_aload_n hx hb dX12_tested_93 rfl (lv_at hl 2 rfl) ?_
                  refine hp_getf hx hb hts IX12 hown hK fx86p0 rfl (by decide) L162 dX12_tested_94 ?_
                  refine lv_iload_n hx hb dX12_tested_97 rfl (lv_at hl 0 rfl) ?_
                  refine hp_iastC hx hb hK hw hp0opn (vp_iv w89 (by decide)) ⟨_, rfl⟩ hcO dX12_tested_98 (fun H98 locs98 hw g98 o98 hcO => ?_)
                  have hon := hon.trans (hp_on.mono (show hp_on (fun q => q = A 6) _ _ from o98) (fun q h9 => by subst h9; exact Or.inr (Or.inr (Or.inr (rfl)))))
                  have hcs := cs.on (T := T) hcs (show hp_on (fun q => q = A 6) _ _ from o98) (show hp_km D [] _ _ from fun b cj j w h _ => g98 b cj j w h) (hp_ne_len hp0sign hp0opn (by decide)) (hp_ne_len hp0len hp0opn (by decide)) (by decide)
                  have hkm := hkm.ar g98
                  have f_p0_1 := g98 _ _ _ _ f_p0_1
                  have f_p0_11 := g98 _ _ _ _ f_p0_11
                  have f_p0_8 := g98 _ _ _ _ f_p0_8
                  have f_p0_16 := g98 _ _ _ _ fx86p0
                  refine lv_aload_n hx hb dX12_tested_99 rfl (lv_at hl 2 rfl) ?_
                  refine lv_dup hx hb dX12_tested_100 rfl ?_
                  refine hp_getf hx hb hts IX12 hown hK f_p0_16 rfl (by decide) L162 dX12_tested_101 ?_
                  refine lv_iconst (v := 1) hx hb dX12_tested_104 (by decide) ?_
                  refine lv_iadd hx hb dX12_tested_105 ?_
                  refine lv_topi (fun x105 ex105 => ?_)
                  have bx105 : iv x105 1 400 := iv_add w89 (show iv 1 1 1 from ⟨by decide, by decide⟩) ex105 (by decide)
                  have obx105 := iv_o bx105
                  have qx105 := iv_add_eq w89 (show iv 1 1 1 from ⟨by decide, by decide⟩) ex105 (by decide)
                  have eo9 : x105.toInt = x86p0.toInt + 1 := by omega
                  have hov := ovd_p (s := 12) hov (show x86p0.toInt = x86p0.toInt from rfl) (by omega) eo9 (by decide)
                  have hnb := nbin_p1 (O := Oc26) (s := 12) (show x86p0.toInt = x86p0.toInt from rfl) (by omega) eo9 (by decide)
                  refine hp_putE hx hb hts IX12 tyX12 tyX12_ok nmX12 hown hK hw hp0 rfl 16 (by decide) L162 rfl rfl ⟨_, rfl, (bx105.mono (by decide) (by decide))⟩ rfl rfl dX12_tested_106 (fun H106 locs106 hw f106n g106 on106 => ?_)
                  have hon := hon.trans (hp_on.mono (show hp_on (fun q => q = ap0) _ _ from on106) (fun q h9 => by rcases h9 with rfl; exact Or.inl rfl))
                  have hcO := hp_c.kept hcO (on106 _ (fun h9 => hp_ne_ao hp0opn hp0 h9))
                  have hcs := cs.put hcs g106 on106 (hp_ne_ao hp0sign hp0) (hp_ne_ao hp0len hp0) (by decide)
                  have hkm := hkm.put g106 (by decide)
                  have f_p0_1 := g106 _ _ _ _ f_p0_1 (Or.inr ⟨rfl, by decide⟩)
                  have f_p0_11 := g106 _ _ _ _ f_p0_11 (Or.inr ⟨rfl, by decide⟩)
                  have f_p0_8 := g106 _ _ _ _ f_p0_8 (Or.inr ⟨rfl, by decide⟩)
                  refine lv_goto (tgt := 12) hx hb dX12_tested_109 (by decide) ?_
                  exact ih12 (1 : Int32) x105 x78p0 (by omega) (show iv 1 0 1 from ⟨by decide, by decide⟩) c12_xp101 c12_xp102 (bx105.mono (by decide) (by decide)) bx78p0 (show xp100.toInt ≤ x78p0.toInt from by have := (bx78p0).1; have := (bx78p0).2; have : (0 : Int32).toInt = 0 := (by decide); have : (1 : Int32).toInt = 1 := (by decide); omega) H106 locs106 hw hkm hon f_p0_1 f_p0_11 f106n f_p0_8 (os_mk hcO hov hcs (by first | rfl | (rw [hnb]; omega)) (by omega) (by omega)) _ (lv_sub hl [2, 1] rfl)
        · have oc20 := congrArg Int32.toInt c20
          have r20fp : iv x17 0 0 := (iv_both cx17 (iv_eq (show iv 0 0 0 from ⟨by decide, by decide⟩) c20)).mono (by decide) (by decide)
          have or20fp := iv_o r20fp
          have hcw := R17_3 (by omega)
          rw [eg17] at hcw
          refine lv_iconst (v := 0) hx hb dX12_tested_23 (by decide) ?_
          exact W.zret (v := 0) hx hb hr (iv_nz (show iv 0 0 1 from ⟨by decide, by decide⟩)) (fun t ht hW => ⟨some (.int 0), rfl, ⟨(0 : Int32), rfl, ⟨x17p0, by rw [ht]; exact hkm, by rw [ht]; exact hon, by rw [ht]; exact fx17p0, (show iv 0 0 1 from ⟨by decide, by decide⟩), bx17p0, (by intros; omega), (fun h9 => absurd k0 h9), (fun _ => by rw [ht]; exact hcw)⟩⟩, by rw [ht]; exact hw.1, hw.2.F ht⟩) hw.2.2.2 dX12_tested_24
  exact J12 _ (1 : Int32) (0 : Int32) xp100 (Nat.lt_succ_self _) (show iv 1 0 1 from ⟨by decide, by decide⟩) bp101 bp102 (show iv 0 0 400 from ⟨by decide, by decide⟩) bp100 (show xp100.toInt ≤ xp100.toInt from by have := (bp100).1; have := (bp100).2; omega) H7 locs7 hw hkm hon f_p0_1 f_p0_11 f_p0_16 f_p0_8 (os_mk hcO hov hcs (by first | rfl | omega) (by omega) (by omega)) _ (lv_sub hl [1, 0] rfl)
abbrev WX12_isShakeHere (p : Program) (l : Launch) (e : Env) (s : State) (m : MethodId) (below : List Frame) (meth : Method) (c : Code) (D : hp_D) (T : hp_T) (ap0 : Nat) (xp100 : Int32) (xp101 : Int32) (xp102 : Int32) (A : Nat → Nat) (Tp : Nat → Value) (gl : Int) (H : Heap) (locs : List Loc) (g : JFrame) : Prop := W p l e (headSpec wsX12_isShakeHere ({ frames := 9, cells := 0, slots := 0, locals := 198 })).room s m ([.ref ap0] : List Value).toArray below meth c H locs 0 0 (MQ below (hq_e D T (fun v st t => ∃ r : Int32, v = some (.int r) ∧ ((∃ y0 : Int32, hp_km D [(12, 8), (12, 9), (12, 10), (12, 12), (12, 13), (12, 16)] st.heap t.heap ∧ hp_on (fun q => q = ap0 ∨ q = A 1 ∨ q = A 2 ∨ q = A 3 ∨ q = A 4 ∨ q = A 6) st.heap t.heap ∧ hp_f D t.heap ap0 12 8 (.int y0) ∧ iv r 0 1 ∧ iv y0 0 400 ∧ (xp100.toInt ≤ y0.toInt) ∧ (¬ r.toInt = 0 → rd D t.heap ap0 A xp102 (gl + 1) y0.toInt) ∧ (r.toInt = 0 → rdw D t.heap A))))) ([.ref ap0] : List Value).toArray s 0 0 (hp_F T)) g
set_option maxHeartbeats 4000000 in
set_option maxRecDepth 100000 in
theorem sX12_isShakeHere (l : Launch) (D : hp_D) (T : hp_T) (ap0 : Nat) (xp100 : Int32) (xp101 : Int32) (xp102 : Int32) (A : Nat → Nat) (Gm : moG) (Tp : Nat → Value) (ip0 : isMp T ap0 A Gm Tp) (gl : Int) (hgl : gl ≤ 11) (bp100 : iv xp100 0 400) (bp101 : iv xp101 0 400) (bp102 : iv xp102 0 5) : Met l yX12_isShakeHere wsX12_isShakeHere ({ frames := 9, cells := 0, slots := 0, locals := 198 }) (hp_Pc D T [.ref ap0] (fun H => hp_f D H ap0 12 8 (.int xp100) ∧ hp_f D H ap0 12 1 (.int xp101) ∧ hp_f D H ap0 12 11 (.int xp102) ∧ rd D H ap0 A xp102 gl xp100.toInt)) (hq_e D T (fun v st t => ∃ r : Int32, v = some (.int r) ∧ ((∃ y0 : Int32, hp_km D [(12, 8), (12, 9), (12, 10), (12, 12), (12, 13), (12, 16)] st.heap t.heap ∧ hp_on (fun q => q = ap0 ∨ q = A 1 ∨ q = A 2 ∨ q = A 3 ∨ q = A 4 ∨ q = A 6) st.heap t.heap ∧ hp_f D t.heap ap0 12 8 (.int y0) ∧ iv r 0 1 ∧ iv y0 0 400 ∧ (xp100.toInt ≤ y0.toInt) ∧ (¬ r.toInt = 0 → rd D t.heap ap0 A xp102 (gl + 1) y0.toInt) ∧ (r.toInt = 0 → rdw D t.heap A))))) 0 0 (hp_F T) := by
  obtain ⟨gok, tpok, hp0, hp0tape, hp0sign, hp0len, hp0clause, hp0clauses, hp0read, hp0opn, hp0stack, hp0word, hp0said, hp0was, hp0fitting, hp0sums, hp0sort, hp0sumsBy, hp0oneOf, hp0otherOf, hp0kept, hp0images, hp0acts, hp0iUnd, hp0iFor, hp0iX, hp0made⟩ := id ip0
  have hpx := gok.1
  have gsok := gok.2.2.2.2
  have ggd := gok.2.2.2.1
  refine Met.ofW (cc := cX12_isShakeHere) (maxL := 2) (ret := (some .boolean)) (by decide) rfl ?_
  intro p e s m args below meth c s₁ B hml hv
  obtain ⟨rfl, hok, hG, hB⟩ := hv
  have hx := B.exec
  have hb := B.bytes
  have hr := B.returns
  have hts := atoms_spec (ws := wsX12_isShakeHere) B.pre
  have hown : s.vm.findClass RX12 = some m.cls := findClass_of_methodNamed B.named
  have hlocks := B.notSynchronized
  have hK := hG.1
  have hw : hp_w D T s s.heap [] := hp_w.rf hok
  have IX12 : ∀ w ∈ wsX120, w ∈ wsX12_isShakeHere := by decide +kernel
  have L153 := hts (.fieldLink RX12 153 "PalmCensusModel" "text" "I") (by decide +kernel)
  have L23 := hts (.fieldLink RX12 23 "PalmCensusModel" "clauses" "[I") (by decide +kernel)
  have L20 := hts (.fieldLink RX12 20 "PalmCensusModel" "clause" "[I") (by decide +kernel)
  have L17 := hts (.fieldLink RX12 17 "PalmCensusModel" "length" "[I") (by decide +kernel)
  have K217 := hts (.constantLong RX12 217 26982) (by decide +kernel)
  have hon : hp_on (fun q => q = ap0 ∨ q = A 1 ∨ q = A 2 ∨ q = A 3 ∨ q = A 4 ∨ q = A 6) s.heap s.heap := fun _ _ => rfl
  have km1 : ((-1) : Int32).toInt = (-1) := (by decide)
  have k0 : (0 : Int32).toInt = 0 := (by decide)
  have k1 : (1 : Int32).toInt = 1 := (by decide)
  have k2 : (2 : Int32).toInt = 2 := (by decide)
  have k3 : (3 : Int32).toInt = 3 := (by decide)
  have k4 : (4 : Int32).toInt = 4 := (by decide)
  have k48 : (48 : Int32).toInt = 48 := (by decide)
  have obp100 := iv_o bp100
  have obp101 := iv_o bp101
  have obp102 := iv_o bp102
  obtain ⟨S0, K0, C0, L0, m0, hcS, hcK, hcC, hcL, hcm, bm, q7, q8, q9, q10, q11, q12⟩ := hB.2.2.2
  have hkm : hp_km D [(12, 8), (12, 9), (12, 10), (12, 12), (12, 13), (12, 16)] s.heap s.heap := fun _ _ _ _ h _ => h
  have hl := lv_entry ([.ref ap0]) (n := 2) (Nat.le_of_ble_eq_true rfl)
  rw [lg_entry_eq]
  generalize (lg_sl ([.ref ap0]) ++ List.replicate (2 - (lg_sl ([.ref ap0])).length) Slot.unset).toArray = ls at hl ⊢
  have hl : lv_has ls 2 [(0, .ref ap0)] := hl
  show WX12_isShakeHere p l e s m below meth c D T ap0 xp100 xp101 xp102 A Tp gl s.heap [] (F0 m 0 ls [])
  have obp100 := iv_o bp100
  have obp101 := iv_o bp101
  have obp102 := iv_o bp102
  have obm := iv_o bm
  refine lv_aload_n hx hb dX12_isShakeHere_0 rfl (lv_at hl 0 rfl) ?_
  refine hp_callev (va_runV (As := []) (rest := []) ⟨hx, hb, hml, hown, hts⟩ (sX12_passWord l D T ap0 xp100 xp101 A Gm Tp ip0 bp100 bp101) (cwV 0 hts gX12_isShakeHere_X12_passWord rfl rfl rfl (by decide +kernel) ⟨Nat.le_of_ble_eq_true rfl, Nat.le_of_ble_eq_true rfl⟩) (hp_preV hG hw hp0 rfl ⟨hB.1, hB.2.1⟩) rfl rfl hl.1 rfl (lv_room (Nat.le_of_ble_eq_true rfl)) dX12_isShakeHere_1 ⟨Nat.zero_le _, Nat.zero_le _⟩) hw (fun st1 t1 H1 locs1 eh1 eg1 bx1 hw => ?_)
  obtain ⟨x1p0, g1, on1, fx1p0, bx1p0, R1_0, R1_1⟩ := bx1
  rw [eh1, eg1] at g1 on1
  have hcS := hp_c.kept hcS (on1 _ (fun h9 => hp_ne_ao hp0sign hp0 h9))
  have hcK := hp_c.kept hcK (on1 _ (fun h9 => hp_ne_ao hp0clause hp0 h9))
  have hcC := hp_c.kept hcC (on1 _ (fun h9 => hp_ne_ao hp0clauses hp0 h9))
  have E1_p0len_0 := hp_et.kept hcL (on1 _ (fun h9 => hp_ne_ao hp0len hp0 h9))
  rw [eg1] at fx1p0
  have hkm := hkm.call g1 (by decide)
  have hon := hon.trans (hp_on.mono on1 (fun q h9 => by rcases h9 with rfl; exact Or.inl rfl))
  have f_p0_1 := g1 _ _ _ _ hB.2.1 (by decide)
  have f_p0_11 := g1 _ _ _ _ hB.2.2.1 (by decide)
  have f_p0_12 := g1 _ _ _ _ hcm (by decide)
  have obx1p0 := iv_o bx1p0
  refine lv_bipush (v := 48) hx hb dX12_isShakeHere_4 (by decide) ?_
  refine lv_aload_n hx hb dX12_isShakeHere_6 rfl (lv_at hl 0 rfl) ?_
  refine hp_getf hx hb hts IX12 hown hK f_p0_11 rfl (by decide) L153 dX12_isShakeHere_7 ?_
  refine lv_imul hx hb dX12_isShakeHere_10 ?_
  refine lv_topi (fun x10 ex10 => ?_)
  have bx10 : iv x10 0 240 := iv_mul (show iv 48 48 48 from ⟨by decide, by decide⟩) bp102 ex10 (by decide)
  have obx10 := iv_o bx10
  refine lv_iconst (v := 4) hx hb dX12_isShakeHere_11 (by decide) ?_
  refine lv_aload_n hx hb dX12_isShakeHere_12 rfl (lv_at hl 0 rfl) ?_
  refine hp_getr hx hb hts IX12 hown hK hw.1 hp0 rfl 6 (by decide) L23 rfl dX12_isShakeHere_13 ?_
  refine lv_aload_n hx hb dX12_isShakeHere_16 rfl (lv_at hl 0 rfl) ?_
  refine hp_getf hx hb hts IX12 hown hK f_p0_11 rfl (by decide) L153 dX12_isShakeHere_17 ?_
  refine hp_ialdE hx hb hK hw.1 hp0clauses (vp_iv bp102 (by decide)) dX12_isShakeHere_20 (fun v20 h20 E20 => ?_)
  obtain ⟨x20, rfl, bx20⟩ := h20
  have obx20 := iv_o bx20
  have ux20 : x20 = C0 xp102.toInt.toNat := hp_et.int E20 (hp_c.et hcC (iv_ltn bp102 (by decide)))
  have wx20 : iv x20 0 11 := ⟨bx20.1, by rw [ux20]; omega⟩
  have owx20 := iv_o wx20
  refine lv_imul hx hb dX12_isShakeHere_21 ?_
  refine lv_topi (fun x21 ex21 => ?_)
  have bx21 : iv x21 0 44 := iv_mul (show iv 4 4 4 from ⟨by decide, by decide⟩) wx20 ex21 (by decide)
  have obx21 := iv_o bx21
  refine lv_iadd hx hb dX12_isShakeHere_22 ?_
  refine lv_topi (fun x22 ex22 => ?_)
  have bx22 : iv x22 0 284 := iv_add bx10 bx21 ex22 (by decide)
  have obx22 := iv_o bx22
  have qx22 := iv_add_eq bx10 bx21 ex22 (by decide)
  refine lv_istore_n (lv' := [(1, .int x22), (0, .ref ap0)]) hx hb dX12_isShakeHere_23 rfl hl (by decide) rfl (fun ls hl => ?_)
  have h48 := iv_at48 ex10 ex21 ex22 bp102 wx20
  have hC9 : (C0 xp102.toInt.toNat).toInt = x20.toInt := by rw [ux20]
  refine lv_aload_n hx hb dX12_isShakeHere_24 rfl (lv_at hl 1 rfl) ?_
  refine hp_getr hx hb hts IX12 hown hK hw.1 hp0 rfl 5 (by decide) L20 rfl dX12_isShakeHere_25 ?_
  refine lv_iload_n hx hb dX12_isShakeHere_28 rfl (lv_at hl 0 rfl) ?_
  refine lv_aload_n hx hb dX12_isShakeHere_29 rfl (lv_at hl 1 rfl) ?_
  refine hp_getr hx hb hts IX12 hown hK hw.1 hp0 rfl 4 (by decide) L17 rfl dX12_isShakeHere_30 ?_
  refine lv_aload_n hx hb dX12_isShakeHere_33 rfl (lv_at hl 1 rfl) ?_
  refine hp_getf hx hb hts IX12 hown hK f_p0_11 rfl (by decide) L153 dX12_isShakeHere_34 ?_
  refine hp_ialdE hx hb hK hw.1 hp0len (vp_iv bp102 (by decide)) dX12_isShakeHere_37 (fun v37 h37 E37 => ?_)
  obtain ⟨x37, rfl, bx37⟩ := h37
  have obx37 := iv_o bx37
  have ux37 : x37 = L0 := hp_et.int E37 E1_p0len_0
  refine hp_iastC hx hb hK hw hp0clause (vp_iv bx22 (by decide)) ⟨_, rfl⟩ hcK dX12_isShakeHere_38 (fun H38 locs38 hw g38 o38 hcK => ?_)
  have hon := hon.trans (hp_on.mono (show hp_on (fun q => q = A 3) _ _ from o38) (fun q h9 => by subst h9; exact Or.inr (Or.inr (Or.inr (Or.inl rfl)))))
  have hcS := hp_c.kept hcS (o38 _ (hp_ne_len hp0sign hp0clause (by decide)))
  have hcC := hp_c.kept hcC (o38 _ (hp_ne_len hp0clauses hp0clause (by decide)))
  have hcL := hp_et.kept E1_p0len_0 (o38 _ (hp_ne_len hp0len hp0clause (by decide)))
  have n38 : x22.toNatClampNeg = 48 * xp102.toInt.toNat + 4 * (C0 xp102.toInt.toNat).toInt.toNat := by show x22.toInt.toNat = _; omega
  obtain ⟨K38, hcK, eK38⟩ : ∃ K9 : Nat → Int32, hp_c D H38 (A 3) 288 K9 ∧ ∀ j, K9 j = if j = 48 * xp102.toInt.toNat + 4 * (C0 xp102.toInt.toNat).toInt.toNat then x37 else K0 j := ⟨_, hcK, fun j => by rw [n38]⟩
  have hk38 := kof_st (K0 := K0) (C := C0) (tx := xp102.toInt.toNat) kof_rf eK38 (by omega)
  have hkm := hkm.ar g38
  have f_p0_1 := g38 _ _ _ _ f_p0_1
  have f_p0_11 := g38 _ _ _ _ f_p0_11
  have f_p0_12 := g38 _ _ _ _ f_p0_12
  have f_p0_8 := g38 _ _ _ _ fx1p0
  have hcs : cs D H38 ap0 A xp102 S0 L0.toInt 0 0 (x1p0.toInt) := cs_start hcS hcL f_p0_12 bm (by omega) (by omega) (by omega)
  refine lv_aload_n hx hb dX12_isShakeHere_39 rfl (lv_at hl 1 rfl) ?_
  refine hp_callei (va_runV (As := []) (rest := []) ⟨hx, hb, hml, hown, hts⟩ (sX12_summed l D T ap0 x1p0 xp101 xp102 A Gm Tp ip0 S0 L0.toInt (0) (x1p0.toInt) (by omega) bx1p0 bp101 bp102) (cwV 0 hts gX12_isShakeHere_X12_summed rfl rfl rfl (by decide +kernel) ⟨Nat.le_of_ble_eq_true rfl, Nat.le_of_ble_eq_true rfl⟩) (hp_preV hG hw hp0 rfl ⟨f_p0_8, f_p0_1, f_p0_11, hcs⟩) rfl rfl hl.1 rfl (lv_room (Nat.le_of_ble_eq_true rfl)) dX12_isShakeHere_40 ⟨Nat.zero_le _, Nat.zero_le _⟩) hw (fun x40 st40 t40 H40 locs40 eh40 eg40 bx40 hw => ?_)
  obtain ⟨x40p0, g40, on40, fx40p0, cx40, bx40p0, R40_0, R40_1, R40_2, R40_3⟩ := bx40
  rw [eh40, eg40] at g40 on40
  have hcK := hp_c.kept hcK (on40 _ (fun h9 => by rcases h9 with h9 | h9 | h9; (exact hp_ne_ao hp0clause hp0 h9); (exact hp_ne_len hp0clause hp0sign (by decide) h9); (exact hp_ne_len hp0clause hp0len (by decide) h9)))
  have hcC := hp_c.kept hcC (on40 _ (fun h9 => by rcases h9 with h9 | h9 | h9; (exact hp_ne_ao hp0clauses hp0 h9); (exact hp_ne_len hp0clauses hp0sign (by decide) h9); (exact hp_ne_len hp0clauses hp0len (by decide) h9)))
  rw [eg40] at fx40p0
  have hkm := hkm.call g40 (by decide)
  have hon := hon.trans (hp_on.mono on40 (fun q h9 => by rcases h9 with rfl | rfl | rfl; (exact Or.inl rfl); (exact Or.inr (Or.inl rfl)); (exact Or.inr (Or.inr (Or.inl rfl)))))
  have f_p0_1 := g40 _ _ _ _ f_p0_1 (by decide)
  have f_p0_11 := g40 _ _ _ _ f_p0_11 (by decide)
  have obx40p0 := iv_o bx40p0
  have ocx40 := iv_o cx40
  refine lv_if_ne (tgt := 48) hx hb dX12_isShakeHere_43 (by decide) (fun c43 => ?_) (fun c43 => ?_)
  · have oc43 := iv_neq c43
    have r43tp : iv x40 1 1 := (iv_ne_lo c43 cx40 rfl).mono (by decide) (by decide)
    have or43tp := iv_o r43tp
    have hcs := R40_2 (by omega)
    rw [eg40] at hcs
    obtain ⟨S1, L1, m1, hcS, hcL, hcm1, p14, p15, p16, p17, p18, p19, p110, p111⟩ := hcs
    have bm1 : iv m1 0 60 := ⟨by omega, p19⟩
    have obm1 := iv_o bm1
    refine lv_aload_n hx hb dX12_isShakeHere_48 rfl (lv_at hl 1 rfl) ?_
    refine hp_getr hx hb hts IX12 hown hK hw.1 hp0 rfl 5 (by decide) L20 rfl dX12_isShakeHere_49 ?_
    refine lv_iload_n hx hb dX12_isShakeHere_52 rfl (lv_at hl 0 rfl) ?_
    refine lv_iconst (v := 1) hx hb dX12_isShakeHere_53 (by decide) ?_
    refine lv_iadd hx hb dX12_isShakeHere_54 ?_
    refine lv_topi (fun x54 ex54 => ?_)
    have bx54 : iv x54 1 285 := iv_add bx22 (show iv 1 1 1 from ⟨by decide, by decide⟩) ex54 (by decide)
    have obx54 := iv_o bx54
    have qx54 := iv_add_eq bx22 (show iv 1 1 1 from ⟨by decide, by decide⟩) ex54 (by decide)
    refine lv_aload_n hx hb dX12_isShakeHere_55 rfl (lv_at hl 1 rfl) ?_
    refine hp_getr hx hb hts IX12 hown hK hw.1 hp0 rfl 4 (by decide) L17 rfl dX12_isShakeHere_56 ?_
    refine lv_aload_n hx hb dX12_isShakeHere_59 rfl (lv_at hl 1 rfl) ?_
    refine hp_getf hx hb hts IX12 hown hK f_p0_11 rfl (by decide) L153 dX12_isShakeHere_60 ?_
    refine hp_ialdE hx hb hK hw.1 hp0len (vp_iv bp102 (by decide)) dX12_isShakeHere_63 (fun v63 h63 E63 => ?_)
    obtain ⟨x63, rfl, bx63⟩ := h63
    have obx63 := iv_o bx63
    have ux63 : x63 = L1 := hp_et.int E63 hcL
    refine hp_iastC hx hb hK hw hp0clause (vp_iv bx54 (by decide)) ⟨_, rfl⟩ hcK dX12_isShakeHere_64 (fun H64 locs64 hw g64 o64 hcK => ?_)
    have hon := hon.trans (hp_on.mono (show hp_on (fun q => q = A 3) _ _ from o64) (fun q h9 => by subst h9; exact Or.inr (Or.inr (Or.inr (Or.inl rfl)))))
    have hcS := hp_c.kept hcS (o64 _ (hp_ne_len hp0sign hp0clause (by decide)))
    have hcC := hp_c.kept hcC (o64 _ (hp_ne_len hp0clauses hp0clause (by decide)))
    have hcL := hp_et.kept hcL (o64 _ (hp_ne_len hp0len hp0clause (by decide)))
    have n64 : x54.toNatClampNeg = 48 * xp102.toInt.toNat + 4 * (C0 xp102.toInt.toNat).toInt.toNat + 1 := by show x54.toInt.toNat = _; omega
    obtain ⟨K64, hcK, eK64⟩ : ∃ K9 : Nat → Int32, hp_c D H64 (A 3) 288 K9 ∧ ∀ j, K9 j = if j = 48 * xp102.toInt.toNat + 4 * (C0 xp102.toInt.toNat).toInt.toNat + 1 then x63 else K38 j := ⟨_, hcK, fun j => by rw [n64]⟩
    have hk64 := kof_st (K0 := K0) (C := C0) (tx := xp102.toInt.toNat) hk38 eK64 (by omega)
    have hkm := hkm.ar g64
    have f_p0_1 := g64 _ _ _ _ f_p0_1
    have f_p0_11 := g64 _ _ _ _ f_p0_11
    have f_p0_8 := g64 _ _ _ _ fx40p0
    have f_p0_12 := g64 _ _ _ _ hcm1
    refine lv_aload_n hx hb dX12_isShakeHere_65 rfl (lv_at hl 1 rfl) ?_
    refine hp_getr hx hb hts IX12 hown hK hw.1 hp0 rfl 5 (by decide) L20 rfl dX12_isShakeHere_66 ?_
    refine lv_iload_n hx hb dX12_isShakeHere_69 rfl (lv_at hl 0 rfl) ?_
    refine lv_iconst (v := 2) hx hb dX12_isShakeHere_70 (by decide) ?_
    refine lv_iadd hx hb dX12_isShakeHere_71 ?_
    refine lv_topi (fun x71 ex71 => ?_)
    have bx71 : iv x71 2 286 := iv_add bx22 (show iv 2 2 2 from ⟨by decide, by decide⟩) ex71 (by decide)
    have obx71 := iv_o bx71
    have qx71 := iv_add_eq bx22 (show iv 2 2 2 from ⟨by decide, by decide⟩) ex71 (by decide)
    refine lv_iconst (v := (-1)) hx hb dX12_isShakeHere_72 (by decide) ?_
    refine hp_iastC hx hb hK hw hp0clause (vp_iv bx71 (by decide)) ⟨_, rfl⟩ hcK dX12_isShakeHere_73 (fun H73 locs73 hw g73 o73 hcK => ?_)
    have hon := hon.trans (hp_on.mono (show hp_on (fun q => q = A 3) _ _ from o73) (fun q h9 => by subst h9; exact Or.inr (Or.inr (Or.inr (Or.inl rfl)))))
    have hcS := hp_c.kept hcS (o73 _ (hp_ne_len hp0sign hp0clause (by decide)))
    have hcC := hp_c.kept hcC (o73 _ (hp_ne_len hp0clauses hp0clause (by decide)))
    have hcL := hp_et.kept hcL (o73 _ (hp_ne_len hp0len hp0clause (by decide)))
    have n73 : x71.toNatClampNeg = 48 * xp102.toInt.toNat + 4 * (C0 xp102.toInt.toNat).toInt.toNat + 2 := by show x71.toInt.toNat = _; omega
    obtain ⟨K73, hcK, eK73⟩ : ∃ K9 : Nat → Int32, hp_c D H73 (A 3) 288 K9 ∧ ∀ j, K9 j = if j = 48 * xp102.toInt.toNat + 4 * (C0 xp102.toInt.toNat).toInt.toNat + 2 then ((-1) : Int32) else K64 j := ⟨_, hcK, fun j => by rw [n73]⟩
    have hk73 := kof_st (K0 := K0) (C := C0) (tx := xp102.toInt.toNat) hk64 eK73 (by omega)
    have hkm := hkm.ar g73
    have f_p0_1 := g73 _ _ _ _ f_p0_1
    have f_p0_11 := g73 _ _ _ _ f_p0_11
    have f_p0_8 := g73 _ _ _ _ f_p0_8
    have f_p0_12 := g73 _ _ _ _ f_p0_12
    refine lv_aload_n hx hb dX12_isShakeHere_74 rfl (lv_at hl 1 rfl) ?_
    refine lv_ldc2 (v := 26982) hx hb hown K217 dX12_isShakeHere_75 ?_
    refine hp_callei (va_runV (As := [.long 26982]) (rest := []) ⟨hx, hb, hml, hown, hts⟩ (sX12_takesWord l D T ap0 26982 x40p0 xp101 A Gm Tp ip0 bx40p0 bp101) (cwV 1 hts gX12_isShakeHere_X12_takesWord rfl rfl rfl (by decide +kernel) ⟨Nat.le_of_ble_eq_true rfl, Nat.le_of_ble_eq_true rfl⟩) (hp_preV hG hw hp0 rfl ⟨f_p0_8, f_p0_1⟩) rfl rfl hl.1 rfl (lv_room (Nat.le_of_ble_eq_true rfl)) dX12_isShakeHere_78 ⟨Nat.zero_le _, Nat.zero_le _⟩) hw (fun x78 st78 t78 H78 locs78 eh78 eg78 bx78 hw => ?_)
    obtain ⟨x78p0, g78, on78, fx78p0, cx78, bx78p0, R78_0⟩ := bx78
    rw [eh78, eg78] at g78 on78
    have hcS := hp_c.kept hcS (on78 _ (fun h9 => hp_ne_ao hp0sign hp0 h9))
    have hcK := hp_c.kept hcK (on78 _ (fun h9 => hp_ne_ao hp0clause hp0 h9))
    have hcC := hp_c.kept hcC (on78 _ (fun h9 => hp_ne_ao hp0clauses hp0 h9))
    have E78_p0len_0 := hp_et.kept hcL (on78 _ (fun h9 => hp_ne_ao hp0len hp0 h9))
    rw [eg78] at fx78p0
    have hkm := hkm.call g78 (by decide)
    have hon := hon.trans (hp_on.mono on78 (fun q h9 => by rcases h9 with rfl; exact Or.inl rfl))
    have f_p0_1 := g78 _ _ _ _ f_p0_1 (by decide)
    have f_p0_11 := g78 _ _ _ _ f_p0_11 (by decide)
    have f_p0_12 := g78 _ _ _ _ f_p0_12 (by decide)
    have obx78p0 := iv_o bx78p0
    have ocx78 := iv_o cx78
    refine lv_if_eq (tgt := 110) hx hb dX12_isShakeHere_81 (by decide) (fun c81 => ?_) (fun c81 => ?_)
    · have oc81 := congrArg Int32.toInt c81
      have r81tp : iv x78 0 0 := (iv_both cx78 (iv_eq (show iv 0 0 0 from ⟨by decide, by decide⟩) c81)).mono (by decide) (by decide)
      have or81tp := iv_o r81tp
      refine lv_aload_n hx hb dX12_isShakeHere_110 rfl (lv_at hl 1 rfl) ?_
      refine hp_getr hx hb hts IX12 hown hK hw.1 hp0 rfl 5 (by decide) L20 rfl dX12_isShakeHere_111 ?_
      refine lv_iload_n hx hb dX12_isShakeHere_114 rfl (lv_at hl 0 rfl) ?_
      refine lv_iconst (v := 3) hx hb dX12_isShakeHere_115 (by decide) ?_
      refine lv_iadd hx hb dX12_isShakeHere_116 ?_
      refine lv_topi (fun x116 ex116 => ?_)
      have bx116 : iv x116 3 287 := iv_add bx22 (show iv 3 3 3 from ⟨by decide, by decide⟩) ex116 (by decide)
      have obx116 := iv_o bx116
      have qx116 := iv_add_eq bx22 (show iv 3 3 3 from ⟨by decide, by decide⟩) ex116 (by decide)
      refine lv_aload_n hx hb dX12_isShakeHere_117 rfl (lv_at hl 1 rfl) ?_
      refine hp_getr hx hb hts IX12 hown hK hw.1 hp0 rfl 4 (by decide) L17 rfl dX12_isShakeHere_118 ?_
      refine lv_aload_n hx hb dX12_isShakeHere_121 rfl (lv_at hl 1 rfl) ?_
      refine hp_getf hx hb hts IX12 hown hK f_p0_11 rfl (by decide) L153 dX12_isShakeHere_122 ?_
      refine hp_ialdE hx hb hK hw.1 hp0len (vp_iv bp102 (by decide)) dX12_isShakeHere_125 (fun v125 h125 E125 => ?_)
      obtain ⟨x125, rfl, bx125⟩ := h125
      have obx125 := iv_o bx125
      have ux125 : x125 = L1 := hp_et.int E125 E78_p0len_0
      refine hp_iastC hx hb hK hw hp0clause (vp_iv bx116 (by decide)) ⟨_, rfl⟩ hcK dX12_isShakeHere_126 (fun H126 locs126 hw g126 o126 hcK => ?_)
      have hon := hon.trans (hp_on.mono (show hp_on (fun q => q = A 3) _ _ from o126) (fun q h9 => by subst h9; exact Or.inr (Or.inr (Or.inr (Or.inl rfl)))))
      have hcS := hp_c.kept hcS (o126 _ (hp_ne_len hp0sign hp0clause (by decide)))
      have hcC := hp_c.kept hcC (o126 _ (hp_ne_len hp0clauses hp0clause (by decide)))
      have hcL := hp_et.kept E78_p0len_0 (o126 _ (hp_ne_len hp0len hp0clause (by decide)))
      have n126 : x116.toNatClampNeg = 48 * xp102.toInt.toNat + 4 * (C0 xp102.toInt.toNat).toInt.toNat + 3 := by show x116.toInt.toNat = _; omega
      obtain ⟨K126, hcK, eK126⟩ : ∃ K9 : Nat → Int32, hp_c D H126 (A 3) 288 K9 ∧ ∀ j, K9 j = if j = 48 * xp102.toInt.toNat + 4 * (C0 xp102.toInt.toNat).toInt.toNat + 3 then x125 else K73 j := ⟨_, hcK, fun j => by rw [n126]⟩
      have hk126 := kof_st (K0 := K0) (C := C0) (tx := xp102.toInt.toNat) hk73 eK126 (by omega)
      have hkm := hkm.ar g126
      have f_p0_1 := g126 _ _ _ _ f_p0_1
      have f_p0_11 := g126 _ _ _ _ f_p0_11
      have f_p0_12 := g126 _ _ _ _ f_p0_12
      have f_p0_8 := g126 _ _ _ _ fx78p0
      refine lv_aload_n hx hb dX12_isShakeHere_127 rfl (lv_at hl 1 rfl) ?_
      refine hp_getr hx hb hts IX12 hown hK hw.1 hp0 rfl 6 (by decide) L23 rfl dX12_isShakeHere_128 ?_
      refine lv_aload_n hx hb dX12_isShakeHere_131 rfl (lv_at hl 1 rfl) ?_
      refine hp_getf hx hb hts IX12 hown hK f_p0_11 rfl (by decide) L153 dX12_isShakeHere_132 ?_
      refine lv_dup2_11 hx hb dX12_isShakeHere_135 rfl rfl ?_
      refine hp_ialdE hx hb hK hw.1 hp0clauses (vp_iv bp102 (by decide)) dX12_isShakeHere_136 (fun v136 h136 E136 => ?_)
      obtain ⟨x136, rfl, bx136⟩ := h136
      have obx136 := iv_o bx136
      have ux136 : x136 = C0 xp102.toInt.toNat := hp_et.int E136 (hp_c.et hcC (iv_ltn bp102 (by decide)))
      have wx136 : iv x136 0 11 := ⟨bx136.1, by rw [ux136]; omega⟩
      have owx136 := iv_o wx136
      refine lv_iconst (v := 1) hx hb dX12_isShakeHere_137 (by decide) ?_
      refine lv_iadd hx hb dX12_isShakeHere_138 ?_
      refine lv_topi (fun x138 ex138 => ?_)
      have bx138 : iv x138 1 12 := iv_add wx136 (show iv 1 1 1 from ⟨by decide, by decide⟩) ex138 (by decide)
      have obx138 := iv_o bx138
      have qx138 := iv_add_eq wx136 (show iv 1 1 1 from ⟨by decide, by decide⟩) ex138 (by decide)
      refine hp_iastC hx hb hK hw hp0clauses (vp_iv bp102 (by decide)) ⟨_, rfl, (bx138.mono (by decide) (by decide))⟩ hcC dX12_isShakeHere_139 (fun H139 locs139 hw g139 o139 hcC => ?_)
      have hon := hon.trans (hp_on.mono (show hp_on (fun q => q = A 4) _ _ from o139) (fun q h9 => by subst h9; exact Or.inr (Or.inr (Or.inr (Or.inr (Or.inl rfl))))))
      have hcS := hp_c.kept hcS (o139 _ (hp_ne_len hp0sign hp0clauses (by decide)))
      have hcK := hp_c.kept hcK (o139 _ (hp_ne_len hp0clause hp0clauses (by decide)))
      have hcL := hp_et.kept hcL (o139 _ (hp_ne_len hp0len hp0clauses (by decide)))
      obtain ⟨C9, hcC, eC9⟩ : ∃ C9 : Nat → Int32, hp_c D H139 (A 4) 6 C9 ∧ ∀ j, C9 j = if j = xp102.toInt.toNat then x138 else C0 j := ⟨_, hcC, fun j => rfl⟩
      have hkm := hkm.ar g139
      have f_p0_1 := g139 _ _ _ _ f_p0_1
      have f_p0_11 := g139 _ _ _ _ f_p0_11
      have f_p0_12 := g139 _ _ _ _ f_p0_12
      have f_p0_8 := g139 _ _ _ _ f_p0_8
      have hC1 : (C9 xp102.toInt.toNat).toInt = (C0 xp102.toInt.toNat).toInt + 1 := by rw [eC9, if_pos rfl, ← ux136]; omega
      have mo9 : moGood S1 K126 C9 ∧ clB K126 C9 xp102.toInt.toNat L1.toInt := mo_next (S := S0) (S1 := S1) (K := K0) (C := C0) (L0 := L0) (L1 := L1) q11 q12 (by omega) (by omega) (by omega) p15 (Int.le_refl _) (by omega) p110 p111 (fun _ _ => rfl) hk126 (by rw [eK126, if_neg (by omega), eK73, if_neg (by omega), eK64, if_neg (by omega), eK38, if_pos rfl]; exact ux37) (by rw [eK126, if_neg (by omega), eK73, if_neg (by omega), eK64, if_pos rfl]; exact ux63) (Or.inl (by rw [eK126, if_neg (by omega), eK73, if_pos rfl]; decide)) (fun j h9 => by rw [eC9, if_neg h9]) hC1
      refine lv_iconst (v := 1) hx hb dX12_isShakeHere_140 (by decide) ?_
      exact W.zret (v := 1) hx hb hr (iv_nz (show iv 1 0 1 from ⟨by decide, by decide⟩)) (fun t ht hW => ⟨some (.int 1), rfl, ⟨(1 : Int32), rfl, ⟨x78p0, by rw [ht]; exact hkm, by rw [ht]; exact hon, by rw [ht]; exact f_p0_8, (show iv 1 0 1 from ⟨by decide, by decide⟩), bx78p0, (by intros; omega), (fun _ => by rw [ht]; exact ⟨S1, K126, C9, L1, m1, hcS, hcK, hcC, hcL, f_p0_12, bm1, by omega, by omega, by omega, by omega, mo9.1, mo9.2⟩), (fun h9 => absurd h9 (by omega))⟩⟩, by rw [ht]; exact hw.1, hw.2.F ht⟩) hw.2.2.2 dX12_isShakeHere_141
    · have oc81 := iv_neq c81
      have r81fp : iv x78 1 1 := (iv_ne_lo c81 cx78 rfl).mono (by decide) (by decide)
      have or81fp := iv_o r81fp
      refine lv_aload_n hx hb dX12_isShakeHere_84 rfl (lv_at hl 1 rfl) ?_
      refine hp_getr hx hb hts IX12 hown hK hw.1 hp0 rfl 5 (by decide) L20 rfl dX12_isShakeHere_85 ?_
      refine lv_iload_n hx hb dX12_isShakeHere_88 rfl (lv_at hl 0 rfl) ?_
      refine lv_iconst (v := 2) hx hb dX12_isShakeHere_89 (by decide) ?_
      refine lv_iadd hx hb dX12_isShakeHere_90 ?_
      refine lv_topi (fun x90 ex90 => ?_)
      have bx90 : iv x90 2 286 := iv_add bx22 (show iv 2 2 2 from ⟨by decide, by decide⟩) ex90 (by decide)
      have obx90 := iv_o bx90
      have qx90 := iv_add_eq bx22 (show iv 2 2 2 from ⟨by decide, by decide⟩) ex90 (by decide)
      refine lv_aload_n hx hb dX12_isShakeHere_91 rfl (lv_at hl 1 rfl) ?_
      refine hp_getr hx hb hts IX12 hown hK hw.1 hp0 rfl 4 (by decide) L17 rfl dX12_isShakeHere_92 ?_
      refine lv_aload_n hx hb dX12_isShakeHere_95 rfl (lv_at hl 1 rfl) ?_
      refine hp_getf hx hb hts IX12 hown hK f_p0_11 rfl (by decide) L153 dX12_isShakeHere_96 ?_
      refine hp_ialdE hx hb hK hw.1 hp0len (vp_iv bp102 (by decide)) dX12_isShakeHere_99 (fun v99 h99 E99 => ?_)
      obtain ⟨x99, rfl, bx99⟩ := h99
      have obx99 := iv_o bx99
      have ux99 : x99 = L1 := hp_et.int E99 E78_p0len_0
      refine hp_iastC hx hb hK hw hp0clause (vp_iv bx90 (by decide)) ⟨_, rfl⟩ hcK dX12_isShakeHere_100 (fun H100 locs100 hw g100 o100 hcK => ?_)
      have hon := hon.trans (hp_on.mono (show hp_on (fun q => q = A 3) _ _ from o100) (fun q h9 => by subst h9; exact Or.inr (Or.inr (Or.inr (Or.inl rfl)))))
      have hcS := hp_c.kept hcS (o100 _ (hp_ne_len hp0sign hp0clause (by decide)))
      have hcC := hp_c.kept hcC (o100 _ (hp_ne_len hp0clauses hp0clause (by decide)))
      have hcL := hp_et.kept E78_p0len_0 (o100 _ (hp_ne_len hp0len hp0clause (by decide)))
      have n100 : x90.toNatClampNeg = 48 * xp102.toInt.toNat + 4 * (C0 xp102.toInt.toNat).toInt.toNat + 2 := by show x90.toInt.toNat = _; omega
      obtain ⟨K100, hcK, eK100⟩ : ∃ K9 : Nat → Int32, hp_c D H100 (A 3) 288 K9 ∧ ∀ j, K9 j = if j = 48 * xp102.toInt.toNat + 4 * (C0 xp102.toInt.toNat).toInt.toNat + 2 then x99 else K73 j := ⟨_, hcK, fun j => by rw [n100]⟩
      have hk100 := kof_st (K0 := K0) (C := C0) (tx := xp102.toInt.toNat) hk73 eK100 (by omega)
      have hkm := hkm.ar g100
      have f_p0_1 := g100 _ _ _ _ f_p0_1
      have f_p0_11 := g100 _ _ _ _ f_p0_11
      have f_p0_12 := g100 _ _ _ _ f_p0_12
      have f_p0_8 := g100 _ _ _ _ fx78p0
      have hcs : cs D H100 ap0 A xp102 S1 L1.toInt 0 0 (x78p0.toInt) := cs_start hcS hcL f_p0_12 bm1 (by omega) (by omega) (by omega)
      refine lv_aload_n hx hb dX12_isShakeHere_101 rfl (lv_at hl 1 rfl) ?_
      refine hp_callei (va_runV (As := []) (rest := []) ⟨hx, hb, hml, hown, hts⟩ (sX12_tested l D T ap0 x78p0 xp101 xp102 A Gm Tp ip0 S1 L1.toInt (x78p0.toInt) (by omega) bx78p0 bp101 bp102) (cwV 0 hts gX12_isShakeHere_X12_tested rfl rfl rfl (by decide +kernel) ⟨Nat.le_of_ble_eq_true rfl, Nat.le_of_ble_eq_true rfl⟩) (hp_preV hG hw hp0 rfl ⟨f_p0_8, f_p0_1, f_p0_11, hcs⟩) rfl rfl hl.1 rfl (lv_room (Nat.le_of_ble_eq_true rfl)) dX12_isShakeHere_102 ⟨Nat.zero_le _, Nat.zero_le _⟩) hw (fun x102 st102 t102 H102 locs102 eh102 eg102 bx102 hw => ?_)
      obtain ⟨x102p0, g102, on102, fx102p0, cx102, bx102p0, R102_0, R102_1, R102_2⟩ := bx102
      rw [eh102, eg102] at g102 on102
      have hcK := hp_c.kept hcK (on102 _ (fun h9 => by rcases h9 with h9 | h9 | h9 | h9; (exact hp_ne_ao hp0clause hp0 h9); (exact hp_ne_len hp0clause hp0sign (by decide) h9); (exact hp_ne_len hp0clause hp0len (by decide) h9); (exact hp_ne_len hp0clause hp0opn (by decide) h9)))
      have hcC := hp_c.kept hcC (on102 _ (fun h9 => by rcases h9 with h9 | h9 | h9 | h9; (exact hp_ne_ao hp0clauses hp0 h9); (exact hp_ne_len hp0clauses hp0sign (by decide) h9); (exact hp_ne_len hp0clauses hp0len (by decide) h9); (exact hp_ne_len hp0clauses hp0opn (by decide) h9)))
      rw [eg102] at fx102p0
      have hkm := hkm.call g102 (by decide)
      have hon := hon.trans (hp_on.mono on102 (fun q h9 => by rcases h9 with rfl | rfl | rfl | rfl; (exact Or.inl rfl); (exact Or.inr (Or.inl rfl)); (exact Or.inr (Or.inr (Or.inl rfl))); (exact Or.inr (Or.inr (Or.inr (Or.inr (Or.inr (rfl))))))))
      have f_p0_1 := g102 _ _ _ _ f_p0_1 (by decide)
      have f_p0_11 := g102 _ _ _ _ f_p0_11 (by decide)
      have obx102p0 := iv_o bx102p0
      have ocx102 := iv_o cx102
      refine lv_if_ne (tgt := 110) hx hb dX12_isShakeHere_105 (by decide) (fun c105 => ?_) (fun c105 => ?_)
      · have oc105 := iv_neq c105
        have r105tp : iv x102 1 1 := (iv_ne_lo c105 cx102 rfl).mono (by decide) (by decide)
        have or105tp := iv_o r105tp
        have hcs := R102_1 (by omega)
        rw [eg102] at hcs
        obtain ⟨S2, L2, m2, hcS, hcL, hcm2, p24, p25, p26, p27, p28, p29, p210, p211⟩ := hcs
        have bm2 : iv m2 0 60 := ⟨by omega, p29⟩
        have obm2 := iv_o bm2
        refine lv_aload_n hx hb dX12_isShakeHere_110 rfl (lv_at hl 1 rfl) ?_
        refine hp_getr hx hb hts IX12 hown hK hw.1 hp0 rfl 5 (by decide) L20 rfl dX12_isShakeHere_111 ?_
        refine lv_iload_n hx hb dX12_isShakeHere_114 rfl (lv_at hl 0 rfl) ?_
        refine lv_iconst (v := 3) hx hb dX12_isShakeHere_115 (by decide) ?_
        refine lv_iadd hx hb dX12_isShakeHere_116 ?_
        refine lv_topi (fun x116 ex116 => ?_)
        have bx116 : iv x116 3 287 := iv_add bx22 (show iv 3 3 3 from ⟨by decide, by decide⟩) ex116 (by decide)
        have obx116 := iv_o bx116
        have qx116 := iv_add_eq bx22 (show iv 3 3 3 from ⟨by decide, by decide⟩) ex116 (by decide)
        refine lv_aload_n hx hb dX12_isShakeHere_117 rfl (lv_at hl 1 rfl) ?_
        refine hp_getr hx hb hts IX12 hown hK hw.1 hp0 rfl 4 (by decide) L17 rfl dX12_isShakeHere_118 ?_
        refine lv_aload_n hx hb dX12_isShakeHere_121 rfl (lv_at hl 1 rfl) ?_
        refine hp_getf hx hb hts IX12 hown hK f_p0_11 rfl (by decide) L153 dX12_isShakeHere_122 ?_
        refine hp_ialdE hx hb hK hw.1 hp0len (vp_iv bp102 (by decide)) dX12_isShakeHere_125 (fun v125 h125 E125 => ?_)
        obtain ⟨x125, rfl, bx125⟩ := h125
        have obx125 := iv_o bx125
        have ux125 : x125 = L2 := hp_et.int E125 hcL
        refine hp_iastC hx hb hK hw hp0clause (vp_iv bx116 (by decide)) ⟨_, rfl⟩ hcK dX12_isShakeHere_126 (fun H126 locs126 hw g126 o126 hcK => ?_)
        have hon := hon.trans (hp_on.mono (show hp_on (fun q => q = A 3) _ _ from o126) (fun q h9 => by subst h9; exact Or.inr (Or.inr (Or.inr (Or.inl rfl)))))
        have hcS := hp_c.kept hcS (o126 _ (hp_ne_len hp0sign hp0clause (by decide)))
        have hcC := hp_c.kept hcC (o126 _ (hp_ne_len hp0clauses hp0clause (by decide)))
        have hcL := hp_et.kept hcL (o126 _ (hp_ne_len hp0len hp0clause (by decide)))
        have n126 : x116.toNatClampNeg = 48 * xp102.toInt.toNat + 4 * (C0 xp102.toInt.toNat).toInt.toNat + 3 := by show x116.toInt.toNat = _; omega
        obtain ⟨K126, hcK, eK126⟩ : ∃ K9 : Nat → Int32, hp_c D H126 (A 3) 288 K9 ∧ ∀ j, K9 j = if j = 48 * xp102.toInt.toNat + 4 * (C0 xp102.toInt.toNat).toInt.toNat + 3 then x125 else K100 j := ⟨_, hcK, fun j => by rw [n126]⟩
        have hk126 := kof_st (K0 := K0) (C := C0) (tx := xp102.toInt.toNat) hk100 eK126 (by omega)
        have hkm := hkm.ar g126
        have f_p0_1 := g126 _ _ _ _ f_p0_1
        have f_p0_11 := g126 _ _ _ _ f_p0_11
        have f_p0_8 := g126 _ _ _ _ fx102p0
        have f_p0_12 := g126 _ _ _ _ hcm2
        refine lv_aload_n hx hb dX12_isShakeHere_127 rfl (lv_at hl 1 rfl) ?_
        refine hp_getr hx hb hts IX12 hown hK hw.1 hp0 rfl 6 (by decide) L23 rfl dX12_isShakeHere_128 ?_
        refine lv_aload_n hx hb dX12_isShakeHere_131 rfl (lv_at hl 1 rfl) ?_
        refine hp_getf hx hb hts IX12 hown hK f_p0_11 rfl (by decide) L153 dX12_isShakeHere_132 ?_
        refine lv_dup2_11 hx hb dX12_isShakeHere_135 rfl rfl ?_
        refine hp_ialdE hx hb hK hw.1 hp0clauses (vp_iv bp102 (by decide)) dX12_isShakeHere_136 (fun v136 h136 E136 => ?_)
        obtain ⟨x136, rfl, bx136⟩ := h136
        have obx136 := iv_o bx136
        have ux136 : x136 = C0 xp102.toInt.toNat := hp_et.int E136 (hp_c.et hcC (iv_ltn bp102 (by decide)))
        have wx136 : iv x136 0 11 := ⟨bx136.1, by rw [ux136]; omega⟩
        have owx136 := iv_o wx136
        refine lv_iconst (v := 1) hx hb dX12_isShakeHere_137 (by decide) ?_
        refine lv_iadd hx hb dX12_isShakeHere_138 ?_
        refine lv_topi (fun x138 ex138 => ?_)
        have bx138 : iv x138 1 12 := iv_add wx136 (show iv 1 1 1 from ⟨by decide, by decide⟩) ex138 (by decide)
        have obx138 := iv_o bx138
        have qx138 := iv_add_eq wx136 (show iv 1 1 1 from ⟨by decide, by decide⟩) ex138 (by decide)
        refine hp_iastC hx hb hK hw hp0clauses (vp_iv bp102 (by decide)) ⟨_, rfl, (bx138.mono (by decide) (by decide))⟩ hcC dX12_isShakeHere_139 (fun H139 locs139 hw g139 o139 hcC => ?_)
        have hon := hon.trans (hp_on.mono (show hp_on (fun q => q = A 4) _ _ from o139) (fun q h9 => by subst h9; exact Or.inr (Or.inr (Or.inr (Or.inr (Or.inl rfl))))))
        have hcS := hp_c.kept hcS (o139 _ (hp_ne_len hp0sign hp0clauses (by decide)))
        have hcK := hp_c.kept hcK (o139 _ (hp_ne_len hp0clause hp0clauses (by decide)))
        have hcL := hp_et.kept hcL (o139 _ (hp_ne_len hp0len hp0clauses (by decide)))
        obtain ⟨C9, hcC, eC9⟩ : ∃ C9 : Nat → Int32, hp_c D H139 (A 4) 6 C9 ∧ ∀ j, C9 j = if j = xp102.toInt.toNat then x138 else C0 j := ⟨_, hcC, fun j => rfl⟩
        have hkm := hkm.ar g139
        have f_p0_1 := g139 _ _ _ _ f_p0_1
        have f_p0_11 := g139 _ _ _ _ f_p0_11
        have f_p0_8 := g139 _ _ _ _ f_p0_8
        have f_p0_12 := g139 _ _ _ _ f_p0_12
        have hC1 : (C9 xp102.toInt.toNat).toInt = (C0 xp102.toInt.toNat).toInt + 1 := by rw [eC9, if_pos rfl, ← ux136]; omega
        have mo9 : moGood S2 K126 C9 ∧ clB K126 C9 xp102.toInt.toNat L2.toInt := mo_next (S := S0) (S1 := S1) (K := K0) (C := C0) (L0 := L0) (L1 := L1) q11 q12 (by omega) (by omega) (by omega) p15 p25 (by omega) p110 p111 p211 hk126 (by rw [eK126, if_neg (by omega), eK100, if_neg (by omega), eK73, if_neg (by omega), eK64, if_neg (by omega), eK38, if_pos rfl]; exact ux37) (by rw [eK126, if_neg (by omega), eK100, if_neg (by omega), eK73, if_neg (by omega), eK64, if_pos rfl]; exact ux63) (Or.inr ⟨by rw [eK126, if_neg (by omega), eK100, if_pos rfl]; exact ux99, by rw [eK126, if_pos rfl]; exact ux125, p210⟩) (fun j h9 => by rw [eC9, if_neg h9]) hC1
        refine lv_iconst (v := 1) hx hb dX12_isShakeHere_140 (by decide) ?_
        exact W.zret (v := 1) hx hb hr (iv_nz (show iv 1 0 1 from ⟨by decide, by decide⟩)) (fun t ht hW => ⟨some (.int 1), rfl, ⟨(1 : Int32), rfl, ⟨x102p0, by rw [ht]; exact hkm, by rw [ht]; exact hon, by rw [ht]; exact f_p0_8, (show iv 1 0 1 from ⟨by decide, by decide⟩), bx102p0, (by intros; omega), (fun _ => by rw [ht]; exact ⟨S2, K126, C9, L2, m2, hcS, hcK, hcC, hcL, f_p0_12, bm2, by omega, by omega, by omega, by omega, mo9.1, mo9.2⟩), (fun h9 => absurd h9 (by omega))⟩⟩, by rw [ht]; exact hw.1, hw.2.F ht⟩) hw.2.2.2 dX12_isShakeHere_141
      · have oc105 := congrArg Int32.toInt c105
        have r105fp : iv x102 0 0 := (iv_both cx102 (iv_eq (show iv 0 0 0 from ⟨by decide, by decide⟩) c105)).mono (by decide) (by decide)
        have or105fp := iv_o r105fp
        have hcw := R102_2 (by omega)
        rw [eg102] at hcw
        refine lv_iconst (v := 0) hx hb dX12_isShakeHere_108 (by decide) ?_
        exact W.zret (v := 0) hx hb hr (iv_nz (show iv 0 0 1 from ⟨by decide, by decide⟩)) (fun t ht hW => ⟨some (.int 0), rfl, ⟨(0 : Int32), rfl, ⟨x102p0, by rw [ht]; exact hkm, by rw [ht]; exact hon, by rw [ht]; exact fx102p0, (show iv 0 0 1 from ⟨by decide, by decide⟩), bx102p0, (by intros; omega), (fun h9 => absurd k0 h9), (fun _ => by obtain ⟨S9, c9, a9⟩ := hcw; rw [ht]; exact ⟨S9, K100, C0, c9, hcK, hcC, mo_keepI q11 (by omega) q12 (by omega) (agr_trans p111 a9 (by omega)) hk100⟩)⟩⟩, by rw [ht]; exact hw.1, hw.2.F ht⟩) hw.2.2.2 dX12_isShakeHere_109
  · have oc43 := congrArg Int32.toInt c43
    have r43fp : iv x40 0 0 := (iv_both cx40 (iv_eq (show iv 0 0 0 from ⟨by decide, by decide⟩) c43)).mono (by decide) (by decide)
    have or43fp := iv_o r43fp
    have hcw := R40_3 (by omega)
    rw [eg40] at hcw
    refine lv_iconst (v := 0) hx hb dX12_isShakeHere_46 (by decide) ?_
    exact W.zret (v := 0) hx hb hr (iv_nz (show iv 0 0 1 from ⟨by decide, by decide⟩)) (fun t ht hW => ⟨some (.int 0), rfl, ⟨(0 : Int32), rfl, ⟨x40p0, by rw [ht]; exact hkm, by rw [ht]; exact hon, by rw [ht]; exact fx40p0, (show iv 0 0 1 from ⟨by decide, by decide⟩), bx40p0, (by intros; omega), (fun h9 => absurd k0 h9), (fun _ => by obtain ⟨S9, c9, a9⟩ := hcw; rw [ht]; exact ⟨S9, K38, C0, c9, hcK, hcC, mo_keepI q11 (by omega) q12 (by omega) a9 hk38⟩)⟩⟩, by rw [ht]; exact hw.1, hw.2.F ht⟩) hw.2.2.2 dX12_isShakeHere_47
