/-! GATES, SEED, IMAGE, BACK of the reference: its typing changed at one cell -/
abbrev WX12_gates_9b (p : Program) (l : Launch) (e : Env) (s : State) (m : MethodId) (below : List Frame) (meth : Method) (c : Code) (D : hp_D) (T : hp_T) (ap0 : Nat) (xp1 : Int32) (H : Heap) (locs : List Loc) (g : JFrame) : Prop := W p l e (headSpec wsX12_gates ({ frames := 6, cells := 0, slots := 0, locals := 152 })).room s m ([.ref ap0, .int xp1] : List Value).toArray below meth c H locs 0 0 (MQ below (hq_p (fun v => ∃ r : Int32, v = some (.int r) ∧ True)) ([.ref ap0, .int xp1] : List Value).toArray s 0 0 (fun _ => False)) g
set_option maxHeartbeats 4000000 in
set_option maxRecDepth 100000 in
theorem sX12_gates_9b (l : Launch) (D : hp_D) (T : hp_T) (ap0 : Nat) (xp1 : Int32) (Gm : moG) (ip0 : isMo T ap0 Gm) (h9 : ∀ v, gs Gm 2 v → rI 9 10 v) : Met l yX12_gates wsX12_gates ({ frames := 6, cells := 0, slots := 0, locals := 152 }) (hp_Pc D T [.ref ap0, .int xp1] (fun _ => True)) (hq_p (fun v => ∃ r : Int32, v = some (.int r) ∧ True)) 0 0 (fun _ => False) := by
  obtain ⟨ap0tape, ap0sign, ap0len, ap0clause, ap0clauses, ap0read, ap0opn, ap0stack, ap0word, ap0said, ap0was, ap0fitting, ap0sums, ap0sort, ap0sumsBy, ap0oneOf, ap0otherOf, ap0kept, ap0images, ap0acts, ap0iUnd, ap0iFor, ap0iX, ap0made, gok, hp0, hp0tape, hp0sign, hp0len, hp0clause, hp0clauses, hp0read, hp0opn, hp0stack, hp0word, hp0said, hp0was, hp0fitting, hp0sums, hp0sort, hp0sumsBy, hp0oneOf, hp0otherOf, hp0kept, hp0images, hp0acts, hp0iUnd, hp0iFor, hp0iX, hp0made⟩ := id ip0
  have hpx := gok.1
  have gsok := gok.2.2.2.2
  have ggd := gok.2.2.2.1
  refine Met.ofW (cc := cX12_gates) (maxL := 4) (ret := (some .int)) (by decide) rfl ?_
  intro p e s m args below meth c s₁ B hml hv
  obtain ⟨rfl, hok, hG, hB⟩ := hv
  have hx := B.exec
  have hb := B.bytes
  have hr := B.returns
  have hts := atoms_spec (ws := wsX12_gates) B.pre
  have hown : s.vm.findClass RX12 = some m.cls := findClass_of_methodNamed B.named
  have hlocks := B.notSynchronized
  have hK := hG.1
  have hw : hp_w D T s s.heap [] := hp_w.rf hok
  have IX12 : ∀ w ∈ wsX120, w ∈ wsX12_gates := by decide +kernel
  have L39 := hts (.fieldLink RX12 39 "PalmCensusModel" "said" "[I") (by decide +kernel)
  have hl := lv_entry ([.ref ap0, .int xp1]) (n := 4) (Nat.le_of_ble_eq_true rfl)
  rw [lg_entry_eq]
  generalize (lg_sl ([.ref ap0, .int xp1]) ++ List.replicate (4 - (lg_sl ([.ref ap0, .int xp1])).length) Slot.unset).toArray = ls at hl ⊢
  have hl : lv_has ls 4 [(0, .ref ap0), (1, .int xp1)] := hl
  show WX12_gates_9b p l e s m below meth c D T ap0 xp1 s.heap [] (F0 m 0 ls [])
  refine lv_aload_n hx hb dX12_gates_0 rfl (lv_at hl 0 rfl) ?_
  refine hp_callpi (va_runV (As := []) (rest := []) ⟨hx, hb, hml, hown, hts⟩ (sX12_isTown l D T ap0 Gm ip0) (cwV 0 hts gX12_gates_X12_isTown rfl rfl rfl (by decide +kernel) ⟨Nat.le_of_ble_eq_true rfl, Nat.le_of_ble_eq_true rfl⟩) (hp_preV hG hw hp0 rfl trivial) rfl rfl hl.1 rfl (lv_room (Nat.le_of_ble_eq_true rfl)) dX12_gates_1 ⟨Nat.zero_le _, Nat.zero_le _⟩) (fun x1 bx1 => ?_)
  have J17 : ∀ (ls : Array Slot), lv_has ls 4 [] → WX12_gates_9b p l e s m below meth c D T ap0 xp1 s.heap [] (F0 m 17 ls []) := by
    intro ls hl
    refine lv_iconst (v := (-1)) hx hb dX12_gates_17 (by decide) ?_
    exact W.iret (v := (-1)) hx hb hr (fun t ht hW => ⟨some (.int (-1)), rfl, ⟨((-1) : Int32), rfl, trivial⟩, ht⟩) (fun q h => by cases h) dX12_gates_18
  refine lv_if_eq (tgt := 17) hx hb dX12_gates_4 (by decide) (fun c4 => ?_) (fun c4 => ?_)
  · have r4tp : iv x1 0 0 := (iv_both bx1 (iv_eq (show iv 0 0 0 from ⟨by decide, by decide⟩) c4)).mono (by decide) (by decide)
    exact J17 _ (lv_sub hl [] rfl)
  · have r4fp : iv x1 1 1 := (iv_ne_lo c4 bx1 rfl).mono (by decide) (by decide)
    refine lv_iload_n hx hb dX12_gates_7 rfl (lv_at hl 1 rfl) ?_
    obtain ⟨x8, ex8⟩ : ∃ y : Int64, xp1.toInt64 = y := ⟨_, rfl⟩
    refine lv_i2l (v := x8) hx hb dX12_gates_8 ex8 ?_
    refine lv_lconst (v := 0) hx hb dX12_gates_9 (by decide) ?_
    refine lv_lconst (v := 1) hx hb dX12_gates_10 (by decide) ?_
    refine hp_callpi (va_runS (As := [.long x8, .long 0, .long 1]) (rest := []) ⟨hx, hb, hml, hown, hts⟩ (sX12_in l D T x8 0 1) (va_cwS 3 hts gX12_gates_X12_in rfl rfl rfl (by decide +kernel) ⟨Nat.le_of_ble_eq_true rfl, Nat.le_of_ble_eq_true rfl⟩) (hp_preS hG hw trivial) rfl rfl hl.1 rfl (lv_room (Nat.le_of_ble_eq_true rfl)) dX12_gates_11 ⟨Nat.zero_le _, Nat.zero_le _⟩) (fun x11 bx11 => ?_)
    obtain ⟨bx11, ox11, nx11⟩ := bx11
    have ox11a_ : x11 = 0 ∨ iv xp1 0 1 := ox11.imp id (fun h => iv_in64 ex8 h.1 h.2 (by decide) (by decide))
    have ox11a : x11 = 0 ∨ iv xp1 0 1 := ox11.imp id (fun h => iv_in64 ex8 h.1 h.2 (by decide) (by decide))
    refine lv_if_ne (tgt := 19) hx hb dX12_gates_14 (by decide) (fun c14 => ?_) (fun c14 => ?_)
    · have r14tp : iv x11 1 1 := (iv_ne_lo c14 bx11 rfl).mono (by decide) (by decide)
      have r14tpz : iv xp1 0 1 := (iv_both (iv_any xp1) ((fun h9 => ox11a.resolve_left h9) (iv_ne0 r14tp (by decide)))).mono (by decide) (by decide)
      refine lv_aload_n hx hb dX12_gates_19 rfl (lv_at hl 0 rfl) ?_
      refine hp_getr hx hb hts IX12 hown hK hw.1 hp0 rfl 20 (by decide) L39 rfl dX12_gates_20 ?_
      refine lv_iconst (v := 2) hx hb dX12_gates_23 (by decide) ?_
      refine hp_iald hx hb hK hw.1 hp0said (vp_iv (show iv 2 2 2 from ⟨by decide, by decide⟩) (by decide)) dX12_gates_24 (fun v24 hr24 => ?_)
      have h24 := gsok _ _ hr24
      obtain ⟨x24, rfl, bx24⟩ := sP_rd2 h24 (show iv 2 2 2 from ⟨by decide, by decide⟩)
      have bx24e : iv x24 9 10 := rI_iv (h9 _ hr24)
      refine lv_bipush (v := 8) hx hb dX12_gates_25 (by decide) ?_
      refine lv_icmp_le (tgt := 33) hx hb dX12_gates_27 (by decide) (fun c27 => ?_) (fun c27 => ?_)
      · exact iv_abs (iv_le_l c27 bx24e (show iv 8 8 8 from ⟨by decide, by decide⟩)) (by decide)
      · refine lv_bipush (v := (-3)) hx hb dX12_gates_30 (by decide) ?_
        exact W.iret (v := (-3)) hx hb hr (fun t ht hW => ⟨some (.int (-3)), rfl, ⟨((-3) : Int32), rfl, trivial⟩, ht⟩) (fun q h => by cases h) dX12_gates_32
    · have r14fp : iv x11 0 0 := (iv_both bx11 (iv_eq (show iv 0 0 0 from ⟨by decide, by decide⟩) c14)).mono (by decide) (by decide)
      exact J17 _ (lv_sub hl [] rfl)
theorem isMA.said {T : hp_T} {a : Nat} {A : Nat → Nat} {Gm : moG} (i : isMA T a A Gm) (P : Nat → Value → Prop) (hP : ∀ j v, P j v → sP j v) : isMA (hp_up T (A 9) (.inl (0, 211, P))) a A (gx Gm, P, gX Gm, gM Gm, gS Gm, gK Gm, gC Gm) := by
  obtain ⟨gok, h0a, h0, h1, h2, h3, h4, h5, h6, h7, h8, h9, h10, h11, h12, h13, h14, h15, h16, h17, h18, h19, h20, h21, h22, h23⟩ := id i
  have n0 : A 0 ≠ A 9 := hp_ne_len h0 h9 (by decide)
  have n1 : A 1 ≠ A 9 := hp_ne_len h1 h9 (by decide)
  have n2 : A 2 ≠ A 9 := hp_ne_len h2 h9 (by decide)
  have n3 : A 3 ≠ A 9 := hp_ne_len h3 h9 (by decide)
  have n4 : A 4 ≠ A 9 := hp_ne_len h4 h9 (by decide)
  have n5 : A 5 ≠ A 9 := hp_ne_len h5 h9 (by decide)
  have n6 : A 6 ≠ A 9 := hp_ne_len h6 h9 (by decide)
  have n7 : A 7 ≠ A 9 := hp_ne_len h7 h9 (by decide)
  have n8 : A 8 ≠ A 9 := hp_ne_len h8 h9 (by decide)
  have n10 : A 10 ≠ A 9 := hp_ne_len h10 h9 (by decide)
  have n11 : A 11 ≠ A 9 := hp_ne_len h11 h9 (by decide)
  have n12 : A 12 ≠ A 9 := hp_ne_len h12 h9 (by decide)
  have n13 : A 13 ≠ A 9 := hp_ne_len h13 h9 (by decide)
  have n14 : A 14 ≠ A 9 := hp_ne_len h14 h9 (by decide)
  have n15 : A 15 ≠ A 9 := hp_ne_len h15 h9 (by decide)
  have n16 : A 16 ≠ A 9 := hp_ne_len h16 h9 (by decide)
  have n17 : A 17 ≠ A 9 := hp_ne_len h17 h9 (by decide)
  have n18 : A 18 ≠ A 9 := hp_ne_len h18 h9 (by decide)
  have n19 : A 19 ≠ A 9 := hp_ne_len h19 h9 (by decide)
  have n20 : A 20 ≠ A 9 := hp_ne_len h20 h9 (by decide)
  have n21 : A 21 ≠ A 9 := hp_ne_len h21 h9 (by decide)
  have n22 : A 22 ≠ A 9 := hp_ne_len h22 h9 (by decide)
  have n23 : A 23 ≠ A 9 := hp_ne_len h23 h9 (by decide)
  have na : a ≠ A 9 := fun z => hp_ne_ao h9 h0a z.symm
  exact ⟨⟨gok.1, gok.2.1, gok.2.2.1, gok.2.2.2.1, hP⟩, (hp_up_n na).trans h0a, (hp_up_n n0).trans h0, (hp_up_n n1).trans h1, (hp_up_n n2).trans h2, (hp_up_n n3).trans h3, (hp_up_n n4).trans h4, (hp_up_n n5).trans h5, (hp_up_n n6).trans h6, (hp_up_n n7).trans h7, (hp_up_n n8).trans h8, hp_up_s _ _ _, (hp_up_n n10).trans h10, (hp_up_n n11).trans h11, (hp_up_n n12).trans h12, (hp_up_n n13).trans h13, (hp_up_n n14).trans h14, (hp_up_n n15).trans h15, (hp_up_n n16).trans h16, (hp_up_n n17).trans h17, (hp_up_n n18).trans h18, (hp_up_n n19).trans h19, (hp_up_n n20).trans h20, (hp_up_n n21).trans h21, (hp_up_n n22).trans h22, (hp_up_n n23).trans h23⟩
theorem isMA.iX {T : hp_T} {a : Nat} {A : Nat → Nat} {Gm : moG} (i : isMA T a A Gm) (P : Nat → Value → Prop) (hP : ∀ j v, P j v → ∃ x : Int32, v = .int x) (hq : A 20 ≠ A 22 ∧ A 21 ≠ A 22) : isMA (hp_up T (A 22) (.inl (0, 4, P))) a A (gx Gm, gs Gm, P, gM Gm, gS Gm, gK Gm, gC Gm) := by
  obtain ⟨gok, h0a, h0, h1, h2, h3, h4, h5, h6, h7, h8, h9, h10, h11, h12, h13, h14, h15, h16, h17, h18, h19, h20, h21, h22, h23⟩ := id i
  have n0 : A 0 ≠ A 22 := hp_ne_len h0 h22 (by decide)
  have n1 : A 1 ≠ A 22 := hp_ne_len h1 h22 (by decide)
  have n2 : A 2 ≠ A 22 := hp_ne_len h2 h22 (by decide)
  have n3 : A 3 ≠ A 22 := hp_ne_len h3 h22 (by decide)
  have n4 : A 4 ≠ A 22 := hp_ne_len h4 h22 (by decide)
  have n5 : A 5 ≠ A 22 := hp_ne_len h5 h22 (by decide)
  have n6 : A 6 ≠ A 22 := hp_ne_len h6 h22 (by decide)
  have n7 : A 7 ≠ A 22 := hp_ne_len h7 h22 (by decide)
  have n8 : A 8 ≠ A 22 := hp_ne_len h8 h22 (by decide)
  have n9 : A 9 ≠ A 22 := hp_ne_len h9 h22 (by decide)
  have n10 : A 10 ≠ A 22 := hp_ne_len h10 h22 (by decide)
  have n11 : A 11 ≠ A 22 := hp_ne_len h11 h22 (by decide)
  have n12 : A 12 ≠ A 22 := hp_ne_len h12 h22 (by decide)
  have n13 : A 13 ≠ A 22 := hp_ne_len h13 h22 (by decide)
  have n14 : A 14 ≠ A 22 := hp_ne_len h14 h22 (by decide)
  have n15 : A 15 ≠ A 22 := hp_ne_len h15 h22 (by decide)
  have n16 : A 16 ≠ A 22 := hp_ne_len h16 h22 (by decide)
  have n17 : A 17 ≠ A 22 := hp_ne_len h17 h22 (by decide)
  have n18 : A 18 ≠ A 22 := hp_ne_len h18 h22 (by decide)
  have n19 : A 19 ≠ A 22 := hp_ne_len h19 h22 (by decide)
  have n23 : A 23 ≠ A 22 := hp_ne_len h23 h22 (by decide)
  have n20 : A 20 ≠ A 22 := hq.1
  have n21 : A 21 ≠ A 22 := hq.2
  have na : a ≠ A 22 := fun z => hp_ne_ao h22 h0a z.symm
  exact ⟨⟨gok.1, hP, gok.2.2.1, gok.2.2.2.1, gok.2.2.2.2⟩, (hp_up_n na).trans h0a, (hp_up_n n0).trans h0, (hp_up_n n1).trans h1, (hp_up_n n2).trans h2, (hp_up_n n3).trans h3, (hp_up_n n4).trans h4, (hp_up_n n5).trans h5, (hp_up_n n6).trans h6, (hp_up_n n7).trans h7, (hp_up_n n8).trans h8, (hp_up_n n9).trans h9, (hp_up_n n10).trans h10, (hp_up_n n11).trans h11, (hp_up_n n12).trans h12, (hp_up_n n13).trans h13, (hp_up_n n14).trans h14, (hp_up_n n15).trans h15, (hp_up_n n16).trans h16, (hp_up_n n17).trans h17, (hp_up_n n18).trans h18, (hp_up_n n19).trans h19, (hp_up_n n20).trans h20, (hp_up_n n21).trans h21, hp_up_s _ _ _, (hp_up_n n23).trans h23⟩
theorem isMA.made {T : hp_T} {a : Nat} {A : Nat → Nat} {Gm : moG} (i : isMA T a A Gm) (P : Nat → Value → Prop) (hP : ∀ j v, P j v → ∃ x : Int32, v = .int x) : isMA (hp_up T (A 23) (.inl (2, 4, P))) a A (gx Gm, gs Gm, gX Gm, P, gS Gm, gK Gm, gC Gm) := by
  obtain ⟨gok, h0a, h0, h1, h2, h3, h4, h5, h6, h7, h8, h9, h10, h11, h12, h13, h14, h15, h16, h17, h18, h19, h20, h21, h22, h23⟩ := id i
  have n0 : A 0 ≠ A 23 := hp_ne_len h0 h23 (by decide)
  have n1 : A 1 ≠ A 23 := hp_ne_len h1 h23 (by decide)
  have n2 : A 2 ≠ A 23 := hp_ne_len h2 h23 (by decide)
  have n3 : A 3 ≠ A 23 := hp_ne_len h3 h23 (by decide)
  have n4 : A 4 ≠ A 23 := hp_ne_len h4 h23 (by decide)
  have n5 : A 5 ≠ A 23 := hp_ne_len h5 h23 (by decide)
  have n6 : A 6 ≠ A 23 := hp_ne_len h6 h23 (by decide)
  have n7 : A 7 ≠ A 23 := hp_ne_len h7 h23 (by decide)
  have n8 : A 8 ≠ A 23 := hp_ne_len h8 h23 (by decide)
  have n9 : A 9 ≠ A 23 := hp_ne_len h9 h23 (by decide)
  have n10 : A 10 ≠ A 23 := hp_ne_len h10 h23 (by decide)
  have n11 : A 11 ≠ A 23 := hp_ne_len h11 h23 (by decide)
  have n12 : A 12 ≠ A 23 := hp_ne_len h12 h23 (by decide)
  have n13 : A 13 ≠ A 23 := hp_ne_len h13 h23 (by decide)
  have n14 : A 14 ≠ A 23 := hp_ne_len h14 h23 (by decide)
  have n15 : A 15 ≠ A 23 := hp_ne_len h15 h23 (by decide)
  have n16 : A 16 ≠ A 23 := hp_ne_len h16 h23 (by decide)
  have n17 : A 17 ≠ A 23 := hp_ne_len h17 h23 (by decide)
  have n18 : A 18 ≠ A 23 := hp_ne_len h18 h23 (by decide)
  have n19 : A 19 ≠ A 23 := hp_ne_len h19 h23 (by decide)
  have n20 : A 20 ≠ A 23 := hp_ne_len h20 h23 (by decide)
  have n21 : A 21 ≠ A 23 := hp_ne_len h21 h23 (by decide)
  have n22 : A 22 ≠ A 23 := hp_ne_len h22 h23 (by decide)
  have na : a ≠ A 23 := fun z => hp_ne_ao h23 h0a z.symm
  exact ⟨⟨gok.1, gok.2.1, hP, gok.2.2.2.1, gok.2.2.2.2⟩, (hp_up_n na).trans h0a, (hp_up_n n0).trans h0, (hp_up_n n1).trans h1, (hp_up_n n2).trans h2, (hp_up_n n3).trans h3, (hp_up_n n4).trans h4, (hp_up_n n5).trans h5, (hp_up_n n6).trans h6, (hp_up_n n7).trans h7, (hp_up_n n8).trans h8, (hp_up_n n9).trans h9, (hp_up_n n10).trans h10, (hp_up_n n11).trans h11, (hp_up_n n12).trans h12, (hp_up_n n13).trans h13, (hp_up_n n14).trans h14, (hp_up_n n15).trans h15, (hp_up_n n16).trans h16, (hp_up_n n17).trans h17, (hp_up_n n18).trans h18, (hp_up_n n19).trans h19, (hp_up_n n20).trans h20, (hp_up_n n21).trans h21, (hp_up_n n22).trans h22, hp_up_s _ _ _⟩
theorem isMA.xx {T : hp_T} {a : Nat} {A : Nat → Nat} {Gm : moG} (i : isMA T a A Gm) : ∃ Ps : List (Value → Prop), T a = some (.inr (12, Ps)) ∧ Ps[22]? = some (gx Gm) ∧ ∀ p : Value → Prop, (∀ v, p v → ∃ y : Int32, v = .int y) → isMA (hp_up T a (.inr (12, Ps.set 22 p))) a A (p, gs Gm, gX Gm, gM Gm, gS Gm, gK Gm, gC Gm) := by
  obtain ⟨gok, h0a, h0, h1, h2, h3, h4, h5, h6, h7, h8, h9, h10, h11, h12, h13, h14, h15, h16, h17, h18, h19, h20, h21, h22, h23⟩ := id i
  refine ⟨_, h0a, rfl, fun p hp => ?_⟩
  exact ⟨⟨hp, gok.2.1, gok.2.2.1, gok.2.2.2.1, gok.2.2.2.2⟩, hp_up_s _ _ _, (hp_up_n (hp_ne_ao h0 h0a)).trans h0, (hp_up_n (hp_ne_ao h1 h0a)).trans h1, (hp_up_n (hp_ne_ao h2 h0a)).trans h2, (hp_up_n (hp_ne_ao h3 h0a)).trans h3, (hp_up_n (hp_ne_ao h4 h0a)).trans h4, (hp_up_n (hp_ne_ao h5 h0a)).trans h5, (hp_up_n (hp_ne_ao h6 h0a)).trans h6, (hp_up_n (hp_ne_ao h7 h0a)).trans h7, (hp_up_n (hp_ne_ao h8 h0a)).trans h8, (hp_up_n (hp_ne_ao h9 h0a)).trans h9, (hp_up_n (hp_ne_ao h10 h0a)).trans h10, (hp_up_n (hp_ne_ao h11 h0a)).trans h11, (hp_up_n (hp_ne_ao h12 h0a)).trans h12, (hp_up_n (hp_ne_ao h13 h0a)).trans h13, (hp_up_n (hp_ne_ao h14 h0a)).trans h14, (hp_up_n (hp_ne_ao h15 h0a)).trans h15, (hp_up_n (hp_ne_ao h16 h0a)).trans h16, (hp_up_n (hp_ne_ao h17 h0a)).trans h17, (hp_up_n (hp_ne_ao h18 h0a)).trans h18, (hp_up_n (hp_ne_ao h19 h0a)).trans h19, (hp_up_n (hp_ne_ao h20 h0a)).trans h20, (hp_up_n (hp_ne_ao h21 h0a)).trans h21, (hp_up_n (hp_ne_ao h22 h0a)).trans h22, (hp_up_n (hp_ne_ao h23 h0a)).trans h23⟩
theorem lX12_gates (l : Launch) (D : hp_D) (T : hp_T) (a : Nat) (A : Nat → Nat) (x : Int32) (X M : Nat → Int32) (w : mW T a A x X M) (x1 : Int32) : Met l yX12_gates wsX12_gates ({ frames := 6, cells := 0, slots := 0, locals := 152 }) (hp_Pc D T [.ref a, .int x1] (fun _ => True)) (lm_q D T (lm_r a A x X M)) 0 0 (hp_F T) := by
  obtain ⟨Gm, i, e1, e2, e3, e4⟩ := id w
  have h9 : T (A 9) = some (.inl (0, 211, sP)) := by
    obtain ⟨gok, h0a, h0, h1, h2, h3, h4, h5, h6, h7, h8, h9, h10, h11, h12, h13, h14, h15, h16, h17, h18, h19, h20, h21, h22, h23⟩ := id i
    rw [← e2]
    exact h9
  have hF : ∀ (P : Nat → Value → Prop) (q : Nat), hp_F (hp_up T (A 9) (.inl (0, 211, P))) q → hp_F T q := fun P q hq => hp_F_upk h9 hq
  refine met_mono (met_ex (ι := {P : Nat → Value → Prop // (∀ j v, P j v → sP j v) ∧ ((∀ v, P 2 v → rI 0 8 v) ∨ ∀ v, P 2 v → rI 9 10 v)}) (Pc := fun z => hp_Pc D (hp_up T (A 9) (.inl (0, 211, z.1))) [.ref a, .int x1] (fun _ => True)) (Qc := fun z => fun _ st oc t => ∃ v : Option Value, oc = .returned v ∧ (∃ r : Int32, v = some (.int r)) ∧ hp_ok D (hp_up T (A 9) (.inl (0, 211, z.1))) t.heap ∧ va_F (hp_F T) st t) (Qd := lm_q D T (lm_r a A x X M)) (fun z => ?_) (fun z av U oc t hp hq => ?_)) (fun av U hp => ?_) (fun _ _ _ _ _ h => h) (fun _ h => h)
  · have i8 : isMA (hp_up T (A 9) (.inl (0, 211, z.1))) a A (gx Gm, z.1, gX Gm, gM Gm, gS Gm, gK Gm, gC Gm) := isMA.said i z.1 z.2.1
    rcases z.2.2 with h8 | h8
    · refine met_mono (sX12_gates_8 l D (hp_up T (A 9) (.inl (0, 211, z.1))) a x1 (gx Gm, z.1, gX Gm, gM Gm, gS Gm, gK Gm, gC Gm) i8.mo h8) (fun _ _ h => h) (fun av U oc t _ hq => ?_) (hF z.1)
      obtain ⟨v, ho, ⟨r, hr, -⟩, hok, hz, hk⟩ := hq
      exact ⟨v, ho, ⟨r, hr⟩, hok, hz, fun q h1 h3 => hk q h1 (fun y => h3 (hF _ q y))⟩
    · refine met_mono (sX12_gates_9b l D (hp_up T (A 9) (.inl (0, 211, z.1))) a x1 (gx Gm, z.1, gX Gm, gM Gm, gS Gm, gK Gm, gC Gm) i8.mo h8) (fun _ _ h => h) (fun av U oc t hp hq => ?_) (fun _ h => h.elim)
      obtain ⟨v, ho, ⟨r, hr, -⟩, hh⟩ := hq
      exact ⟨v, ho, ⟨r, hr⟩, by rw [hh]; exact hp.2.1, by rw [hh]; exact Nat.le_refl _, fun q _ _ => by rw [hh]⟩
  · obtain ⟨v, ho, hr, hok, hf⟩ := hq
    have i8 : isMA (hp_up T (A 9) (.inl (0, 211, z.1))) a A (gx Gm, z.1, gX Gm, gM Gm, gS Gm, gK Gm, gC Gm) := isMA.said i z.1 z.2.1
    have i9 := isMA.said i8 sP (fun j v h => h)
    exact ⟨v, _, ho, ⟨hr, _, i9, e1, rfl, e3, e4⟩, hp_weakA hok (hp_up_s _ _ _) z.2.1, fun q hq => hF _ q (hp_F_upk (hp_up_s _ _ _) hq), hf⟩
  · obtain ⟨h1, hok, hG, -⟩ := hp
    obtain ⟨f, f1, f2⟩ := hok _ _ h9
    obtain ⟨y, ey, qy1, qy2⟩ : rI 0 10 (f 2) := f2 2 (by decide)
    have key : ∀ lo hi : Int, iv y lo hi → hp_ok D (hp_up T (A 9) (.inl (0, 211, fun j v => sP j v ∧ (j = 2 → rI lo hi v)))) U.heap := fun lo hi hiv => hp_reA hok h9 (fun g g1 g2 j hj => ⟨g2 j hj, fun e => by
      subst e
      rw [← arrV_inj (Option.some.inj (f1.symm.trans g1)) 2 hj, ey]
      exact ⟨y, rfl, hiv⟩⟩)
    by_cases hy : y.toInt ≤ 8
    · exact ⟨⟨fun j v => sP j v ∧ (j = 2 → rI 0 8 v), fun j v h => h.1, Or.inl (fun v h => h.2 rfl)⟩, h1, key 0 8 ⟨qy1, hy⟩, hG.nar (hF _), trivial⟩
    · exact ⟨⟨fun j v => sP j v ∧ (j = 2 → rI 9 10 v), fun j v h => h.1, Or.inr (fun v h => h.2 rfl)⟩, h1, key 9 10 ⟨by omega, qy2⟩, hG.nar (hF _), trivial⟩
/-- seed: what it was, and what it is -/
theorem lX12_seed (l : Launch) (D : hp_D) (T : hp_T) (a : Nat) (A : Nat → Nat) (x : Int32) (X M : Nat → Int32) (w : mW T a A x X M) (x1 : Int32) : Met l yX12_seed wsX12_seed ({ frames := 0, cells := 0, slots := 0, locals := 0 }) (hp_Pc D T [.ref a, .int x1] (fun _ => True)) (lm_q D T (fun v T1 => (¬ 0 ≤ x1 ∧ v = some (.int (-1)) ∧ mW T1 a A x X M) ∨ (0 ≤ x1 ∧ v = some (.int x) ∧ mW T1 a A x1 X M))) 0 0 (hp_F T) := by
  obtain ⟨Gm, i, e1, e2, e3, e4⟩ := id w
  by_cases hx : 0 ≤ x1
  · obtain ⟨Ps, k1, k2, k3⟩ := i.xx
    have i8 := k3 rA (fun v h => h)
    have hF : ∀ (p : Value → Prop) (q : Nat), hp_F (hp_up T a (.inr (12, Ps.set 22 p))) q → hp_F T q := fun p q hq => hp_F_upk k1 hq
    refine met_mono (sX12_seed_p l D (hp_up T a (.inr (12, Ps.set 22 rA))) a x1 x _ i8.mo (fun y => ⟨y, rfl⟩) ((iv_le_r hx (show iv 0 0 0 from ⟨by decide, by decide⟩) (iv_any x1)).mono (by decide) (by decide)) (iv_any x)) (fun av U h => ?_) (fun av U oc t h hq => ?_) (hF rA)
    · obtain ⟨h1, hok, hG, -⟩ := h
      have hf := hp_getv hok k1 (v := .int x) (by rw [k2, e1])
      exact ⟨h1, hp_setP hok k1 hf ⟨x, rfl⟩, hG.nar (hF rA), hf⟩
    · obtain ⟨v, ho, ⟨r, hr, ⟨-, er⟩, hf⟩, hok, hz, hk⟩ := hq
      have h8 := hp_setP (P := rV (.int x1)) hok (hp_up_s _ _ _) hf rfl
      rw [hp_upup, List.set_set] at h8
      exact ⟨v, _, ho, Or.inr ⟨hx, by rw [hr, er], _, k3 (rV (.int x1)) (fun v h => ⟨x1, h⟩), rfl, e2, e3, e4⟩, h8, hF _, hz, fun q h1 h3 => hk q h1 (fun y => h3 (hF _ q y))⟩
  · refine met_mono (sX12_seed_n l D T a x1 Gm i.mo ((iv_lt_l (iv_nle hx) (iv_any x1) (show iv 0 0 0 from ⟨by decide, by decide⟩)).mono (by decide) (by decide))) (fun _ _ h => h) (fun av U oc t hp hq => ?_) (fun _ h => h.elim)
    obtain ⟨v, ho, ⟨r, hr, b1, b2⟩, hh⟩ := hq
    have er : r = -1 := Int32.toInt_inj.mp (by have z : (-1 : Int32).toInt = -1 := rfl; omega)
    exact ⟨v, T, ho, Or.inl ⟨hx, by rw [hr, er], w⟩, by rw [hh]; exact hp.2.1, fun _ h => h, by rw [hh]; exact Nat.le_refl _, fun q _ _ => by rw [hh]⟩
