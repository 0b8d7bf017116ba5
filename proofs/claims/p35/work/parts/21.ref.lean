abbrev WX12_in (p : Program) (l : Launch) (e : Env) (s : State) (m : MethodId) (below : List Frame) (meth : Method) (c : Code) (D : hp_D) (T : hp_T) (xp0 : Int64) (xp1 : Int64) (xp2 : Int64) (H : Heap) (locs : List Loc) (g : JFrame) : Prop := W p l e (headSpec wsX12_in ({ frames := 0, cells := 0, slots := 0, locals := 0 })).room s m ([.long xp0, .long xp1, .long xp2] : List Value).toArray below meth c H locs 0 0 (MQ below (hq_p (fun v => ∃ r : Int32, v = some (.int r) ∧ (iv r 0 1 ∧ (r = 0 ∨ (xp1 ≤ xp0 ∧ xp0 ≤ xp2)) ∧ (r = 1 ∨ (¬ (xp1 ≤ xp0 ∧ xp0 ≤ xp2)))))) ([.long xp0, .long xp1, .long xp2] : List Value).toArray s 0 0 (fun _ => False)) g
set_option maxHeartbeats 4000000 in
set_option maxRecDepth 100000 in
theorem sX12_in (l : Launch) (D : hp_D) (T : hp_T) (xp0 : Int64) (xp1 : Int64) (xp2 : Int64)  : Met l yX12_in wsX12_in ({ frames := 0, cells := 0, slots := 0, locals := 0 }) (hp_Pc D T [.long xp0, .long xp1, .long xp2] (fun _ => True)) (hq_p (fun v => ∃ r : Int32, v = some (.int r) ∧ (iv r 0 1 ∧ (r = 0 ∨ (xp1 ≤ xp0 ∧ xp0 ≤ xp2)) ∧ (r = 1 ∨ (¬ (xp1 ≤ xp0 ∧ xp0 ≤ xp2)))))) 0 0 (fun _ => False) := by
  refine Met.ofW (cc := cX12_in) (maxL := 6) (ret := (some .boolean)) (by decide) rfl ?_
  intro p e s m args below meth c s₁ B hml hv
  obtain ⟨rfl, hok, hG, hB⟩ := hv
  have hx := B.exec
  have hb := B.bytes
  have hr := B.returns
  have hts := atoms_spec (ws := wsX12_in) B.pre
  have hown : s.vm.findClass RX12 = some m.cls := findClass_of_methodNamed B.named
  have hlocks := B.notSynchronized
  have hK := hG.1
  have hw : hp_w D T s s.heap [] := hp_w.rf hok
  have hl := lv_entry ([.long xp0, .long xp1, .long xp2]) (n := 6) (Nat.le_of_ble_eq_true rfl)
  rw [lg_entry_eq]
  generalize (lg_sl ([.long xp0, .long xp1, .long xp2]) ++ List.replicate (6 - (lg_sl ([.long xp0, .long xp1, .long xp2])).length) Slot.unset).toArray = ls at hl ⊢
  have hl : lv_has ls 6 [(0, .long xp0), (2, .long xp1), (4, .long xp2)] := hl
  show WX12_in p l e s m below meth c D T xp0 xp1 xp2 s.heap [] (F0 m 0 ls [])
  refine lv_lload_n hx hb dX12_in_0 rfl (lv_at hl 0 rfl) ?_
  refine lv_lload_n hx hb dX12_in_1 rfl (lv_at hl 1 rfl) ?_
  refine W.lcmp hx hb dX12_in_2 ?_
  refine lv_topi (fun x2 ex2 => ?_)
  have bx2 : iv x2 (-1) 1 := iv_lcmp ex2
  refine lv_if_lt (tgt := 17) hx hb dX12_in_3 (by decide) (fun c3 => ?_) (fun c3 => ?_)
  · have r3tp : iv x2 (-1) (-1) := (iv_lt_l c3 bx2 (show iv 0 0 0 from ⟨by decide, by decide⟩)).mono (by decide) (by decide)
    refine lv_iconst (v := 0) hx hb dX12_in_17 (by decide) ?_
    exact W.zret (v := 0) hx hb hr (iv_nz (show iv 0 0 1 from ⟨by decide, by decide⟩)) (fun t ht hW => ⟨some (.int 0), rfl, ⟨(0 : Int32), rfl, ⟨(show iv 0 0 1 from ⟨by decide, by decide⟩), (Or.inl rfl), (Or.inr (fun h9 => lcmp_lt ex2 c3 h9.1))⟩⟩, ht⟩) (fun q h => by cases h) dX12_in_18
  · have r3fq : iv x2 0 1 := (iv_le_r (iv_nlt c3) (show iv 0 0 0 from ⟨by decide, by decide⟩) bx2).mono (by decide) (by decide)
    refine lv_lload_n hx hb dX12_in_6 rfl (lv_at hl 0 rfl) ?_
    refine lv_lload hx hb dX12_in_7 (lv_at hl 2 rfl) ?_
    refine W.lcmp hx hb dX12_in_9 ?_
    refine lv_topi (fun x9 ex9 => ?_)
    have bx9 : iv x9 (-1) 1 := iv_lcmp ex9
    refine lv_if_gt (tgt := 17) hx hb dX12_in_10 (by decide) (fun c10 => ?_) (fun c10 => ?_)
    · have r10tq : iv x9 1 1 := (iv_lt_r c10 (show iv 0 0 0 from ⟨by decide, by decide⟩) bx9).mono (by decide) (by decide)
      refine lv_iconst (v := 0) hx hb dX12_in_17 (by decide) ?_
      exact W.zret (v := 0) hx hb hr (iv_nz (show iv 0 0 1 from ⟨by decide, by decide⟩)) (fun t ht hW => ⟨some (.int 0), rfl, ⟨(0 : Int32), rfl, ⟨(show iv 0 0 1 from ⟨by decide, by decide⟩), (Or.inl rfl), (Or.inr (fun h9 => lcmp_gt ex9 c10 h9.2))⟩⟩, ht⟩) (fun q h => by cases h) dX12_in_18
    · have r10fp : iv x9 (-1) 0 := (iv_le_l (iv_nlt c10) bx9 (show iv 0 0 0 from ⟨by decide, by decide⟩)).mono (by decide) (by decide)
      refine lv_iconst (v := 1) hx hb dX12_in_13 (by decide) ?_
      refine lv_goto (tgt := 18) hx hb dX12_in_14 (by decide) ?_
      exact W.zret (v := 1) hx hb hr (iv_nz (show iv 1 0 1 from ⟨by decide, by decide⟩)) (fun t ht hW => ⟨some (.int 1), rfl, ⟨(1 : Int32), rfl, ⟨(show iv 1 0 1 from ⟨by decide, by decide⟩), (Or.inr ⟨lcmp_ge ex2 (iv_nlt c3), lcmp_le ex9 (iv_nlt c10)⟩), (Or.inl rfl)⟩⟩, ht⟩) (fun q h => by cases h) dX12_in_18
abbrev WX12_isOf (p : Program) (l : Launch) (e : Env) (s : State) (m : MethodId) (below : List Frame) (meth : Method) (c : Code) (D : hp_D) (T : hp_T) (xp0 : Int32) (xp1 : Int32) (H : Heap) (locs : List Loc) (g : JFrame) : Prop := W p l e (headSpec wsX12_isOf ({ frames := 0, cells := 0, slots := 0, locals := 0 })).room s m ([.int xp0, .int xp1] : List Value).toArray below meth c H locs 0 0 (MQ below (hq_p (fun v => ∃ r : Int32, v = some (.int r) ∧ iv r 0 1)) ([.int xp0, .int xp1] : List Value).toArray s 0 0 (fun _ => False)) g
set_option maxHeartbeats 4000000 in
set_option maxRecDepth 100000 in
theorem sX12_isOf (l : Launch) (D : hp_D) (T : hp_T) (xp0 : Int32) (xp1 : Int32)  : Met l yX12_isOf wsX12_isOf ({ frames := 0, cells := 0, slots := 0, locals := 0 }) (hp_Pc D T [.int xp0, .int xp1] (fun _ => True)) (hq_p (fun v => ∃ r : Int32, v = some (.int r) ∧ iv r 0 1)) 0 0 (fun _ => False) := by
  refine Met.ofW (cc := cX12_isOf) (maxL := 2) (ret := (some .boolean)) (by decide) rfl ?_
  intro p e s m args below meth c s₁ B hml hv
  obtain ⟨rfl, hok, hG, hB⟩ := hv
  have hx := B.exec
  have hb := B.bytes
  have hr := B.returns
  have hts := atoms_spec (ws := wsX12_isOf) B.pre
  have hown : s.vm.findClass RX12 = some m.cls := findClass_of_methodNamed B.named
  have hlocks := B.notSynchronized
  have hK := hG.1
  have hw : hp_w D T s s.heap [] := hp_w.rf hok
  have hl := lv_entry ([.int xp0, .int xp1]) (n := 2) (Nat.le_of_ble_eq_true rfl)
  rw [lg_entry_eq]
  generalize (lg_sl ([.int xp0, .int xp1]) ++ List.replicate (2 - (lg_sl ([.int xp0, .int xp1])).length) Slot.unset).toArray = ls at hl ⊢
  have hl : lv_has ls 2 [(0, .int xp0), (1, .int xp1)] := hl
  show WX12_isOf p l e s m below meth c D T xp0 xp1 s.heap [] (F0 m 0 ls [])
  refine lv_iload_n hx hb dX12_isOf_0 rfl (lv_at hl 0 rfl) ?_
  refine lv_iload_n hx hb dX12_isOf_1 rfl (lv_at hl 1 rfl) ?_
  refine lv_ishr hx hb dX12_isOf_2 ?_
  refine lv_topi (fun x2 ex2 => ?_)
  refine lv_iconst (v := 1) hx hb dX12_isOf_3 (by decide) ?_
  refine lv_iand hx hb dX12_isOf_4 ?_
  refine lv_topi (fun x4 ex4 => ?_)
  have bx4 : iv x4 0 1 := iv_and_r (show iv 1 0 1 from ⟨by decide, by decide⟩) ex4
  refine lv_iconst (v := 1) hx hb dX12_isOf_5 (by decide) ?_
  have J14 : ∀ (y14_s0 : Int32), iv y14_s0 0 1 → ∀ (ls : Array Slot), lv_has ls 2 [] → WX12_isOf p l e s m below meth c D T xp0 xp1 s.heap [] (F0 m 14 ls [.int y14_s0]) := by
    intro y14_s0 c14_y14_s0 ls hl
    exact W.zret (v := y14_s0) hx hb hr (iv_nz c14_y14_s0) (fun t ht hW => ⟨some (.int y14_s0), rfl, ⟨y14_s0, rfl, c14_y14_s0⟩, ht⟩) (fun q h => by cases h) dX12_isOf_14
  refine lv_icmp_ne (tgt := 13) hx hb dX12_isOf_6 (by decide) (fun c6 => ?_) (fun c6 => ?_)
  · have r6tp : iv x4 0 0 := (iv_ne_hi c6 bx4 rfl).mono (by decide) (by decide)
    refine lv_iconst (v := 0) hx hb dX12_isOf_13 (by decide) ?_
    exact J14 (0 : Int32) (show iv 0 0 1 from ⟨by decide, by decide⟩) _ (lv_sub hl [] rfl)
  · have r6fp : iv x4 1 1 := (iv_both bx4 (iv_eq (show iv 1 1 1 from ⟨by decide, by decide⟩) c6)).mono (by decide) (by decide)
    refine lv_iconst (v := 1) hx hb dX12_isOf_9 (by decide) ?_
    refine lv_goto (tgt := 14) hx hb dX12_isOf_10 (by decide) ?_
    exact J14 (1 : Int32) (show iv 1 0 1 from ⟨by decide, by decide⟩) _ (lv_sub hl [] rfl)
abbrev WX12_strength (p : Program) (l : Launch) (e : Env) (s : State) (m : MethodId) (below : List Frame) (meth : Method) (c : Code) (D : hp_D) (T : hp_T) (xp0 : Int32) (H : Heap) (locs : List Loc) (g : JFrame) : Prop := W p l e (headSpec wsX12_strength ({ frames := 0, cells := 0, slots := 0, locals := 0 })).room s m ([.int xp0] : List Value).toArray below meth c H locs 0 0 (MQ below (hq_p (fun v => ∃ r : Int32, v = some (.int r) ∧ iv r 0 3)) ([.int xp0] : List Value).toArray s 0 0 (fun _ => False)) g
set_option maxHeartbeats 4000000 in
set_option maxRecDepth 100000 in
theorem sX12_strength (l : Launch) (D : hp_D) (T : hp_T) (xp0 : Int32)  : Met l yX12_strength wsX12_strength ({ frames := 0, cells := 0, slots := 0, locals := 0 }) (hp_Pc D T [.int xp0] (fun _ => True)) (hq_p (fun v => ∃ r : Int32, v = some (.int r) ∧ iv r 0 3)) 0 0 (fun _ => False) := by
  refine Met.ofW (cc := cX12_strength) (maxL := 1) (ret := (some .int)) (by decide) rfl ?_
  intro p e s m args below meth c s₁ B hml hv
  obtain ⟨rfl, hok, hG, hB⟩ := hv
  have hx := B.exec
  have hb := B.bytes
  have hr := B.returns
  have hts := atoms_spec (ws := wsX12_strength) B.pre
  have hown : s.vm.findClass RX12 = some m.cls := findClass_of_methodNamed B.named
  have hlocks := B.notSynchronized
  have hK := hG.1
  have hw : hp_w D T s s.heap [] := hp_w.rf hok
  have hl := lv_entry ([.int xp0]) (n := 1) (Nat.le_of_ble_eq_true rfl)
  rw [lg_entry_eq]
  generalize (lg_sl ([.int xp0]) ++ List.replicate (1 - (lg_sl ([.int xp0])).length) Slot.unset).toArray = ls at hl ⊢
  have hl : lv_has ls 1 [(0, .int xp0)] := hl
  show WX12_strength p l e s m below meth c D T xp0 s.heap [] (F0 m 0 ls [])
  refine lv_iload_n hx hb dX12_strength_0 rfl (lv_at hl 0 rfl) ?_
  refine lv_bipush (v := 13) hx hb dX12_strength_1 (by decide) ?_
  have J31 : ∀ (y31_s0 : Int32), iv y31_s0 0 3 → ∀ (ls : Array Slot), lv_has ls 1 [] → WX12_strength p l e s m below meth c D T xp0 s.heap [] (F0 m 31 ls [.int y31_s0]) := by
    intro y31_s0 c31_y31_s0 ls hl
    exact W.iret (v := y31_s0) hx hb hr (fun t ht hW => ⟨some (.int y31_s0), rfl, ⟨y31_s0, rfl, c31_y31_s0⟩, ht⟩) (fun q h => by cases h) dX12_strength_31
  refine lv_icmp_ne (tgt := 10) hx hb dX12_strength_3 (by decide) (fun c3 => ?_) (fun c3 => ?_)
  · refine lv_iload_n hx hb dX12_strength_10 rfl (lv_at hl 0 rfl) ?_
    refine lv_bipush (v := 12) hx hb dX12_strength_11 (by decide) ?_
    refine lv_icmp_ne (tgt := 20) hx hb dX12_strength_13 (by decide) (fun c13 => ?_) (fun c13 => ?_)
    · refine lv_iload_n hx hb dX12_strength_20 rfl (lv_at hl 0 rfl) ?_
      refine lv_bipush (v := 11) hx hb dX12_strength_21 (by decide) ?_
      refine lv_icmp_ne (tgt := 30) hx hb dX12_strength_23 (by decide) (fun c23 => ?_) (fun c23 => ?_)
      · refine lv_iconst (v := 0) hx hb dX12_strength_30 (by decide) ?_
        exact J31 (0 : Int32) (show iv 0 0 3 from ⟨by decide, by decide⟩) _ (lv_sub hl [] rfl)
      · have r23fp : iv xp0 11 11 := (iv_both (iv_any xp0) (iv_eq (show iv 11 11 11 from ⟨by decide, by decide⟩) c23)).mono (by decide) (by decide)
        refine lv_iconst (v := 3) hx hb dX12_strength_26 (by decide) ?_
        refine lv_goto (tgt := 31) hx hb dX12_strength_27 (by decide) ?_
        exact J31 (3 : Int32) (show iv 3 0 3 from ⟨by decide, by decide⟩) _ (lv_sub hl [] rfl)
    · have r13fp : iv xp0 12 12 := (iv_both (iv_any xp0) (iv_eq (show iv 12 12 12 from ⟨by decide, by decide⟩) c13)).mono (by decide) (by decide)
      refine lv_iconst (v := 2) hx hb dX12_strength_16 (by decide) ?_
      refine lv_goto (tgt := 31) hx hb dX12_strength_17 (by decide) ?_
      exact J31 (2 : Int32) (show iv 2 0 3 from ⟨by decide, by decide⟩) _ (lv_sub hl [] rfl)
  · have r3fp : iv xp0 13 13 := (iv_both (iv_any xp0) (iv_eq (show iv 13 13 13 from ⟨by decide, by decide⟩) c3)).mono (by decide) (by decide)
    refine lv_iconst (v := 1) hx hb dX12_strength_6 (by decide) ?_
    refine lv_goto (tgt := 31) hx hb dX12_strength_7 (by decide) ?_
    exact J31 (1 : Int32) (show iv 1 0 3 from ⟨by decide, by decide⟩) _ (lv_sub hl [] rfl)
abbrev WX12_one (p : Program) (l : Launch) (e : Env) (s : State) (m : MethodId) (below : List Frame) (meth : Method) (c : Code) (D : hp_D) (T : hp_T) (xp0 : Int32) (xp1 : Int64) (xp2 : Int64) (H : Heap) (locs : List Loc) (g : JFrame) : Prop := W p l e (headSpec wsX12_one ({ frames := 0, cells := 0, slots := 0, locals := 0 })).room s m ([.int xp0, .long xp1, .long xp2] : List Value).toArray below meth c H locs 0 0 (MQ below (hq_p (fun v => ∃ r : Int64, v = some (.long r) ∧ True)) ([.int xp0, .long xp1, .long xp2] : List Value).toArray s 0 0 (fun _ => False)) g
set_option maxHeartbeats 4000000 in
set_option maxRecDepth 100000 in
theorem sX12_one (l : Launch) (D : hp_D) (T : hp_T) (xp0 : Int32) (xp1 : Int64) (xp2 : Int64)  : Met l yX12_one wsX12_one ({ frames := 0, cells := 0, slots := 0, locals := 0 }) (hp_Pc D T [.int xp0, .long xp1, .long xp2] (fun _ => True)) (hq_p (fun v => ∃ r : Int64, v = some (.long r) ∧ True)) 0 0 (fun _ => False) := by
  refine Met.ofW (cc := cX12_one) (maxL := 5) (ret := (some .long)) (by decide) rfl ?_
  intro p e s m args below meth c s₁ B hml hv
  obtain ⟨rfl, hok, hG, hB⟩ := hv
  have hx := B.exec
  have hb := B.bytes
  have hr := B.returns
  have hts := atoms_spec (ws := wsX12_one) B.pre
  have hown : s.vm.findClass RX12 = some m.cls := findClass_of_methodNamed B.named
  have hlocks := B.notSynchronized
  have hK := hG.1
  have hw : hp_w D T s s.heap [] := hp_w.rf hok
  have hl := lv_entry ([.int xp0, .long xp1, .long xp2]) (n := 5) (Nat.le_of_ble_eq_true rfl)
  rw [lg_entry_eq]
  generalize (lg_sl ([.int xp0, .long xp1, .long xp2]) ++ List.replicate (5 - (lg_sl ([.int xp0, .long xp1, .long xp2])).length) Slot.unset).toArray = ls at hl ⊢
  have hl : lv_has ls 5 [(0, .int xp0), (1, .long xp1), (3, .long xp2)] := hl
  show WX12_one p l e s m below meth c D T xp0 xp1 xp2 s.heap [] (F0 m 0 ls [])
  refine lv_iload_n hx hb dX12_one_0 rfl (lv_at hl 0 rfl) ?_
  have i1 := (iv_any xp0)
  unfold iv at i1
  rcases (show (xp0.toInt < 2 ∨ 14 < xp0.toInt) ∨ xp0.toInt = 2 ∨ xp0.toInt = 3 ∨ xp0.toInt = 4 ∨ xp0.toInt = 5 ∨ xp0.toInt = 6 ∨ xp0.toInt = 7 ∨ xp0.toInt = 8 ∨ xp0.toInt = 9 ∨ xp0.toInt = 10 ∨ xp0.toInt = 11 ∨ xp0.toInt = 12 ∨ xp0.toInt = 13 ∨ xp0.toInt = 14 from by omega) with s1 | s1 | s1 | s1 | s1 | s1 | s1 | s1 | s1 | s1 | s1 | s1 | s1 | s1
  · refine lv_tableOut (tgt := 172) hx hb dX12_one_1 s1 (by decide) ?_
    refine lv_lload_n hx hb dX12_one_172 rfl (lv_at hl 1 rfl) ?_
    refine lv_lload_n hx hb dX12_one_173 rfl (lv_at hl 2 rfl) ?_
    refine lv_lor hx hb dX12_one_174 ?_
    refine lv_topl (fun x174 ex174 => ?_)
    exact W.lret (v := x174) hx hb hr (fun t ht hW => ⟨some (.long x174), rfl, ⟨x174, rfl, trivial⟩, ht⟩) (fun q h => by cases h) dX12_one_175
  · refine lv_tableIn (off := 67) (tgt := 68) hx hb dX12_one_1 (by omega) (by omega) (by rw [s1]; rfl) (by decide) ?_
    have r1k : iv xp0 2 2 := ⟨by omega, by omega⟩
    refine lv_lload_n hx hb dX12_one_68 rfl (lv_at hl 1 rfl) ?_
    refine lv_lload_n hx hb dX12_one_69 rfl (lv_at hl 2 rfl) ?_
    refine lv_ladd hx hb dX12_one_70 ?_
    refine lv_topl (fun x70 ex70 => ?_)
    exact W.lret (v := x70) hx hb hr (fun t ht hW => ⟨some (.long x70), rfl, ⟨x70, rfl, trivial⟩, ht⟩) (fun q h => by cases h) dX12_one_71
  · refine lv_tableIn (off := 71) (tgt := 72) hx hb dX12_one_1 (by omega) (by omega) (by rw [s1]; rfl) (by decide) ?_
    have r1k : iv xp0 3 3 := ⟨by omega, by omega⟩
    refine lv_lload_n hx hb dX12_one_72 rfl (lv_at hl 1 rfl) ?_
    refine lv_lload_n hx hb dX12_one_73 rfl (lv_at hl 2 rfl) ?_
    refine lv_lsub hx hb dX12_one_74 ?_
    refine lv_topl (fun x74 ex74 => ?_)
    exact W.lret (v := x74) hx hb hr (fun t ht hW => ⟨some (.long x74), rfl, ⟨x74, rfl, trivial⟩, ht⟩) (fun q h => by cases h) dX12_one_75
  · refine lv_tableIn (off := 75) (tgt := 76) hx hb dX12_one_1 (by omega) (by omega) (by rw [s1]; rfl) (by decide) ?_
    have r1k : iv xp0 4 4 := ⟨by omega, by omega⟩
    refine lv_lload_n hx hb dX12_one_76 rfl (lv_at hl 1 rfl) ?_
    refine lv_lload_n hx hb dX12_one_77 rfl (lv_at hl 2 rfl) ?_
    refine lv_lmul hx hb dX12_one_78 ?_
    refine lv_topl (fun x78 ex78 => ?_)
    exact W.lret (v := x78) hx hb hr (fun t ht hW => ⟨some (.long x78), rfl, ⟨x78, rfl, trivial⟩, ht⟩) (fun q h => by cases h) dX12_one_79
  · refine lv_tableIn (off := 79) (tgt := 80) hx hb dX12_one_1 (by omega) (by omega) (by rw [s1]; rfl) (by decide) ?_
    have r1k : iv xp0 5 5 := ⟨by omega, by omega⟩
    refine lv_lload_n hx hb dX12_one_80 rfl (lv_at hl 2 rfl) ?_
    refine lv_lconst (v := 0) hx hb dX12_one_81 (by decide) ?_
    refine W.lcmp hx hb dX12_one_82 ?_
    refine lv_topi (fun x82 ex82 => ?_)
    have bx82 : iv x82 (-1) 1 := iv_lcmp ex82
    have J93 : ∀ (y93_s0 : Int64), ∀ (ls : Array Slot), lv_has ls 5 [] → WX12_one p l e s m below meth c D T xp0 xp1 xp2 s.heap [] (F0 m 93 ls [.long y93_s0]) := by
      intro y93_s0 ls hl
      exact W.lret (v := y93_s0) hx hb hr (fun t ht hW => ⟨some (.long y93_s0), rfl, ⟨y93_s0, rfl, trivial⟩, ht⟩) (fun q h => by cases h) dX12_one_93
    refine lv_if_ne (tgt := 90) hx hb dX12_one_83 (by decide) (fun c83 => ?_) (fun c83 => ?_)
    · refine lv_lload_n hx hb dX12_one_90 rfl (lv_at hl 1 rfl) ?_
      refine lv_lload_n hx hb dX12_one_91 rfl (lv_at hl 2 rfl) ?_
      refine lv_ldiv hx hb dX12_one_92 (iv_lnz ex82 c83) ?_
      refine lv_topl (fun x92 ex92 => ?_)
      exact J93 x92 _ (lv_sub hl [] rfl)
    · have r83fp : iv x82 0 0 := (iv_both bx82 (iv_eq (show iv 0 0 0 from ⟨by decide, by decide⟩) c83)).mono (by decide) (by decide)
      refine lv_lconst (v := 0) hx hb dX12_one_86 (by decide) ?_
      refine lv_goto (tgt := 93) hx hb dX12_one_87 (by decide) ?_
      exact J93 (0 : Int64) _ (lv_sub hl [] rfl)
  · refine lv_tableIn (off := 107) (tgt := 108) hx hb dX12_one_1 (by omega) (by omega) (by rw [s1]; rfl) (by decide) ?_
    have r1k : iv xp0 6 6 := ⟨by omega, by omega⟩
    refine lv_lload_n hx hb dX12_one_108 rfl (lv_at hl 1 rfl) ?_
    refine lv_lload_n hx hb dX12_one_109 rfl (lv_at hl 2 rfl) ?_
    refine W.lcmp hx hb dX12_one_110 ?_
    refine lv_topi (fun x110 ex110 => ?_)
    have bx110 : iv x110 (-1) 1 := iv_lcmp ex110
    have J119 : ∀ (y119_s0 : Int64), ∀ (ls : Array Slot), lv_has ls 5 [] → WX12_one p l e s m below meth c D T xp0 xp1 xp2 s.heap [] (F0 m 119 ls [.long y119_s0]) := by
      intro y119_s0 ls hl
      exact W.lret (v := y119_s0) hx hb hr (fun t ht hW => ⟨some (.long y119_s0), rfl, ⟨y119_s0, rfl, trivial⟩, ht⟩) (fun q h => by cases h) dX12_one_119
    refine lv_if_ge (tgt := 118) hx hb dX12_one_111 (by decide) (fun c111 => ?_) (fun c111 => ?_)
    · have r111tq : iv x110 0 1 := (iv_le_r c111 (show iv 0 0 0 from ⟨by decide, by decide⟩) bx110).mono (by decide) (by decide)
      refine lv_lconst (v := 0) hx hb dX12_one_118 (by decide) ?_
      exact J119 (0 : Int64) _ (lv_sub hl [] rfl)
    · have r111fp : iv x110 (-1) (-1) := (iv_lt_l (iv_nle c111) bx110 (show iv 0 0 0 from ⟨by decide, by decide⟩)).mono (by decide) (by decide)
      refine lv_lconst (v := 1) hx hb dX12_one_114 (by decide) ?_
      refine lv_goto (tgt := 119) hx hb dX12_one_115 (by decide) ?_
      exact J119 (1 : Int64) _ (lv_sub hl [] rfl)
  · refine lv_tableIn (off := 119) (tgt := 120) hx hb dX12_one_1 (by omega) (by omega) (by rw [s1]; rfl) (by decide) ?_
    have r1k : iv xp0 7 7 := ⟨by omega, by omega⟩
    refine lv_lload_n hx hb dX12_one_120 rfl (lv_at hl 1 rfl) ?_
    refine lv_lload_n hx hb dX12_one_121 rfl (lv_at hl 2 rfl) ?_
    refine W.lcmp hx hb dX12_one_122 ?_
    refine lv_topi (fun x122 ex122 => ?_)
    have bx122 : iv x122 (-1) 1 := iv_lcmp ex122
    have J131 : ∀ (y131_s0 : Int64), ∀ (ls : Array Slot), lv_has ls 5 [] → WX12_one p l e s m below meth c D T xp0 xp1 xp2 s.heap [] (F0 m 131 ls [.long y131_s0]) := by
      intro y131_s0 ls hl
      exact W.lret (v := y131_s0) hx hb hr (fun t ht hW => ⟨some (.long y131_s0), rfl, ⟨y131_s0, rfl, trivial⟩, ht⟩) (fun q h => by cases h) dX12_one_131
    refine lv_if_gt (tgt := 130) hx hb dX12_one_123 (by decide) (fun c123 => ?_) (fun c123 => ?_)
    · have r123tq : iv x122 1 1 := (iv_lt_r c123 (show iv 0 0 0 from ⟨by decide, by decide⟩) bx122).mono (by decide) (by decide)
      refine lv_lconst (v := 0) hx hb dX12_one_130 (by decide) ?_
      exact J131 (0 : Int64) _ (lv_sub hl [] rfl)
    · have r123fp : iv x122 (-1) 0 := (iv_le_l (iv_nlt c123) bx122 (show iv 0 0 0 from ⟨by decide, by decide⟩)).mono (by decide) (by decide)
      refine lv_lconst (v := 1) hx hb dX12_one_126 (by decide) ?_
      refine lv_goto (tgt := 131) hx hb dX12_one_127 (by decide) ?_
      exact J131 (1 : Int64) _ (lv_sub hl [] rfl)
  · refine lv_tableIn (off := 131) (tgt := 132) hx hb dX12_one_1 (by omega) (by omega) (by rw [s1]; rfl) (by decide) ?_
    have r1k : iv xp0 8 8 := ⟨by omega, by omega⟩
    refine lv_lload_n hx hb dX12_one_132 rfl (lv_at hl 1 rfl) ?_
    refine lv_lload_n hx hb dX12_one_133 rfl (lv_at hl 2 rfl) ?_
    refine W.lcmp hx hb dX12_one_134 ?_
    refine lv_topi (fun x134 ex134 => ?_)
    have bx134 : iv x134 (-1) 1 := iv_lcmp ex134
    have J143 : ∀ (y143_s0 : Int64), ∀ (ls : Array Slot), lv_has ls 5 [] → WX12_one p l e s m below meth c D T xp0 xp1 xp2 s.heap [] (F0 m 143 ls [.long y143_s0]) := by
      intro y143_s0 ls hl
      exact W.lret (v := y143_s0) hx hb hr (fun t ht hW => ⟨some (.long y143_s0), rfl, ⟨y143_s0, rfl, trivial⟩, ht⟩) (fun q h => by cases h) dX12_one_143
    refine lv_if_ne (tgt := 142) hx hb dX12_one_135 (by decide) (fun c135 => ?_) (fun c135 => ?_)
    · refine lv_lconst (v := 0) hx hb dX12_one_142 (by decide) ?_
      exact J143 (0 : Int64) _ (lv_sub hl [] rfl)
    · have r135fp : iv x134 0 0 := (iv_both bx134 (iv_eq (show iv 0 0 0 from ⟨by decide, by decide⟩) c135)).mono (by decide) (by decide)
      refine lv_lconst (v := 1) hx hb dX12_one_138 (by decide) ?_
      refine lv_goto (tgt := 143) hx hb dX12_one_139 (by decide) ?_
      exact J143 (1 : Int64) _ (lv_sub hl [] rfl)
  · refine lv_tableIn (off := 143) (tgt := 144) hx hb dX12_one_1 (by omega) (by omega) (by rw [s1]; rfl) (by decide) ?_
    have r1k : iv xp0 9 9 := ⟨by omega, by omega⟩
    refine lv_lload_n hx hb dX12_one_144 rfl (lv_at hl 1 rfl) ?_
    refine lv_lload_n hx hb dX12_one_145 rfl (lv_at hl 2 rfl) ?_
    refine W.lcmp hx hb dX12_one_146 ?_
    refine lv_topi (fun x146 ex146 => ?_)
    have bx146 : iv x146 (-1) 1 := iv_lcmp ex146
    have J155 : ∀ (y155_s0 : Int64), ∀ (ls : Array Slot), lv_has ls 5 [] → WX12_one p l e s m below meth c D T xp0 xp1 xp2 s.heap [] (F0 m 155 ls [.long y155_s0]) := by
      intro y155_s0 ls hl
      exact W.lret (v := y155_s0) hx hb hr (fun t ht hW => ⟨some (.long y155_s0), rfl, ⟨y155_s0, rfl, trivial⟩, ht⟩) (fun q h => by cases h) dX12_one_155
    refine lv_if_lt (tgt := 154) hx hb dX12_one_147 (by decide) (fun c147 => ?_) (fun c147 => ?_)
    · have r147tp : iv x146 (-1) (-1) := (iv_lt_l c147 bx146 (show iv 0 0 0 from ⟨by decide, by decide⟩)).mono (by decide) (by decide)
      refine lv_lconst (v := 0) hx hb dX12_one_154 (by decide) ?_
      exact J155 (0 : Int64) _ (lv_sub hl [] rfl)
    · have r147fq : iv x146 0 1 := (iv_le_r (iv_nlt c147) (show iv 0 0 0 from ⟨by decide, by decide⟩) bx146).mono (by decide) (by decide)
      refine lv_lconst (v := 1) hx hb dX12_one_150 (by decide) ?_
      refine lv_goto (tgt := 155) hx hb dX12_one_151 (by decide) ?_
      exact J155 (1 : Int64) _ (lv_sub hl [] rfl)
  · refine lv_tableIn (off := 155) (tgt := 156) hx hb dX12_one_1 (by omega) (by omega) (by rw [s1]; rfl) (by decide) ?_
    have r1k : iv xp0 10 10 := ⟨by omega, by omega⟩
    refine lv_lload_n hx hb dX12_one_156 rfl (lv_at hl 1 rfl) ?_
    refine lv_lload_n hx hb dX12_one_157 rfl (lv_at hl 2 rfl) ?_
    refine W.lcmp hx hb dX12_one_158 ?_
    refine lv_topi (fun x158 ex158 => ?_)
    have bx158 : iv x158 (-1) 1 := iv_lcmp ex158
    have J167 : ∀ (y167_s0 : Int64), ∀ (ls : Array Slot), lv_has ls 5 [] → WX12_one p l e s m below meth c D T xp0 xp1 xp2 s.heap [] (F0 m 167 ls [.long y167_s0]) := by
      intro y167_s0 ls hl
      exact W.lret (v := y167_s0) hx hb hr (fun t ht hW => ⟨some (.long y167_s0), rfl, ⟨y167_s0, rfl, trivial⟩, ht⟩) (fun q h => by cases h) dX12_one_167
    refine lv_if_le (tgt := 166) hx hb dX12_one_159 (by decide) (fun c159 => ?_) (fun c159 => ?_)
    · have r159tp : iv x158 (-1) 0 := (iv_le_l c159 bx158 (show iv 0 0 0 from ⟨by decide, by decide⟩)).mono (by decide) (by decide)
      refine lv_lconst (v := 0) hx hb dX12_one_166 (by decide) ?_
      exact J167 (0 : Int64) _ (lv_sub hl [] rfl)
    · have r159fq : iv x158 1 1 := (iv_lt_r (iv_nle c159) (show iv 0 0 0 from ⟨by decide, by decide⟩) bx158).mono (by decide) (by decide)
      refine lv_lconst (v := 1) hx hb dX12_one_162 (by decide) ?_
      refine lv_goto (tgt := 167) hx hb dX12_one_163 (by decide) ?_
      exact J167 (1 : Int64) _ (lv_sub hl [] rfl)
  · refine lv_tableIn (off := 171) (tgt := 172) hx hb dX12_one_1 (by omega) (by omega) (by rw [s1]; rfl) (by decide) ?_
    have r1k : iv xp0 11 11 := ⟨by omega, by omega⟩
    refine lv_lload_n hx hb dX12_one_172 rfl (lv_at hl 1 rfl) ?_
    refine lv_lload_n hx hb dX12_one_173 rfl (lv_at hl 2 rfl) ?_
    refine lv_lor hx hb dX12_one_174 ?_
    refine lv_topl (fun x174 ex174 => ?_)
    exact W.lret (v := x174) hx hb hr (fun t ht hW => ⟨some (.long x174), rfl, ⟨x174, rfl, trivial⟩, ht⟩) (fun q h => by cases h) dX12_one_175
  · refine lv_tableIn (off := 167) (tgt := 168) hx hb dX12_one_1 (by omega) (by omega) (by rw [s1]; rfl) (by decide) ?_
    have r1k : iv xp0 12 12 := ⟨by omega, by omega⟩
    refine lv_lload_n hx hb dX12_one_168 rfl (lv_at hl 1 rfl) ?_
    refine lv_lload_n hx hb dX12_one_169 rfl (lv_at hl 2 rfl) ?_
    refine lv_land hx hb dX12_one_170 ?_
    refine lv_topl (fun x170 ex170 => ?_)
    exact W.lret (v := x170) hx hb hr (fun t ht hW => ⟨some (.long x170), rfl, ⟨x170, rfl, trivial⟩, ht⟩) (fun q h => by cases h) dX12_one_171
  · refine lv_tableIn (off := 171) (tgt := 172) hx hb dX12_one_1 (by omega) (by omega) (by rw [s1]; rfl) (by decide) ?_
    have r1k : iv xp0 13 13 := ⟨by omega, by omega⟩
    refine lv_lload_n hx hb dX12_one_172 rfl (lv_at hl 1 rfl) ?_
    refine lv_lload_n hx hb dX12_one_173 rfl (lv_at hl 2 rfl) ?_
    refine lv_lor hx hb dX12_one_174 ?_
    refine lv_topl (fun x174 ex174 => ?_)
    exact W.lret (v := x174) hx hb hr (fun t ht hW => ⟨some (.long x174), rfl, ⟨x174, rfl, trivial⟩, ht⟩) (fun q h => by cases h) dX12_one_175
  · refine lv_tableIn (off := 93) (tgt := 94) hx hb dX12_one_1 (by omega) (by omega) (by rw [s1]; rfl) (by decide) ?_
    have r1k : iv xp0 14 14 := ⟨by omega, by omega⟩
    refine lv_lload_n hx hb dX12_one_94 rfl (lv_at hl 2 rfl) ?_
    refine lv_lconst (v := 0) hx hb dX12_one_95 (by decide) ?_
    refine W.lcmp hx hb dX12_one_96 ?_
    refine lv_topi (fun x96 ex96 => ?_)
    have bx96 : iv x96 (-1) 1 := iv_lcmp ex96
    have J107 : ∀ (y107_s0 : Int64), ∀ (ls : Array Slot), lv_has ls 5 [] → WX12_one p l e s m below meth c D T xp0 xp1 xp2 s.heap [] (F0 m 107 ls [.long y107_s0]) := by
      intro y107_s0 ls hl
      exact W.lret (v := y107_s0) hx hb hr (fun t ht hW => ⟨some (.long y107_s0), rfl, ⟨y107_s0, rfl, trivial⟩, ht⟩) (fun q h => by cases h) dX12_one_107
    refine lv_if_ne (tgt := 104) hx hb dX12_one_97 (by decide) (fun c97 => ?_) (fun c97 => ?_)
    · refine lv_lload_n hx hb dX12_one_104 rfl (lv_at hl 1 rfl) ?_
      refine lv_lload_n hx hb dX12_one_105 rfl (lv_at hl 2 rfl) ?_
      refine lv_lrem hx hb dX12_one_106 (iv_lnz ex96 c97) ?_
      refine lv_topl (fun x106 ex106 => ?_)
      exact J107 x106 _ (lv_sub hl [] rfl)
    · have r97fp : iv x96 0 0 := (iv_both bx96 (iv_eq (show iv 0 0 0 from ⟨by decide, by decide⟩) c97)).mono (by decide) (by decide)
      refine lv_lconst (v := 0) hx hb dX12_one_100 (by decide) ?_
      refine lv_goto (tgt := 107) hx hb dX12_one_101 (by decide) ?_
      exact J107 (0 : Int64) _ (lv_sub hl [] rfl)
abbrev WX12_end (p : Program) (l : Launch) (e : Env) (s : State) (m : MethodId) (below : List Frame) (meth : Method) (c : Code) (D : hp_D) (T : hp_T) (ap0 : Nat) (xp1 : Int32) (H : Heap) (locs : List Loc) (g : JFrame) : Prop := W p l e (headSpec wsX12_end ({ frames := 0, cells := 0, slots := 0, locals := 0 })).room s m ([.ref ap0, .int xp1] : List Value).toArray below meth c H locs 0 0 (MQ below (hq_e D T (fun v st t => ∃ r : Int32, v = some (.int r) ∧ ((True) ∧ hp_km D [(12, 1)] st.heap t.heap))) ([.ref ap0, .int xp1] : List Value).toArray s 0 0 (hp_F T)) g
set_option maxHeartbeats 4000000 in
set_option maxRecDepth 100000 in
theorem sX12_end (l : Launch) (D : hp_D) (T : hp_T) (ap0 : Nat) (xp1 : Int32) (Gm : moG) (ip0 : isMo T ap0 Gm) : Met l yX12_end wsX12_end ({ frames := 0, cells := 0, slots := 0, locals := 0 }) (hp_Pc D T [.ref ap0, .int xp1] (fun _ => True)) (hq_e D T (fun v st t => ∃ r : Int32, v = some (.int r) ∧ ((True) ∧ hp_km D [(12, 1)] st.heap t.heap))) 0 0 (hp_F T) := by
  obtain ⟨ap0tape, ap0sign, ap0len, ap0clause, ap0clauses, ap0read, ap0opn, ap0stack, ap0word, ap0said, ap0was, ap0fitting, ap0sums, ap0sort, ap0sumsBy, ap0oneOf, ap0otherOf, ap0kept, ap0images, ap0acts, ap0iUnd, ap0iFor, ap0iX, ap0made, gok, hp0, hp0tape, hp0sign, hp0len, hp0clause, hp0clauses, hp0read, hp0opn, hp0stack, hp0word, hp0said, hp0was, hp0fitting, hp0sums, hp0sort, hp0sumsBy, hp0oneOf, hp0otherOf, hp0kept, hp0images, hp0acts, hp0iUnd, hp0iFor, hp0iX, hp0made⟩ := id ip0
  have hpx := gok.1
  have gsok := gok.2.2.2.2
  have ggd := gok.2.2.2.1
  refine Met.ofW (cc := cX12_end) (maxL := 2) (ret := (some .int)) (by decide) rfl ?_
  intro p e s m args below meth c s₁ B hml hv
  obtain ⟨rfl, hok, hG, hB⟩ := hv
  have hx := B.exec
  have hb := B.bytes
  have hr := B.returns
  have hts := atoms_spec (ws := wsX12_end) B.pre
  have hown : s.vm.findClass RX12 = some m.cls := findClass_of_methodNamed B.named
  have hlocks := B.notSynchronized
  have hK := hG.1
  have hw : hp_w D T s s.heap [] := hp_w.rf hok
  have IX12 : ∀ w ∈ wsX120, w ∈ wsX12_end := by decide +kernel
  have L89 := hts (.fieldLink RX12 89 "PalmCensusModel" "taped" "I") (by decide +kernel)
  have hkm : hp_km D [(12, 1)] s.heap s.heap := fun _ _ _ _ h _ => h
  have hl := lv_entry ([.ref ap0, .int xp1]) (n := 2) (Nat.le_of_ble_eq_true rfl)
  rw [lg_entry_eq]
  generalize (lg_sl ([.ref ap0, .int xp1]) ++ List.replicate (2 - (lg_sl ([.ref ap0, .int xp1])).length) Slot.unset).toArray = ls at hl ⊢
  have hl : lv_has ls 2 [(0, .ref ap0), (1, .int xp1)] := hl
  show WX12_end p l e s m below meth c D T ap0 xp1 s.heap [] (F0 m 0 ls [])
  refine lv_iload_n hx hb dX12_end_0 rfl (lv_at hl 1 rfl) ?_
  have J12 : ∀ (H : Heap) (locs : List Loc), hp_w D T s H locs → hp_km D [(12, 1)] s.heap H → ∀ (ls : Array Slot), lv_has ls 2 [] → WX12_end p l e s m below meth c D T ap0 xp1 H locs (F0 m 12 ls []) := by
    intro H12 locs12 hw hkm ls hl
    refine lv_iconst (v := (-1)) hx hb dX12_end_12 (by decide) ?_
    exact W.iret (v := (-1)) hx hb hr (fun t ht hW => ⟨some (.int (-1)), rfl, ⟨((-1) : Int32), rfl, ⟨trivial, by rw [ht]; exact hkm⟩⟩, by rw [ht]; exact hw.1, hw.2.F ht⟩) hw.2.2.2 dX12_end_13
  refine lv_if_lt (tgt := 12) hx hb dX12_end_1 (by decide) (fun c1 => ?_) (fun c1 => ?_)
  · have r1tp : iv xp1 (-2147483648) (-1) := (iv_lt_l c1 (iv_any xp1) (show iv 0 0 0 from ⟨by decide, by decide⟩)).mono (by decide) (by decide)
    exact J12 s.heap [] hw hkm _ (lv_sub hl [] rfl)
  · have r1fq : iv xp1 0 2147483647 := (iv_le_r (iv_nlt c1) (show iv 0 0 0 from ⟨by decide, by decide⟩) (iv_any xp1)).mono (by decide) (by decide)
    refine lv_iload_n hx hb dX12_end_4 rfl (lv_at hl 1 rfl) ?_
    refine lv_aload_n hx hb dX12_end_5 rfl (lv_at hl 0 rfl) ?_
    refine hp_geti hx hb hts IX12 hown hK hw.1 hp0 rfl 1 (by decide) L89 rfl dX12_end_6 (fun x6 bx6 fx6 => ?_)
    refine lv_icmp_le (tgt := 14) hx hb dX12_end_9 (by decide) (fun c9 => ?_) (fun c9 => ?_)
    · have r9tp : iv xp1 0 400 := (iv_le_l c9 r1fq bx6).mono (by decide) (by decide)
      refine lv_aload_n hx hb dX12_end_14 rfl (lv_at hl 0 rfl) ?_
      refine lv_iload_n hx hb dX12_end_15 rfl (lv_at hl 1 rfl) ?_
      refine hp_put hx hb hts IX12 tyX12 tyX12_ok nmX12 hown hK hw hp0 rfl 1 (by decide) L89 rfl rfl ⟨_, rfl, r9tp⟩ rfl rfl dX12_end_16 (fun H16 locs16 hw f16n g16 => ?_)
      have hkm := hkm.put g16 (by decide)
      refine lv_iload_n hx hb dX12_end_19 rfl (lv_at hl 1 rfl) ?_
      exact W.iret (v := xp1) hx hb hr (fun t ht hW => ⟨some (.int xp1), rfl, ⟨xp1, rfl, ⟨trivial, by rw [ht]; exact hkm⟩⟩, by rw [ht]; exact hw.1, hw.2.F ht⟩) hw.2.2.2 dX12_end_20
    · have r9fq : iv xp1 1 2147483647 := (iv_lt_r (iv_nle c9) bx6 r1fq).mono (by decide) (by decide)
      exact J12 s.heap [] hw hkm _ (lv_sub hl [] rfl)
abbrev WX12_four_0 (p : Program) (l : Launch) (e : Env) (s : State) (m : MethodId) (below : List Frame) (meth : Method) (c : Code) (D : hp_D) (T : hp_T) (ap0 : Nat) (xp1 : Int32) (xp100 : Int32) (H : Heap) (locs : List Loc) (g : JFrame) : Prop := W p l e (headSpec wsX12_four ({ frames := 0, cells := 0, slots := 0, locals := 0 })).room s m ([.ref ap0, .int xp1] : List Value).toArray below meth c H locs 0 0 (MQ below (hq_e D T (fun v st t => v = none ∧ ((True) ∧ hp_km D [(12, 1)] st.heap t.heap ∧ ∃ y : Int32, hp_f D t.heap ap0 12 1 (.int y) ∧ iv y 0 384))) ([.ref ap0, .int xp1] : List Value).toArray s 0 0 (hp_F T)) g
set_option maxHeartbeats 4000000 in
set_option maxRecDepth 100000 in
theorem sX12_four_0 (l : Launch) (D : hp_D) (T : hp_T) (ap0 : Nat) (xp1 : Int32) (xp100 : Int32) (Gm : moG) (ip0 : isMo T ap0 Gm) (bp100 : iv xp100 0 380) : Met l yX12_four wsX12_four ({ frames := 0, cells := 0, slots := 0, locals := 0 }) (hp_Pc D T [.ref ap0, .int xp1] (fun H => hp_f D H ap0 12 1 (.int xp100))) (hq_e D T (fun v st t => v = none ∧ ((True) ∧ hp_km D [(12, 1)] st.heap t.heap ∧ ∃ y : Int32, hp_f D t.heap ap0 12 1 (.int y) ∧ iv y 0 384))) 0 0 (hp_F T) := by
  obtain ⟨ap0tape, ap0sign, ap0len, ap0clause, ap0clauses, ap0read, ap0opn, ap0stack, ap0word, ap0said, ap0was, ap0fitting, ap0sums, ap0sort, ap0sumsBy, ap0oneOf, ap0otherOf, ap0kept, ap0images, ap0acts, ap0iUnd, ap0iFor, ap0iX, ap0made, gok, hp0, hp0tape, hp0sign, hp0len, hp0clause, hp0clauses, hp0read, hp0opn, hp0stack, hp0word, hp0said, hp0was, hp0fitting, hp0sums, hp0sort, hp0sumsBy, hp0oneOf, hp0otherOf, hp0kept, hp0images, hp0acts, hp0iUnd, hp0iFor, hp0iX, hp0made⟩ := id ip0
  have hpx := gok.1
  have gsok := gok.2.2.2.2
  have ggd := gok.2.2.2.1
  refine Met.ofW (cc := cX12_four) (maxL := 3) (ret := none) (by decide) rfl ?_
  intro p e s m args below meth c s₁ B hml hv
  obtain ⟨rfl, hok, hG, hB⟩ := hv
  have hx := B.exec
  have hb := B.bytes
  have hr := B.returns
  have hts := atoms_spec (ws := wsX12_four) B.pre
  have hown : s.vm.findClass RX12 = some m.cls := findClass_of_methodNamed B.named
  have hlocks := B.notSynchronized
  have hK := hG.1
  have hw : hp_w D T s s.heap [] := hp_w.rf hok
  have IX12 : ∀ w ∈ wsX120, w ∈ wsX12_four := by decide +kernel
  have L7 := hts (.fieldLink RX12 7 "PalmCensusModel" "tape" "[B") (by decide +kernel)
  have L89 := hts (.fieldLink RX12 89 "PalmCensusModel" "taped" "I") (by decide +kernel)
  have hkm : hp_km D [(12, 1)] s.heap s.heap := fun _ _ _ _ h _ => h
  have hl := lv_entry ([.ref ap0, .int xp1]) (n := 3) (Nat.le_of_ble_eq_true rfl)
  rw [lg_entry_eq]
  generalize (lg_sl ([.ref ap0, .int xp1]) ++ List.replicate (3 - (lg_sl ([.ref ap0, .int xp1])).length) Slot.unset).toArray = ls at hl ⊢
  have hl : lv_has ls 3 [(0, .ref ap0), (1, .int xp1)] := hl
  show WX12_four_0 p l e s m below meth c D T ap0 xp1 xp100 s.heap [] (F0 m 0 ls [])
  refine lv_bipush (v := 24) hx hb dX12_four_0 (by decide) ?_
  refine lv_istore_n (lv' := [(2, .int 24), (0, .ref ap0), (1, .int xp1)]) hx hb dX12_four_2 rfl hl (by decide) rfl (fun ls hl => ?_)
  have J3 : ∀ (n : Nat) (y3_l2 y3_fp0_1 : Int32), (y3_l2.toInt - (-10)).toNat < n → iv y3_l2 (-10) 24 → iv y3_fp0_1 0 384 → 8 * y3_fp0_1.toInt + y3_l2.toInt = 8 * xp100.toInt + 24 → ∀ (H : Heap) (locs : List Loc), hp_w D T s H locs → hp_km D [(12, 1)] s.heap H → hp_f D H ap0 12 1 (.int y3_fp0_1) → ∀ (ls : Array Slot), lv_has ls 3 [(0, .ref ap0), (1, .int xp1), (2, .int y3_l2)] → WX12_four_0 p l e s m below meth c D T ap0 xp1 xp100 H locs (F0 m 3 ls []) := by
    intro n
    induction n with
    | zero => intro y3_l2 y3_fp0_1 hmu3 c3_y3_l2 c3_y3_fp0_1 hv3_0 H3 locs3 hw hkm f_p0_1 ls hl; exact absurd hmu3 (Nat.not_lt_zero _)
    | succ n ih3 =>
      intro y3_l2 y3_fp0_1 hmu3 c3_y3_l2 c3_y3_fp0_1 hv3_0 H3 locs3 hw hkm f_p0_1 ls hl
      refine lv_iload_n hx hb dX12_four_3 rfl (lv_at hl 2 rfl) ?_
      refine lv_if_lt (tgt := 36) hx hb dX12_four_4 (by decide) (fun c4 => ?_) (fun c4 => ?_)
      · have r4tp : iv y3_l2 (-10) (-1) := (iv_lt_l c4 c3_y3_l2 (show iv 0 0 0 from ⟨by decide, by decide⟩)).mono (by decide) (by decide)
        have w5 : iv y3_fp0_1 0 384 := ⟨c3_y3_fp0_1.1, by have := (bp100).2; have := (c3_y3_fp0_1).1; have := (c3_y3_fp0_1).2; have := (r4tp).1; have := (r4tp).2; have := (Int32.lt_iff_toInt_lt.mp c4); have : (0 : Int32).toInt = 0 := (by decide); omega⟩
        exact W.vret hx hb hr (fun t ht hW => ⟨none, rfl, ⟨rfl, ⟨trivial, by rw [ht]; exact hkm, y3_fp0_1, by rw [ht]; exact f_p0_1, w5⟩⟩, by rw [ht]; exact hw.1, hw.2.F ht⟩) hw.2.2.2 dX12_four_36
      · have r4fq : iv y3_l2 0 24 := (iv_le_r (iv_nlt c4) (show iv 0 0 0 from ⟨by decide, by decide⟩) c3_y3_l2).mono (by decide) (by decide)
        have w4 : iv y3_fp0_1 0 383 := ⟨c3_y3_fp0_1.1, by have := (bp100).2; have := (c3_y3_fp0_1).1; have := (c3_y3_fp0_1).2; have := (r4fq).1; have := (r4fq).2; have := (Int32.le_iff_toInt_le.mp (iv_nlt c4)); have : (0 : Int32).toInt = 0 := (by decide); omega⟩
        refine lv_aload_n hx hb dX12_four_7 rfl (lv_at hl 0 rfl) ?_
        refine hp_getr hx hb hts IX12 hown hK hw.1 hp0 rfl 0 (by decide) L7 rfl dX12_four_8 ?_
        refine lv_aload_n hx hb dX12_four_11 rfl (lv_at hl 0 rfl) ?_
        refine hp_getf hx hb hts IX12 hown hK f_p0_1 rfl (by decide) L89 dX12_four_12 ?_
        refine lv_iload_n hx hb dX12_four_15 rfl (lv_at hl 1 rfl) ?_
        refine lv_iload_n hx hb dX12_four_16 rfl (lv_at hl 2 rfl) ?_
        refine lv_ishr hx hb dX12_four_17 ?_
        refine lv_topi (fun x17 ex17 => ?_)
        obtain ⟨x18, ex18⟩ : ∃ y : Int32, x17.toInt8.toInt32 = y := ⟨_, rfl⟩
        refine lv_i2b (v := x18) hx hb dX12_four_18 ex18 ?_
        refine hp_bastA hx hb hK hw hp0tape (vp_iv w4 (by decide)) dX12_four_19 (fun H19 locs19 hw g19 => ?_)
        have hkm := hkm.ar g19
        have f_p0_1 := g19 _ _ _ _ f_p0_1
        refine lv_aload_n hx hb dX12_four_20 rfl (lv_at hl 0 rfl) ?_
        refine lv_dup hx hb dX12_four_21 rfl ?_
        refine hp_getf hx hb hts IX12 hown hK f_p0_1 rfl (by decide) L89 dX12_four_22 ?_
        refine lv_iconst (v := 1) hx hb dX12_four_25 (by decide) ?_
        refine lv_iadd hx hb dX12_four_26 ?_
        refine lv_topi (fun x26 ex26 => ?_)
        have bx26 : iv x26 1 384 := iv_add w4 (show iv 1 1 1 from ⟨by decide, by decide⟩) ex26 (by decide)
        have qx26 := iv_add_eq w4 (show iv 1 1 1 from ⟨by decide, by decide⟩) ex26 (by decide)
        refine hp_put hx hb hts IX12 tyX12 tyX12_ok nmX12 hown hK hw hp0 rfl 1 (by decide) L89 rfl rfl ⟨_, rfl, (bx26.mono (by decide) (by decide))⟩ rfl rfl dX12_four_27 (fun H27 locs27 hw f27n g27 => ?_)
        have hkm := hkm.put g27 (by decide)
        obtain ⟨x30, ex30⟩ : ∃ y : Int32, y = y3_l2 + (-8) := ⟨_, rfl⟩
        have bx30 : iv x30 (-8) 16 := iv_add r4fq (show iv (-8) (-8) (-8) from ⟨by decide, by decide⟩) ex30 (by decide)
        have qx30 := iv_add_eq r4fq (show iv (-8) (-8) (-8) from ⟨by decide, by decide⟩) ex30 (by decide)
        refine lv_iinc (v := x30) (lv' := [(2, .int x30), (0, .ref ap0), (1, .int xp1)]) hx hb dX12_four_30 hl (k := 2) rfl (by rw [ex30]; rfl) (by decide) rfl (fun ls hl => ?_)
        refine lv_goto (tgt := 3) hx hb dX12_four_33 (by decide) ?_
        exact ih3 x30 x26 (mu_dn 8 hmu3 (qx30) (by decide) (show iv x30 (-10) 24 from (bx30.mono (by decide) (by decide))).1) (bx30.mono (by decide) (by decide)) (bx26.mono (by decide) (by decide)) (show 8 * x26.toInt + x30.toInt = 8 * xp100.toInt + 24 from by have := (bx26).1; have := (bx26).2; have := (bx30).1; have := (bx30).2; have := (r4fq).1; have := (r4fq).2; have := (w4).1; have := (w4).2; have := (Int32.le_iff_toInt_le.mp (iv_nlt c4)); have : ((-8) : Int32).toInt = (-8) := (by decide); have : (0 : Int32).toInt = 0 := (by decide); have : (1 : Int32).toInt = 1 := (by decide); omega) H27 locs27 hw hkm f27n _ (lv_sub hl [1, 2, 0] rfl)
  exact J3 _ (24 : Int32) xp100 (Nat.lt_succ_self _) (show iv 24 (-10) 24 from ⟨by decide, by decide⟩) (bp100.mono (by decide) (by decide)) (show 8 * xp100.toInt + 24 = 8 * xp100.toInt + 24 from by have := (bp100).1; have := (bp100).2; omega) s.heap [] hw hkm hB _ (lv_sub hl [1, 2, 0] rfl)
abbrev WX12_four_1 (p : Program) (l : Launch) (e : Env) (s : State) (m : MethodId) (below : List Frame) (meth : Method) (c : Code) (D : hp_D) (T : hp_T) (ap0 : Nat) (xp1 : Int32) (xp100 : Int32) (H : Heap) (locs : List Loc) (g : JFrame) : Prop := W p l e (headSpec wsX12_four ({ frames := 0, cells := 0, slots := 0, locals := 0 })).room s m ([.ref ap0, .int xp1] : List Value).toArray below meth c H locs 0 0 (MQ below (hq_e D T (fun v st t => v = none ∧ ((True) ∧ hp_km D [(12, 1)] st.heap t.heap ∧ ∃ y : Int32, hp_f D t.heap ap0 12 1 (.int y) ∧ iv y 0 388))) ([.ref ap0, .int xp1] : List Value).toArray s 0 0 (hp_F T)) g
set_option maxHeartbeats 4000000 in
set_option maxRecDepth 100000 in
theorem sX12_four_1 (l : Launch) (D : hp_D) (T : hp_T) (ap0 : Nat) (xp1 : Int32) (xp100 : Int32) (Gm : moG) (ip0 : isMo T ap0 Gm) (bp100 : iv xp100 0 384) : Met l yX12_four wsX12_four ({ frames := 0, cells := 0, slots := 0, locals := 0 }) (hp_Pc D T [.ref ap0, .int xp1] (fun H => hp_f D H ap0 12 1 (.int xp100))) (hq_e D T (fun v st t => v = none ∧ ((True) ∧ hp_km D [(12, 1)] st.heap t.heap ∧ ∃ y : Int32, hp_f D t.heap ap0 12 1 (.int y) ∧ iv y 0 388))) 0 0 (hp_F T) := by
  obtain ⟨ap0tape, ap0sign, ap0len, ap0clause, ap0clauses, ap0read, ap0opn, ap0stack, ap0word, ap0said, ap0was, ap0fitting, ap0sums, ap0sort, ap0sumsBy, ap0oneOf, ap0otherOf, ap0kept, ap0images, ap0acts, ap0iUnd, ap0iFor, ap0iX, ap0made, gok, hp0, hp0tape, hp0sign, hp0len, hp0clause, hp0clauses, hp0read, hp0opn, hp0stack, hp0word, hp0said, hp0was, hp0fitting, hp0sums, hp0sort, hp0sumsBy, hp0oneOf, hp0otherOf, hp0kept, hp0images, hp0acts, hp0iUnd, hp0iFor, hp0iX, hp0made⟩ := id ip0
  have hpx := gok.1
  have gsok := gok.2.2.2.2
  have ggd := gok.2.2.2.1
  refine Met.ofW (cc := cX12_four) (maxL := 3) (ret := none) (by decide) rfl ?_
  intro p e s m args below meth c s₁ B hml hv
  obtain ⟨rfl, hok, hG, hB⟩ := hv
  have hx := B.exec
  have hb := B.bytes
  have hr := B.returns
  have hts := atoms_spec (ws := wsX12_four) B.pre
  have hown : s.vm.findClass RX12 = some m.cls := findClass_of_methodNamed B.named
  have hlocks := B.notSynchronized
  have hK := hG.1
  have hw : hp_w D T s s.heap [] := hp_w.rf hok
  have IX12 : ∀ w ∈ wsX120, w ∈ wsX12_four := by decide +kernel
  have L7 := hts (.fieldLink RX12 7 "PalmCensusModel" "tape" "[B") (by decide +kernel)
  have L89 := hts (.fieldLink RX12 89 "PalmCensusModel" "taped" "I") (by decide +kernel)
  have hkm : hp_km D [(12, 1)] s.heap s.heap := fun _ _ _ _ h _ => h
  have hl := lv_entry ([.ref ap0, .int xp1]) (n := 3) (Nat.le_of_ble_eq_true rfl)
  rw [lg_entry_eq]
  generalize (lg_sl ([.ref ap0, .int xp1]) ++ List.replicate (3 - (lg_sl ([.ref ap0, .int xp1])).length) Slot.unset).toArray = ls at hl ⊢
  have hl : lv_has ls 3 [(0, .ref ap0), (1, .int xp1)] := hl
  show WX12_four_1 p l e s m below meth c D T ap0 xp1 xp100 s.heap [] (F0 m 0 ls [])
  refine lv_bipush (v := 24) hx hb dX12_four_0 (by decide) ?_
  refine lv_istore_n (lv' := [(2, .int 24), (0, .ref ap0), (1, .int xp1)]) hx hb dX12_four_2 rfl hl (by decide) rfl (fun ls hl => ?_)
  have J3 : ∀ (n : Nat) (y3_l2 y3_fp0_1 : Int32), (y3_l2.toInt - (-10)).toNat < n → iv y3_l2 (-10) 24 → iv y3_fp0_1 0 388 → 8 * y3_fp0_1.toInt + y3_l2.toInt = 8 * xp100.toInt + 24 → ∀ (H : Heap) (locs : List Loc), hp_w D T s H locs → hp_km D [(12, 1)] s.heap H → hp_f D H ap0 12 1 (.int y3_fp0_1) → ∀ (ls : Array Slot), lv_has ls 3 [(0, .ref ap0), (1, .int xp1), (2, .int y3_l2)] → WX12_four_1 p l e s m below meth c D T ap0 xp1 xp100 H locs (F0 m 3 ls []) := by
    intro n
    induction n with
    | zero => intro y3_l2 y3_fp0_1 hmu3 c3_y3_l2 c3_y3_fp0_1 hv3_0 H3 locs3 hw hkm f_p0_1 ls hl; exact absurd hmu3 (Nat.not_lt_zero _)
    | succ n ih3 =>
      intro y3_l2 y3_fp0_1 hmu3 c3_y3_l2 c3_y3_fp0_1 hv3_0 H3 locs3 hw hkm f_p0_1 ls hl
      refine lv_iload_n hx hb dX12_four_3 rfl (lv_at hl 2 rfl) ?_
      refine lv_if_lt (tgt := 36) hx hb dX12_four_4 (by decide) (fun c4 => ?_) (fun c4 => ?_)
      · have r4tp : iv y3_l2 (-10) (-1) := (iv_lt_l c4 c3_y3_l2 (show iv 0 0 0 from ⟨by decide, by decide⟩)).mono (by decide) (by decide)
        have w5 : iv y3_fp0_1 0 388 := ⟨c3_y3_fp0_1.1, by have := (bp100).2; have := (c3_y3_fp0_1).1; have := (c3_y3_fp0_1).2; have := (r4tp).1; have := (r4tp).2; have := (Int32.lt_iff_toInt_lt.mp c4); have : (0 : Int32).toInt = 0 := (by decide); omega⟩
        exact W.vret hx hb hr (fun t ht hW => ⟨none, rfl, ⟨rfl, ⟨trivial, by rw [ht]; exact hkm, y3_fp0_1, by rw [ht]; exact f_p0_1, w5⟩⟩, by rw [ht]; exact hw.1, hw.2.F ht⟩) hw.2.2.2 dX12_four_36
      · have r4fq : iv y3_l2 0 24 := (iv_le_r (iv_nlt c4) (show iv 0 0 0 from ⟨by decide, by decide⟩) c3_y3_l2).mono (by decide) (by decide)
        have w4 : iv y3_fp0_1 0 387 := ⟨c3_y3_fp0_1.1, by have := (bp100).2; have := (c3_y3_fp0_1).1; have := (c3_y3_fp0_1).2; have := (r4fq).1; have := (r4fq).2; have := (Int32.le_iff_toInt_le.mp (iv_nlt c4)); have : (0 : Int32).toInt = 0 := (by decide); omega⟩
        refine lv_aload_n hx hb dX12_four_7 rfl (lv_at hl 0 rfl) ?_
        refine hp_getr hx hb hts IX12 hown hK hw.1 hp0 rfl 0 (by decide) L7 rfl dX12_four_8 ?_
        refine lv_aload_n hx hb dX12_four_11 rfl (lv_at hl 0 rfl) ?_
        refine hp_getf hx hb hts IX12 hown hK f_p0_1 rfl (by decide) L89 dX12_four_12 ?_
        refine lv_iload_n hx hb dX12_four_15 rfl (lv_at hl 1 rfl) ?_
        refine lv_iload_n hx hb dX12_four_16 rfl (lv_at hl 2 rfl) ?_
        refine lv_ishr hx hb dX12_four_17 ?_
        refine lv_topi (fun x17 ex17 => ?_)
        obtain ⟨x18, ex18⟩ : ∃ y : Int32, x17.toInt8.toInt32 = y := ⟨_, rfl⟩
        refine lv_i2b (v := x18) hx hb dX12_four_18 ex18 ?_
        refine hp_bastA hx hb hK hw hp0tape (vp_iv w4 (by decide)) dX12_four_19 (fun H19 locs19 hw g19 => ?_)
        have hkm := hkm.ar g19
        have f_p0_1 := g19 _ _ _ _ f_p0_1
        refine lv_aload_n hx hb dX12_four_20 rfl (lv_at hl 0 rfl) ?_
        refine lv_dup hx hb dX12_four_21 rfl ?_
        refine hp_getf hx hb hts IX12 hown hK f_p0_1 rfl (by decide) L89 dX12_four_22 ?_
        refine lv_iconst (v := 1) hx hb dX12_four_25 (by decide) ?_
        refine lv_iadd hx hb dX12_four_26 ?_
        refine lv_topi (fun x26 ex26 => ?_)
        have bx26 : iv x26 1 388 := iv_add w4 (show iv 1 1 1 from ⟨by decide, by decide⟩) ex26 (by decide)
        have qx26 := iv_add_eq w4 (show iv 1 1 1 from ⟨by decide, by decide⟩) ex26 (by decide)
        refine hp_put hx hb hts IX12 tyX12 tyX12_ok nmX12 hown hK hw hp0 rfl 1 (by decide) L89 rfl rfl ⟨_, rfl, (bx26.mono (by decide) (by decide))⟩ rfl rfl dX12_four_27 (fun H27 locs27 hw f27n g27 => ?_)
        have hkm := hkm.put g27 (by decide)
        obtain ⟨x30, ex30⟩ : ∃ y : Int32, y = y3_l2 + (-8) := ⟨_, rfl⟩
        have bx30 : iv x30 (-8) 16 := iv_add r4fq (show iv (-8) (-8) (-8) from ⟨by decide, by decide⟩) ex30 (by decide)
        have qx30 := iv_add_eq r4fq (show iv (-8) (-8) (-8) from ⟨by decide, by decide⟩) ex30 (by decide)
        refine lv_iinc (v := x30) (lv' := [(2, .int x30), (0, .ref ap0), (1, .int xp1)]) hx hb dX12_four_30 hl (k := 2) rfl (by rw [ex30]; rfl) (by decide) rfl (fun ls hl => ?_)
        refine lv_goto (tgt := 3) hx hb dX12_four_33 (by decide) ?_
        exact ih3 x30 x26 (mu_dn 8 hmu3 (qx30) (by decide) (show iv x30 (-10) 24 from (bx30.mono (by decide) (by decide))).1) (bx30.mono (by decide) (by decide)) (bx26.mono (by decide) (by decide)) (show 8 * x26.toInt + x30.toInt = 8 * xp100.toInt + 24 from by have := (bx26).1; have := (bx26).2; have := (bx30).1; have := (bx30).2; have := (r4fq).1; have := (r4fq).2; have := (w4).1; have := (w4).2; have := (Int32.le_iff_toInt_le.mp (iv_nlt c4)); have : ((-8) : Int32).toInt = (-8) := (by decide); have : (0 : Int32).toInt = 0 := (by decide); have : (1 : Int32).toInt = 1 := (by decide); omega) H27 locs27 hw hkm f27n _ (lv_sub hl [1, 2, 0] rfl)
  exact J3 _ (24 : Int32) xp100 (Nat.lt_succ_self _) (show iv 24 (-10) 24 from ⟨by decide, by decide⟩) (bp100.mono (by decide) (by decide)) (show 8 * xp100.toInt + 24 = 8 * xp100.toInt + 24 from by have := (bp100).1; have := (bp100).2; omega) s.heap [] hw hkm hB _ (lv_sub hl [1, 2, 0] rfl)
abbrev WX12_four_2 (p : Program) (l : Launch) (e : Env) (s : State) (m : MethodId) (below : List Frame) (meth : Method) (c : Code) (D : hp_D) (T : hp_T) (ap0 : Nat) (xp1 : Int32) (xp100 : Int32) (H : Heap) (locs : List Loc) (g : JFrame) : Prop := W p l e (headSpec wsX12_four ({ frames := 0, cells := 0, slots := 0, locals := 0 })).room s m ([.ref ap0, .int xp1] : List Value).toArray below meth c H locs 0 0 (MQ below (hq_e D T (fun v st t => v = none ∧ ((True) ∧ hp_km D [(12, 1)] st.heap t.heap ∧ ∃ y : Int32, hp_f D t.heap ap0 12 1 (.int y) ∧ iv y 0 392))) ([.ref ap0, .int xp1] : List Value).toArray s 0 0 (hp_F T)) g
set_option maxHeartbeats 4000000 in
set_option maxRecDepth 100000 in
theorem sX12_four_2 (l : Launch) (D : hp_D) (T : hp_T) (ap0 : Nat) (xp1 : Int32) (xp100 : Int32) (Gm : moG) (ip0 : isMo T ap0 Gm) (bp100 : iv xp100 0 388) : Met l yX12_four wsX12_four ({ frames := 0, cells := 0, slots := 0, locals := 0 }) (hp_Pc D T [.ref ap0, .int xp1] (fun H => hp_f D H ap0 12 1 (.int xp100))) (hq_e D T (fun v st t => v = none ∧ ((True) ∧ hp_km D [(12, 1)] st.heap t.heap ∧ ∃ y : Int32, hp_f D t.heap ap0 12 1 (.int y) ∧ iv y 0 392))) 0 0 (hp_F T) := by
  obtain ⟨ap0tape, ap0sign, ap0len, ap0clause, ap0clauses, ap0read, ap0opn, ap0stack, ap0word, ap0said, ap0was, ap0fitting, ap0sums, ap0sort, ap0sumsBy, ap0oneOf, ap0otherOf, ap0kept, ap0images, ap0acts, ap0iUnd, ap0iFor, ap0iX, ap0made, gok, hp0, hp0tape, hp0sign, hp0len, hp0clause, hp0clauses, hp0read, hp0opn, hp0stack, hp0word, hp0said, hp0was, hp0fitting, hp0sums, hp0sort, hp0sumsBy, hp0oneOf, hp0otherOf, hp0kept, hp0images, hp0acts, hp0iUnd, hp0iFor, hp0iX, hp0made⟩ := id ip0
  have hpx := gok.1
  have gsok := gok.2.2.2.2
  have ggd := gok.2.2.2.1
  refine Met.ofW (cc := cX12_four) (maxL := 3) (ret := none) (by decide) rfl ?_
  intro p e s m args below meth c s₁ B hml hv
  obtain ⟨rfl, hok, hG, hB⟩ := hv
  have hx := B.exec
  have hb := B.bytes
  have hr := B.returns
  have hts := atoms_spec (ws := wsX12_four) B.pre
  have hown : s.vm.findClass RX12 = some m.cls := findClass_of_methodNamed B.named
  have hlocks := B.notSynchronized
  have hK := hG.1
  have hw : hp_w D T s s.heap [] := hp_w.rf hok
  have IX12 : ∀ w ∈ wsX120, w ∈ wsX12_four := by decide +kernel
  have L7 := hts (.fieldLink RX12 7 "PalmCensusModel" "tape" "[B") (by decide +kernel)
  have L89 := hts (.fieldLink RX12 89 "PalmCensusModel" "taped" "I") (by decide +kernel)
  have hkm : hp_km D [(12, 1)] s.heap s.heap := fun _ _ _ _ h _ => h
  have hl := lv_entry ([.ref ap0, .int xp1]) (n := 3) (Nat.le_of_ble_eq_true rfl)
  rw [lg_entry_eq]
  generalize (lg_sl ([.ref ap0, .int xp1]) ++ List.replicate (3 - (lg_sl ([.ref ap0, .int xp1])).length) Slot.unset).toArray = ls at hl ⊢
  have hl : lv_has ls 3 [(0, .ref ap0), (1, .int xp1)] := hl
  show WX12_four_2 p l e s m below meth c D T ap0 xp1 xp100 s.heap [] (F0 m 0 ls [])
  refine lv_bipush (v := 24) hx hb dX12_four_0 (by decide) ?_
  refine lv_istore_n (lv' := [(2, .int 24), (0, .ref ap0), (1, .int xp1)]) hx hb dX12_four_2 rfl hl (by decide) rfl (fun ls hl => ?_)
  have J3 : ∀ (n : Nat) (y3_l2 y3_fp0_1 : Int32), (y3_l2.toInt - (-10)).toNat < n → iv y3_l2 (-10) 24 → iv y3_fp0_1 0 392 → 8 * y3_fp0_1.toInt + y3_l2.toInt = 8 * xp100.toInt + 24 → ∀ (H : Heap) (locs : List Loc), hp_w D T s H locs → hp_km D [(12, 1)] s.heap H → hp_f D H ap0 12 1 (.int y3_fp0_1) → ∀ (ls : Array Slot), lv_has ls 3 [(0, .ref ap0), (1, .int xp1), (2, .int y3_l2)] → WX12_four_2 p l e s m below meth c D T ap0 xp1 xp100 H locs (F0 m 3 ls []) := by
    intro n
    induction n with
    | zero => intro y3_l2 y3_fp0_1 hmu3 c3_y3_l2 c3_y3_fp0_1 hv3_0 H3 locs3 hw hkm f_p0_1 ls hl; exact absurd hmu3 (Nat.not_lt_zero _)
    | succ n ih3 =>
      intro y3_l2 y3_fp0_1 hmu3 c3_y3_l2 c3_y3_fp0_1 hv3_0 H3 locs3 hw hkm f_p0_1 ls hl
      refine lv_iload_n hx hb dX12_four_3 rfl (lv_at hl 2 rfl) ?_
      refine lv_if_lt (tgt := 36) hx hb dX12_four_4 (by decide) (fun c4 => ?_) (fun c4 => ?_)
      · have r4tp : iv y3_l2 (-10) (-1) := (iv_lt_l c4 c3_y3_l2 (show iv 0 0 0 from ⟨by decide, by decide⟩)).mono (by decide) (by decide)
        have w5 : iv y3_fp0_1 0 392 := ⟨c3_y3_fp0_1.1, by have := (bp100).2; have := (c3_y3_fp0_1).1; have := (c3_y3_fp0_1).2; have := (r4tp).1; have := (r4tp).2; have := (Int32.lt_iff_toInt_lt.mp c4); have : (0 : Int32).toInt = 0 := (by decide); omega⟩
        exact W.vret hx hb hr (fun t ht hW => ⟨none, rfl, ⟨rfl, ⟨trivial, by rw [ht]; exact hkm, y3_fp0_1, by rw [ht]; exact f_p0_1, w5⟩⟩, by rw [ht]; exact hw.1, hw.2.F ht⟩) hw.2.2.2 dX12_four_36
      · have r4fq : iv y3_l2 0 24 := (iv_le_r (iv_nlt c4) (show iv 0 0 0 from ⟨by decide, by decide⟩) c3_y3_l2).mono (by decide) (by decide)
        have w4 : iv y3_fp0_1 0 391 := ⟨c3_y3_fp0_1.1, by have := (bp100).2; have := (c3_y3_fp0_1).1; have := (c3_y3_fp0_1).2; have := (r4fq).1; have := (r4fq).2; have := (Int32.le_iff_toInt_le.mp (iv_nlt c4)); have : (0 : Int32).toInt = 0 := (by decide); omega⟩
        refine lv_aload_n hx hb dX12_four_7 rfl (lv_at hl 0 rfl) ?_
        refine hp_getr hx hb hts IX12 hown hK hw.1 hp0 rfl 0 (by decide) L7 rfl dX12_four_8 ?_
        refine lv_aload_n hx hb dX12_four_11 rfl (lv_at hl 0 rfl) ?_
        refine hp_getf hx hb hts IX12 hown hK f_p0_1 rfl (by decide) L89 dX12_four_12 ?_
        refine lv_iload_n hx hb dX12_four_15 rfl (lv_at hl 1 rfl) ?_
        refine lv_iload_n hx hb dX12_four_16 rfl (lv_at hl 2 rfl) ?_
        refine lv_ishr hx hb dX12_four_17 ?_
        refine lv_topi (fun x17 ex17 => ?_)
        obtain ⟨x18, ex18⟩ : ∃ y : Int32, x17.toInt8.toInt32 = y := ⟨_, rfl⟩
        refine lv_i2b (v := x18) hx hb dX12_four_18 ex18 ?_
        refine hp_bastA hx hb hK hw hp0tape (vp_iv w4 (by decide)) dX12_four_19 (fun H19 locs19 hw g19 => ?_)
        have hkm := hkm.ar g19
        have f_p0_1 := g19 _ _ _ _ f_p0_1
        refine lv_aload_n hx hb dX12_four_20 rfl (lv_at hl 0 rfl) ?_
        refine lv_dup hx hb dX12_four_21 rfl ?_
        refine hp_getf hx hb hts IX12 hown hK f_p0_1 rfl (by decide) L89 dX12_four_22 ?_
        refine lv_iconst (v := 1) hx hb dX12_four_25 (by decide) ?_
        refine lv_iadd hx hb dX12_four_26 ?_
        refine lv_topi (fun x26 ex26 => ?_)
        have bx26 : iv x26 1 392 := iv_add w4 (show iv 1 1 1 from ⟨by decide, by decide⟩) ex26 (by decide)
        have qx26 := iv_add_eq w4 (show iv 1 1 1 from ⟨by decide, by decide⟩) ex26 (by decide)
        refine hp_put hx hb hts IX12 tyX12 tyX12_ok nmX12 hown hK hw hp0 rfl 1 (by decide) L89 rfl rfl ⟨_, rfl, (bx26.mono (by decide) (by decide))⟩ rfl rfl dX12_four_27 (fun H27 locs27 hw f27n g27 => ?_)
        have hkm := hkm.put g27 (by decide)
        obtain ⟨x30, ex30⟩ : ∃ y : Int32, y = y3_l2 + (-8) := ⟨_, rfl⟩
        have bx30 : iv x30 (-8) 16 := iv_add r4fq (show iv (-8) (-8) (-8) from ⟨by decide, by decide⟩) ex30 (by decide)
        have qx30 := iv_add_eq r4fq (show iv (-8) (-8) (-8) from ⟨by decide, by decide⟩) ex30 (by decide)
        refine lv_iinc (v := x30) (lv' := [(2, .int x30), (0, .ref ap0), (1, .int xp1)]) hx hb dX12_four_30 hl (k := 2) rfl (by rw [ex30]; rfl) (by decide) rfl (fun ls hl => ?_)
        refine lv_goto (tgt := 3) hx hb dX12_four_33 (by decide) ?_
        exact ih3 x30 x26 (mu_dn 8 hmu3 (qx30) (by decide) (show iv x30 (-10) 24 from (bx30.mono (by decide) (by decide))).1) (bx30.mono (by decide) (by decide)) (bx26.mono (by decide) (by decide)) (show 8 * x26.toInt + x30.toInt = 8 * xp100.toInt + 24 from by have := (bx26).1; have := (bx26).2; have := (bx30).1; have := (bx30).2; have := (r4fq).1; have := (r4fq).2; have := (w4).1; have := (w4).2; have := (Int32.le_iff_toInt_le.mp (iv_nlt c4)); have : ((-8) : Int32).toInt = (-8) := (by decide); have : (0 : Int32).toInt = 0 := (by decide); have : (1 : Int32).toInt = 1 := (by decide); omega) H27 locs27 hw hkm f27n _ (lv_sub hl [1, 2, 0] rfl)
  exact J3 _ (24 : Int32) xp100 (Nat.lt_succ_self _) (show iv 24 (-10) 24 from ⟨by decide, by decide⟩) (bp100.mono (by decide) (by decide)) (show 8 * xp100.toInt + 24 = 8 * xp100.toInt + 24 from by have := (bp100).1; have := (bp100).2; omega) s.heap [] hw hkm hB _ (lv_sub hl [1, 2, 0] rfl)
abbrev WX12_four_3 (p : Program) (l : Launch) (e : Env) (s : State) (m : MethodId) (below : List Frame) (meth : Method) (c : Code) (D : hp_D) (T : hp_T) (ap0 : Nat) (xp1 : Int32) (xp100 : Int32) (H : Heap) (locs : List Loc) (g : JFrame) : Prop := W p l e (headSpec wsX12_four ({ frames := 0, cells := 0, slots := 0, locals := 0 })).room s m ([.ref ap0, .int xp1] : List Value).toArray below meth c H locs 0 0 (MQ below (hq_e D T (fun v st t => v = none ∧ ((True) ∧ hp_km D [(12, 1)] st.heap t.heap ∧ ∃ y : Int32, hp_f D t.heap ap0 12 1 (.int y) ∧ iv y 0 396))) ([.ref ap0, .int xp1] : List Value).toArray s 0 0 (hp_F T)) g
set_option maxHeartbeats 4000000 in
set_option maxRecDepth 100000 in
theorem sX12_four_3 (l : Launch) (D : hp_D) (T : hp_T) (ap0 : Nat) (xp1 : Int32) (xp100 : Int32) (Gm : moG) (ip0 : isMo T ap0 Gm) (bp100 : iv xp100 0 392) : Met l yX12_four wsX12_four ({ frames := 0, cells := 0, slots := 0, locals := 0 }) (hp_Pc D T [.ref ap0, .int xp1] (fun H => hp_f D H ap0 12 1 (.int xp100))) (hq_e D T (fun v st t => v = none ∧ ((True) ∧ hp_km D [(12, 1)] st.heap t.heap ∧ ∃ y : Int32, hp_f D t.heap ap0 12 1 (.int y) ∧ iv y 0 396))) 0 0 (hp_F T) := by
  obtain ⟨ap0tape, ap0sign, ap0len, ap0clause, ap0clauses, ap0read, ap0opn, ap0stack, ap0word, ap0said, ap0was, ap0fitting, ap0sums, ap0sort, ap0sumsBy, ap0oneOf, ap0otherOf, ap0kept, ap0images, ap0acts, ap0iUnd, ap0iFor, ap0iX, ap0made, gok, hp0, hp0tape, hp0sign, hp0len, hp0clause, hp0clauses, hp0read, hp0opn, hp0stack, hp0word, hp0said, hp0was, hp0fitting, hp0sums, hp0sort, hp0sumsBy, hp0oneOf, hp0otherOf, hp0kept, hp0images, hp0acts, hp0iUnd, hp0iFor, hp0iX, hp0made⟩ := id ip0
  have hpx := gok.1
  have gsok := gok.2.2.2.2
  have ggd := gok.2.2.2.1
  refine Met.ofW (cc := cX12_four) (maxL := 3) (ret := none) (by decide) rfl ?_
  intro p e s m args below meth c s₁ B hml hv
  obtain ⟨rfl, hok, hG, hB⟩ := hv
  have hx := B.exec
  have hb := B.bytes
  have hr := B.returns
  have hts := atoms_spec (ws := wsX12_four) B.pre
  have hown : s.vm.findClass RX12 = some m.cls := findClass_of_methodNamed B.named
  have hlocks := B.notSynchronized
  have hK := hG.1
  have hw : hp_w D T s s.heap [] := hp_w.rf hok
  have IX12 : ∀ w ∈ wsX120, w ∈ wsX12_four := by decide +kernel
  have L7 := hts (.fieldLink RX12 7 "PalmCensusModel" "tape" "[B") (by decide +kernel)
  have L89 := hts (.fieldLink RX12 89 "PalmCensusModel" "taped" "I") (by decide +kernel)
  have hkm : hp_km D [(12, 1)] s.heap s.heap := fun _ _ _ _ h _ => h
  have hl := lv_entry ([.ref ap0, .int xp1]) (n := 3) (Nat.le_of_ble_eq_true rfl)
  rw [lg_entry_eq]
  generalize (lg_sl ([.ref ap0, .int xp1]) ++ List.replicate (3 - (lg_sl ([.ref ap0, .int xp1])).length) Slot.unset).toArray = ls at hl ⊢
  have hl : lv_has ls 3 [(0, .ref ap0), (1, .int xp1)] := hl
  show WX12_four_3 p l e s m below meth c D T ap0 xp1 xp100 s.heap [] (F0 m 0 ls [])
  refine lv_bipush (v := 24) hx hb dX12_four_0 (by decide) ?_
  refine lv_istore_n (lv' := [(2, .int 24), (0, .ref ap0), (1, .int xp1)]) hx hb dX12_four_2 rfl hl (by decide) rfl (fun ls hl => ?_)
  have J3 : ∀ (n : Nat) (y3_l2 y3_fp0_1 : Int32), (y3_l2.toInt - (-10)).toNat < n → iv y3_l2 (-10) 24 → iv y3_fp0_1 0 396 → 8 * y3_fp0_1.toInt + y3_l2.toInt = 8 * xp100.toInt + 24 → ∀ (H : Heap) (locs : List Loc), hp_w D T s H locs → hp_km D [(12, 1)] s.heap H → hp_f D H ap0 12 1 (.int y3_fp0_1) → ∀ (ls : Array Slot), lv_has ls 3 [(0, .ref ap0), (1, .int xp1), (2, .int y3_l2)] → WX12_four_3 p l e s m below meth c D T ap0 xp1 xp100 H locs (F0 m 3 ls []) := by
    intro n
    induction n with
    | zero => intro y3_l2 y3_fp0_1 hmu3 c3_y3_l2 c3_y3_fp0_1 hv3_0 H3 locs3 hw hkm f_p0_1 ls hl; exact absurd hmu3 (Nat.not_lt_zero _)
    | succ n ih3 =>
      intro y3_l2 y3_fp0_1 hmu3 c3_y3_l2 c3_y3_fp0_1 hv3_0 H3 locs3 hw hkm f_p0_1 ls hl
      refine lv_iload_n hx hb dX12_four_3 rfl (lv_at hl 2 rfl) ?_
      refine lv_if_lt (tgt := 36) hx hb dX12_four_4 (by decide) (fun c4 => ?_) (fun c4 => ?_)
      · have r4tp : iv y3_l2 (-10) (-1) := (iv_lt_l c4 c3_y3_l2 (show iv 0 0 0 from ⟨by decide, by decide⟩)).mono (by decide) (by decide)
        have w5 : iv y3_fp0_1 0 396 := ⟨c3_y3_fp0_1.1, by have := (bp100).2; have := (c3_y3_fp0_1).1; have := (c3_y3_fp0_1).2; have := (r4tp).1; have := (r4tp).2; have := (Int32.lt_iff_toInt_lt.mp c4); have : (0 : Int32).toInt = 0 := (by decide); omega⟩
        exact W.vret hx hb hr (fun t ht hW => ⟨none, rfl, ⟨rfl, ⟨trivial, by rw [ht]; exact hkm, y3_fp0_1, by rw [ht]; exact f_p0_1, w5⟩⟩, by rw [ht]; exact hw.1, hw.2.F ht⟩) hw.2.2.2 dX12_four_36
      · have r4fq : iv y3_l2 0 24 := (iv_le_r (iv_nlt c4) (show iv 0 0 0 from ⟨by decide, by decide⟩) c3_y3_l2).mono (by decide) (by decide)
        have w4 : iv y3_fp0_1 0 395 := ⟨c3_y3_fp0_1.1, by have := (bp100).2; have := (c3_y3_fp0_1).1; have := (c3_y3_fp0_1).2; have := (r4fq).1; have := (r4fq).2; have := (Int32.le_iff_toInt_le.mp (iv_nlt c4)); have : (0 : Int32).toInt = 0 := (by decide); omega⟩
        refine lv_aload_n hx hb dX12_four_7 rfl (lv_at hl 0 rfl) ?_
        refine hp_getr hx hb hts IX12 hown hK hw.1 hp0 rfl 0 (by decide) L7 rfl dX12_four_8 ?_
        refine lv_aload_n hx hb dX12_four_11 rfl (lv_at hl 0 rfl) ?_
        refine hp_getf hx hb hts IX12 hown hK f_p0_1 rfl (by decide) L89 dX12_four_12 ?_
        refine lv_iload_n hx hb dX12_four_15 rfl (lv_at hl 1 rfl) ?_
        refine lv_iload_n hx hb dX12_four_16 rfl (lv_at hl 2 rfl) ?_
        refine lv_ishr hx hb dX12_four_17 ?_
        refine lv_topi (fun x17 ex17 => ?_)
        obtain ⟨x18, ex18⟩ : ∃ y : Int32, x17.toInt8.toInt32 = y := ⟨_, rfl⟩
        refine lv_i2b (v := x18) hx hb dX12_four_18 ex18 ?_
        refine hp_bastA hx hb hK hw hp0tape (vp_iv w4 (by decide)) dX12_four_19 (fun H19 locs19 hw g19 => ?_)
        have hkm := hkm.ar g19
        have f_p0_1 := g19 _ _ _ _ f_p0_1
        refine lv_aload_n hx hb dX12_four_20 rfl (lv_at hl 0 rfl) ?_
        refine lv_dup hx hb dX12_four_21 rfl ?_
        refine hp_getf hx hb hts IX12 hown hK f_p0_1 rfl (by decide) L89 dX12_four_22 ?_
        refine lv_iconst (v := 1) hx hb dX12_four_25 (by decide) ?_
        refine lv_iadd hx hb dX12_four_26 ?_
        refine lv_topi (fun x26 ex26 => ?_)
        have bx26 : iv x26 1 396 := iv_add w4 (show iv 1 1 1 from ⟨by decide, by decide⟩) ex26 (by decide)
        have qx26 := iv_add_eq w4 (show iv 1 1 1 from ⟨by decide, by decide⟩) ex26 (by decide)
        refine hp_put hx hb hts IX12 tyX12 tyX12_ok nmX12 hown hK hw hp0 rfl 1 (by decide) L89 rfl rfl ⟨_, rfl, (bx26.mono (by decide) (by decide))⟩ rfl rfl dX12_four_27 (fun H27 locs27 hw f27n g27 => ?_)
        have hkm := hkm.put g27 (by decide)
        obtain ⟨x30, ex30⟩ : ∃ y : Int32, y = y3_l2 + (-8) := ⟨_, rfl⟩
        have bx30 : iv x30 (-8) 16 := iv_add r4fq (show iv (-8) (-8) (-8) from ⟨by decide, by decide⟩) ex30 (by decide)
        have qx30 := iv_add_eq r4fq (show iv (-8) (-8) (-8) from ⟨by decide, by decide⟩) ex30 (by decide)
        refine lv_iinc (v := x30) (lv' := [(2, .int x30), (0, .ref ap0), (1, .int xp1)]) hx hb dX12_four_30 hl (k := 2) rfl (by rw [ex30]; rfl) (by decide) rfl (fun ls hl => ?_)
        refine lv_goto (tgt := 3) hx hb dX12_four_33 (by decide) ?_
        exact ih3 x30 x26 (mu_dn 8 hmu3 (qx30) (by decide) (show iv x30 (-10) 24 from (bx30.mono (by decide) (by decide))).1) (bx30.mono (by decide) (by decide)) (bx26.mono (by decide) (by decide)) (show 8 * x26.toInt + x30.toInt = 8 * xp100.toInt + 24 from by have := (bx26).1; have := (bx26).2; have := (bx30).1; have := (bx30).2; have := (r4fq).1; have := (r4fq).2; have := (w4).1; have := (w4).2; have := (Int32.le_iff_toInt_le.mp (iv_nlt c4)); have : ((-8) : Int32).toInt = (-8) := (by decide); have : (0 : Int32).toInt = 0 := (by decide); have : (1 : Int32).toInt = 1 := (by decide); omega) H27 locs27 hw hkm f27n _ (lv_sub hl [1, 2, 0] rfl)
  exact J3 _ (24 : Int32) xp100 (Nat.lt_succ_self _) (show iv 24 (-10) 24 from ⟨by decide, by decide⟩) (bp100.mono (by decide) (by decide)) (show 8 * xp100.toInt + 24 = 8 * xp100.toInt + 24 from by have := (bp100).1; have := (bp100).2; omega) s.heap [] hw hkm hB _ (lv_sub hl [1, 2, 0] rfl)
abbrev WX12_four_4 (p : Program) (l : Launch) (e : Env) (s : State) (m : MethodId) (below : List Frame) (meth : Method) (c : Code) (D : hp_D) (T : hp_T) (ap0 : Nat) (xp1 : Int32) (xp100 : Int32) (H : Heap) (locs : List Loc) (g : JFrame) : Prop := W p l e (headSpec wsX12_four ({ frames := 0, cells := 0, slots := 0, locals := 0 })).room s m ([.ref ap0, .int xp1] : List Value).toArray below meth c H locs 0 0 (MQ below (hq_e D T (fun v st t => v = none ∧ ((True) ∧ hp_km D [(12, 1)] st.heap t.heap ∧ ∃ y : Int32, hp_f D t.heap ap0 12 1 (.int y) ∧ iv y 0 400))) ([.ref ap0, .int xp1] : List Value).toArray s 0 0 (hp_F T)) g
set_option maxHeartbeats 4000000 in
set_option maxRecDepth 100000 in
theorem sX12_four_4 (l : Launch) (D : hp_D) (T : hp_T) (ap0 : Nat) (xp1 : Int32) (xp100 : Int32) (Gm : moG) (ip0 : isMo T ap0 Gm) (bp100 : iv xp100 0 396) : Met l yX12_four wsX12_four ({ frames := 0, cells := 0, slots := 0, locals := 0 }) (hp_Pc D T [.ref ap0, .int xp1] (fun H => hp_f D H ap0 12 1 (.int xp100))) (hq_e D T (fun v st t => v = none ∧ ((True) ∧ hp_km D [(12, 1)] st.heap t.heap ∧ ∃ y : Int32, hp_f D t.heap ap0 12 1 (.int y) ∧ iv y 0 400))) 0 0 (hp_F T) := by
  obtain ⟨ap0tape, ap0sign, ap0len, ap0clause, ap0clauses, ap0read, ap0opn, ap0stack, ap0word, ap0said, ap0was, ap0fitting, ap0sums, ap0sort, ap0sumsBy, ap0oneOf, ap0otherOf, ap0kept, ap0images, ap0acts, ap0iUnd, ap0iFor, ap0iX, ap0made, gok, hp0, hp0tape, hp0sign, hp0len, hp0clause, hp0clauses, hp0read, hp0opn, hp0stack, hp0word, hp0said, hp0was, hp0fitting, hp0sums, hp0sort, hp0sumsBy, hp0oneOf, hp0otherOf, hp0kept, hp0images, hp0acts, hp0iUnd, hp0iFor, hp0iX, hp0made⟩ := id ip0
  have hpx := gok.1
  have gsok := gok.2.2.2.2
  have ggd := gok.2.2.2.1
  refine Met.ofW (cc := cX12_four) (maxL := 3) (ret := none) (by decide) rfl ?_
  intro p e s m args below meth c s₁ B hml hv
  obtain ⟨rfl, hok, hG, hB⟩ := hv
  have hx := B.exec
  have hb := B.bytes
  have hr := B.returns
  have hts := atoms_spec (ws := wsX12_four) B.pre
  have hown : s.vm.findClass RX12 = some m.cls := findClass_of_methodNamed B.named
  have hlocks := B.notSynchronized
  have hK := hG.1
  have hw : hp_w D T s s.heap [] := hp_w.rf hok
  have IX12 : ∀ w ∈ wsX120, w ∈ wsX12_four := by decide +kernel
  have L7 := hts (.fieldLink RX12 7 "PalmCensusModel" "tape" "[B") (by decide +kernel)
  have L89 := hts (.fieldLink RX12 89 "PalmCensusModel" "taped" "I") (by decide +kernel)
  have hkm : hp_km D [(12, 1)] s.heap s.heap := fun _ _ _ _ h _ => h
  have hl := lv_entry ([.ref ap0, .int xp1]) (n := 3) (Nat.le_of_ble_eq_true rfl)
  rw [lg_entry_eq]
  generalize (lg_sl ([.ref ap0, .int xp1]) ++ List.replicate (3 - (lg_sl ([.ref ap0, .int xp1])).length) Slot.unset).toArray = ls at hl ⊢
  have hl : lv_has ls 3 [(0, .ref ap0), (1, .int xp1)] := hl
  show WX12_four_4 p l e s m below meth c D T ap0 xp1 xp100 s.heap [] (F0 m 0 ls [])
  refine lv_bipush (v := 24) hx hb dX12_four_0 (by decide) ?_
  refine lv_istore_n (lv' := [(2, .int 24), (0, .ref ap0), (1, .int xp1)]) hx hb dX12_four_2 rfl hl (by decide) rfl (fun ls hl => ?_)
  have J3 : ∀ (n : Nat) (y3_l2 y3_fp0_1 : Int32), (y3_l2.toInt - (-10)).toNat < n → iv y3_l2 (-10) 24 → iv y3_fp0_1 0 400 → 8 * y3_fp0_1.toInt + y3_l2.toInt = 8 * xp100.toInt + 24 → ∀ (H : Heap) (locs : List Loc), hp_w D T s H locs → hp_km D [(12, 1)] s.heap H → hp_f D H ap0 12 1 (.int y3_fp0_1) → ∀ (ls : Array Slot), lv_has ls 3 [(0, .ref ap0), (1, .int xp1), (2, .int y3_l2)] → WX12_four_4 p l e s m below meth c D T ap0 xp1 xp100 H locs (F0 m 3 ls []) := by
    intro n
    induction n with
    | zero => intro y3_l2 y3_fp0_1 hmu3 c3_y3_l2 c3_y3_fp0_1 hv3_0 H3 locs3 hw hkm f_p0_1 ls hl; exact absurd hmu3 (Nat.not_lt_zero _)
    | succ n ih3 =>
      intro y3_l2 y3_fp0_1 hmu3 c3_y3_l2 c3_y3_fp0_1 hv3_0 H3 locs3 hw hkm f_p0_1 ls hl
      refine lv_iload_n hx hb dX12_four_3 rfl (lv_at hl 2 rfl) ?_
      refine lv_if_lt (tgt := 36) hx hb dX12_four_4 (by decide) (fun c4 => ?_) (fun c4 => ?_)
      · have r4tp : iv y3_l2 (-10) (-1) := (iv_lt_l c4 c3_y3_l2 (show iv 0 0 0 from ⟨by decide, by decide⟩)).mono (by decide) (by decide)
        have w5 : iv y3_fp0_1 0 400 := ⟨c3_y3_fp0_1.1, by have := (bp100).2; have := (c3_y3_fp0_1).1; have := (c3_y3_fp0_1).2; have := (r4tp).1; have := (r4tp).2; have := (Int32.lt_iff_toInt_lt.mp c4); have : (0 : Int32).toInt = 0 := (by decide); omega⟩
        exact W.vret hx hb hr (fun t ht hW => ⟨none, rfl, ⟨rfl, ⟨trivial, by rw [ht]; exact hkm, y3_fp0_1, by rw [ht]; exact f_p0_1, w5⟩⟩, by rw [ht]; exact hw.1, hw.2.F ht⟩) hw.2.2.2 dX12_four_36
      · have r4fq : iv y3_l2 0 24 := (iv_le_r (iv_nlt c4) (show iv 0 0 0 from ⟨by decide, by decide⟩) c3_y3_l2).mono (by decide) (by decide)
        have w4 : iv y3_fp0_1 0 399 := ⟨c3_y3_fp0_1.1, by have := (bp100).2; have := (c3_y3_fp0_1).1; have := (c3_y3_fp0_1).2; have := (r4fq).1; have := (r4fq).2; have := (Int32.le_iff_toInt_le.mp (iv_nlt c4)); have : (0 : Int32).toInt = 0 := (by decide); omega⟩
        refine lv_aload_n hx hb dX12_four_7 rfl (lv_at hl 0 rfl) ?_
        refine hp_getr hx hb hts IX12 hown hK hw.1 hp0 rfl 0 (by decide) L7 rfl dX12_four_8 ?_
        refine lv_aload_n hx hb dX12_four_11 rfl (lv_at hl 0 rfl) ?_
        refine hp_getf hx hb hts IX12 hown hK f_p0_1 rfl (by decide) L89 dX12_four_12 ?_
        refine lv_iload_n hx hb dX12_four_15 rfl (lv_at hl 1 rfl) ?_
        refine lv_iload_n hx hb dX12_four_16 rfl (lv_at hl 2 rfl) ?_
        refine lv_ishr hx hb dX12_four_17 ?_
        refine lv_topi (fun x17 ex17 => ?_)
        obtain ⟨x18, ex18⟩ : ∃ y : Int32, x17.toInt8.toInt32 = y := ⟨_, rfl⟩
        refine lv_i2b (v := x18) hx hb dX12_four_18 ex18 ?_
        refine hp_bastA hx hb hK hw hp0tape (vp_iv w4 (by decide)) dX12_four_19 (fun H19 locs19 hw g19 => ?_)
        have hkm := hkm.ar g19
        have f_p0_1 := g19 _ _ _ _ f_p0_1
        refine lv_aload_n hx hb dX12_four_20 rfl (lv_at hl 0 rfl) ?_
        refine lv_dup hx hb dX12_four_21 rfl ?_
        refine hp_getf hx hb hts IX12 hown hK f_p0_1 rfl (by decide) L89 dX12_four_22 ?_
        refine lv_iconst (v := 1) hx hb dX12_four_25 (by decide) ?_
        refine lv_iadd hx hb dX12_four_26 ?_
        refine lv_topi (fun x26 ex26 => ?_)
        have bx26 : iv x26 1 400 := iv_add w4 (show iv 1 1 1 from ⟨by decide, by decide⟩) ex26 (by decide)
        have qx26 := iv_add_eq w4 (show iv 1 1 1 from ⟨by decide, by decide⟩) ex26 (by decide)
        refine hp_put hx hb hts IX12 tyX12 tyX12_ok nmX12 hown hK hw hp0 rfl 1 (by decide) L89 rfl rfl ⟨_, rfl, (bx26.mono (by decide) (by decide))⟩ rfl rfl dX12_four_27 (fun H27 locs27 hw f27n g27 => ?_)
        have hkm := hkm.put g27 (by decide)
        obtain ⟨x30, ex30⟩ : ∃ y : Int32, y = y3_l2 + (-8) := ⟨_, rfl⟩
        have bx30 : iv x30 (-8) 16 := iv_add r4fq (show iv (-8) (-8) (-8) from ⟨by decide, by decide⟩) ex30 (by decide)
        have qx30 := iv_add_eq r4fq (show iv (-8) (-8) (-8) from ⟨by decide, by decide⟩) ex30 (by decide)
        refine lv_iinc (v := x30) (lv' := [(2, .int x30), (0, .ref ap0), (1, .int xp1)]) hx hb dX12_four_30 hl (k := 2) rfl (by rw [ex30]; rfl) (by decide) rfl (fun ls hl => ?_)
        refine lv_goto (tgt := 3) hx hb dX12_four_33 (by decide) ?_
        exact ih3 x30 x26 (mu_dn 8 hmu3 (qx30) (by decide) (show iv x30 (-10) 24 from (bx30.mono (by decide) (by decide))).1) (bx30.mono (by decide) (by decide)) (bx26.mono (by decide) (by decide)) (show 8 * x26.toInt + x30.toInt = 8 * xp100.toInt + 24 from by have := (bx26).1; have := (bx26).2; have := (bx30).1; have := (bx30).2; have := (r4fq).1; have := (r4fq).2; have := (w4).1; have := (w4).2; have := (Int32.le_iff_toInt_le.mp (iv_nlt c4)); have : ((-8) : Int32).toInt = (-8) := (by decide); have : (0 : Int32).toInt = 0 := (by decide); have : (1 : Int32).toInt = 1 := (by decide); omega) H27 locs27 hw hkm f27n _ (lv_sub hl [1, 2, 0] rfl)
  exact J3 _ (24 : Int32) xp100 (Nat.lt_succ_self _) (show iv 24 (-10) 24 from ⟨by decide, by decide⟩) (bp100.mono (by decide) (by decide)) (show 8 * xp100.toInt + 24 = 8 * xp100.toInt + 24 from by have := (bp100).1; have := (bp100).2; omega) s.heap [] hw hkm hB _ (lv_sub hl [1, 2, 0] rfl)
abbrev WX12_isTown (p : Program) (l : Launch) (e : Env) (s : State) (m : MethodId) (below : List Frame) (meth : Method) (c : Code) (D : hp_D) (T : hp_T) (ap0 : Nat) (H : Heap) (locs : List Loc) (g : JFrame) : Prop := W p l e (headSpec wsX12_isTown ({ frames := 0, cells := 0, slots := 0, locals := 0 })).room s m ([.ref ap0] : List Value).toArray below meth c H locs 0 0 (MQ below (hq_p (fun v => ∃ r : Int32, v = some (.int r) ∧ iv r 0 1)) ([.ref ap0] : List Value).toArray s 0 0 (fun _ => False)) g
set_option maxHeartbeats 4000000 in
set_option maxRecDepth 100000 in
theorem sX12_isTown (l : Launch) (D : hp_D) (T : hp_T) (ap0 : Nat) (Gm : moG) (ip0 : isMo T ap0 Gm) : Met l yX12_isTown wsX12_isTown ({ frames := 0, cells := 0, slots := 0, locals := 0 }) (hp_Pc D T [.ref ap0] (fun _ => True)) (hq_p (fun v => ∃ r : Int32, v = some (.int r) ∧ iv r 0 1)) 0 0 (fun _ => False) := by
  obtain ⟨ap0tape, ap0sign, ap0len, ap0clause, ap0clauses, ap0read, ap0opn, ap0stack, ap0word, ap0said, ap0was, ap0fitting, ap0sums, ap0sort, ap0sumsBy, ap0oneOf, ap0otherOf, ap0kept, ap0images, ap0acts, ap0iUnd, ap0iFor, ap0iX, ap0made, gok, hp0, hp0tape, hp0sign, hp0len, hp0clause, hp0clauses, hp0read, hp0opn, hp0stack, hp0word, hp0said, hp0was, hp0fitting, hp0sums, hp0sort, hp0sumsBy, hp0oneOf, hp0otherOf, hp0kept, hp0images, hp0acts, hp0iUnd, hp0iFor, hp0iX, hp0made⟩ := id ip0
  have hpx := gok.1
  have gsok := gok.2.2.2.2
  have ggd := gok.2.2.2.1
  refine Met.ofW (cc := cX12_isTown) (maxL := 1) (ret := (some .boolean)) (by decide) rfl ?_
  intro p e s m args below meth c s₁ B hml hv
  obtain ⟨rfl, hok, hG, hB⟩ := hv
  have hx := B.exec
  have hb := B.bytes
  have hr := B.returns
  have hts := atoms_spec (ws := wsX12_isTown) B.pre
  have hown : s.vm.findClass RX12 = some m.cls := findClass_of_methodNamed B.named
  have hlocks := B.notSynchronized
  have hK := hG.1
  have hw : hp_w D T s s.heap [] := hp_w.rf hok
  have IX12 : ∀ w ∈ wsX120, w ∈ wsX12_isTown := by decide +kernel
  have L39 := hts (.fieldLink RX12 39 "PalmCensusModel" "said" "[I") (by decide +kernel)
  have hl := lv_entry ([.ref ap0]) (n := 1) (Nat.le_of_ble_eq_true rfl)
  rw [lg_entry_eq]
  generalize (lg_sl ([.ref ap0]) ++ List.replicate (1 - (lg_sl ([.ref ap0])).length) Slot.unset).toArray = ls at hl ⊢
  have hl : lv_has ls 1 [(0, .ref ap0)] := hl
  show WX12_isTown p l e s m below meth c D T ap0 s.heap [] (F0 m 0 ls [])
  refine lv_aload_n hx hb dX12_isTown_0 rfl (lv_at hl 0 rfl) ?_
  refine hp_getr hx hb hts IX12 hown hK hw.1 hp0 rfl 20 (by decide) L39 rfl dX12_isTown_1 ?_
  refine lv_iconst (v := 0) hx hb dX12_isTown_4 (by decide) ?_
  refine hp_iald hx hb hK hw.1 hp0said (vp_iv (show iv 0 0 0 from ⟨by decide, by decide⟩) (by decide)) dX12_isTown_5 (fun v5 hr5 => ?_)
  have h5 := gsok _ _ hr5
  obtain ⟨x5, rfl, bx5⟩ := sP_rd0 h5 (show iv 0 0 0 from ⟨by decide, by decide⟩)
  have J14 : ∀ (y14_s0 : Int32), iv y14_s0 0 1 → ∀ (ls : Array Slot), lv_has ls 1 [] → WX12_isTown p l e s m below meth c D T ap0 s.heap [] (F0 m 14 ls [.int y14_s0]) := by
    intro y14_s0 c14_y14_s0 ls hl
    exact W.zret (v := y14_s0) hx hb hr (iv_nz c14_y14_s0) (fun t ht hW => ⟨some (.int y14_s0), rfl, ⟨y14_s0, rfl, c14_y14_s0⟩, ht⟩) (fun q h => by cases h) dX12_isTown_14
  refine lv_if_le (tgt := 13) hx hb dX12_isTown_6 (by decide) (fun c6 => ?_) (fun c6 => ?_)
  · have r6tp : iv x5 0 0 := (iv_le_l c6 bx5 (show iv 0 0 0 from ⟨by decide, by decide⟩)).mono (by decide) (by decide)
    refine lv_iconst (v := 0) hx hb dX12_isTown_13 (by decide) ?_
    exact J14 (0 : Int32) (show iv 0 0 1 from ⟨by decide, by decide⟩) _ (lv_sub hl [] rfl)
  · have r6fq : iv x5 1 6 := (iv_lt_r (iv_nle c6) (show iv 0 0 0 from ⟨by decide, by decide⟩) bx5).mono (by decide) (by decide)
    refine lv_iconst (v := 1) hx hb dX12_isTown_9 (by decide) ?_
    refine lv_goto (tgt := 14) hx hb dX12_isTown_10 (by decide) ?_
    exact J14 (1 : Int32) (show iv 1 0 1 from ⟨by decide, by decide⟩) _ (lv_sub hl [] rfl)
abbrev WX12_isGate (p : Program) (l : Launch) (e : Env) (s : State) (m : MethodId) (below : List Frame) (meth : Method) (c : Code) (D : hp_D) (T : hp_T) (ap0 : Nat) (xp1 : Int32) (H : Heap) (locs : List Loc) (g : JFrame) : Prop := W p l e (headSpec wsX12_isGate ({ frames := 0, cells := 0, slots := 0, locals := 0 })).room s m ([.ref ap0, .int xp1] : List Value).toArray below meth c H locs 0 0 (MQ below (hq_p (fun v => ∃ r : Int32, v = some (.int r) ∧ (iv r 0 1 ∧ (¬ r = 0 → iv xp1 0 5)))) ([.ref ap0, .int xp1] : List Value).toArray s 0 0 (fun _ => False)) g
set_option maxHeartbeats 4000000 in
set_option maxRecDepth 100000 in
theorem sX12_isGate (l : Launch) (D : hp_D) (T : hp_T) (ap0 : Nat) (xp1 : Int32) (Gm : moG) (ip0 : isMo T ap0 Gm) : Met l yX12_isGate wsX12_isGate ({ frames := 0, cells := 0, slots := 0, locals := 0 }) (hp_Pc D T [.ref ap0, .int xp1] (fun _ => True)) (hq_p (fun v => ∃ r : Int32, v = some (.int r) ∧ (iv r 0 1 ∧ (¬ r = 0 → iv xp1 0 5)))) 0 0 (fun _ => False) := by
  obtain ⟨ap0tape, ap0sign, ap0len, ap0clause, ap0clauses, ap0read, ap0opn, ap0stack, ap0word, ap0said, ap0was, ap0fitting, ap0sums, ap0sort, ap0sumsBy, ap0oneOf, ap0otherOf, ap0kept, ap0images, ap0acts, ap0iUnd, ap0iFor, ap0iX, ap0made, gok, hp0, hp0tape, hp0sign, hp0len, hp0clause, hp0clauses, hp0read, hp0opn, hp0stack, hp0word, hp0said, hp0was, hp0fitting, hp0sums, hp0sort, hp0sumsBy, hp0oneOf, hp0otherOf, hp0kept, hp0images, hp0acts, hp0iUnd, hp0iFor, hp0iX, hp0made⟩ := id ip0
  have hpx := gok.1
  have gsok := gok.2.2.2.2
  have ggd := gok.2.2.2.1
  refine Met.ofW (cc := cX12_isGate) (maxL := 2) (ret := (some .boolean)) (by decide) rfl ?_
  intro p e s m args below meth c s₁ B hml hv
  obtain ⟨rfl, hok, hG, hB⟩ := hv
  have hx := B.exec
  have hb := B.bytes
  have hr := B.returns
  have hts := atoms_spec (ws := wsX12_isGate) B.pre
  have hown : s.vm.findClass RX12 = some m.cls := findClass_of_methodNamed B.named
  have hlocks := B.notSynchronized
  have hK := hG.1
  have hw : hp_w D T s s.heap [] := hp_w.rf hok
  have IX12 : ∀ w ∈ wsX120, w ∈ wsX12_isGate := by decide +kernel
  have L39 := hts (.fieldLink RX12 39 "PalmCensusModel" "said" "[I") (by decide +kernel)
  have hl := lv_entry ([.ref ap0, .int xp1]) (n := 2) (Nat.le_of_ble_eq_true rfl)
  rw [lg_entry_eq]
  generalize (lg_sl ([.ref ap0, .int xp1]) ++ List.replicate (2 - (lg_sl ([.ref ap0, .int xp1])).length) Slot.unset).toArray = ls at hl ⊢
  have hl : lv_has ls 2 [(0, .ref ap0), (1, .int xp1)] := hl
  show WX12_isGate p l e s m below meth c D T ap0 xp1 s.heap [] (F0 m 0 ls [])
  refine lv_iload_n hx hb dX12_isGate_0 rfl (lv_at hl 1 rfl) ?_
  have J18 : ∀ (ls : Array Slot), lv_has ls 2 [] → WX12_isGate p l e s m below meth c D T ap0 xp1 s.heap [] (F0 m 18 ls []) := by
    intro ls hl
    refine lv_iconst (v := 0) hx hb dX12_isGate_18 (by decide) ?_
    exact W.zret (v := 0) hx hb hr (iv_nz (show iv 0 0 1 from ⟨by decide, by decide⟩)) (fun t ht hW => ⟨some (.int 0), rfl, ⟨(0 : Int32), rfl, ⟨(show iv 0 0 1 from ⟨by decide, by decide⟩), (fun h => absurd rfl h)⟩⟩, ht⟩) (fun q h => by cases h) dX12_isGate_19
  refine lv_if_lt (tgt := 18) hx hb dX12_isGate_1 (by decide) (fun c1 => ?_) (fun c1 => ?_)
  · have r1tp : iv xp1 (-2147483648) (-1) := (iv_lt_l c1 (iv_any xp1) (show iv 0 0 0 from ⟨by decide, by decide⟩)).mono (by decide) (by decide)
    exact J18 _ (lv_sub hl [] rfl)
  · have r1fq : iv xp1 0 2147483647 := (iv_le_r (iv_nlt c1) (show iv 0 0 0 from ⟨by decide, by decide⟩) (iv_any xp1)).mono (by decide) (by decide)
    refine lv_iload_n hx hb dX12_isGate_4 rfl (lv_at hl 1 rfl) ?_
    refine lv_aload_n hx hb dX12_isGate_5 rfl (lv_at hl 0 rfl) ?_
    refine hp_getr hx hb hts IX12 hown hK hw.1 hp0 rfl 20 (by decide) L39 rfl dX12_isGate_6 ?_
    refine lv_iconst (v := 0) hx hb dX12_isGate_9 (by decide) ?_
    refine hp_iald hx hb hK hw.1 hp0said (vp_iv (show iv 0 0 0 from ⟨by decide, by decide⟩) (by decide)) dX12_isGate_10 (fun v10 hr10 => ?_)
    have h10 := gsok _ _ hr10
    obtain ⟨x10, rfl, bx10⟩ := sP_rd0 h10 (show iv 0 0 0 from ⟨by decide, by decide⟩)
    refine lv_icmp_ge (tgt := 18) hx hb dX12_isGate_11 (by decide) (fun c11 => ?_) (fun c11 => ?_)
    · exact J18 _ (lv_sub hl [] rfl)
    · have r11fp : iv xp1 0 5 := (iv_lt_l (iv_nle c11) r1fq bx10).mono (by decide) (by decide)
      have r11fq : iv x10 1 6 := (iv_lt_r (iv_nle c11) r1fq bx10).mono (by decide) (by decide)
      refine lv_iconst (v := 1) hx hb dX12_isGate_14 (by decide) ?_
      refine lv_goto (tgt := 19) hx hb dX12_isGate_15 (by decide) ?_
      exact W.zret (v := 1) hx hb hr (iv_nz (show iv 1 0 1 from ⟨by decide, by decide⟩)) (fun t ht hW => ⟨some (.int 1), rfl, ⟨(1 : Int32), rfl, ⟨(show iv 1 0 1 from ⟨by decide, by decide⟩), (fun _ => r11fp)⟩⟩, ht⟩) (fun q h => by cases h) dX12_isGate_19
abbrev WX12_isHour (p : Program) (l : Launch) (e : Env) (s : State) (m : MethodId) (below : List Frame) (meth : Method) (c : Code) (D : hp_D) (T : hp_T) (ap0 : Nat) (xp1 : Int32) (H : Heap) (locs : List Loc) (g : JFrame) : Prop := W p l e (headSpec wsX12_isHour ({ frames := 0, cells := 0, slots := 0, locals := 0 })).room s m ([.ref ap0, .int xp1] : List Value).toArray below meth c H locs 0 0 (MQ below (hq_p (fun v => ∃ r : Int32, v = some (.int r) ∧ (iv r 0 1 ∧ (¬ r = 0 → iv xp1 0 11)))) ([.ref ap0, .int xp1] : List Value).toArray s 0 0 (fun _ => False)) g
set_option maxHeartbeats 4000000 in
set_option maxRecDepth 100000 in
theorem sX12_isHour (l : Launch) (D : hp_D) (T : hp_T) (ap0 : Nat) (xp1 : Int32) (Gm : moG) (ip0 : isMo T ap0 Gm) : Met l yX12_isHour wsX12_isHour ({ frames := 0, cells := 0, slots := 0, locals := 0 }) (hp_Pc D T [.ref ap0, .int xp1] (fun _ => True)) (hq_p (fun v => ∃ r : Int32, v = some (.int r) ∧ (iv r 0 1 ∧ (¬ r = 0 → iv xp1 0 11)))) 0 0 (fun _ => False) := by
  obtain ⟨ap0tape, ap0sign, ap0len, ap0clause, ap0clauses, ap0read, ap0opn, ap0stack, ap0word, ap0said, ap0was, ap0fitting, ap0sums, ap0sort, ap0sumsBy, ap0oneOf, ap0otherOf, ap0kept, ap0images, ap0acts, ap0iUnd, ap0iFor, ap0iX, ap0made, gok, hp0, hp0tape, hp0sign, hp0len, hp0clause, hp0clauses, hp0read, hp0opn, hp0stack, hp0word, hp0said, hp0was, hp0fitting, hp0sums, hp0sort, hp0sumsBy, hp0oneOf, hp0otherOf, hp0kept, hp0images, hp0acts, hp0iUnd, hp0iFor, hp0iX, hp0made⟩ := id ip0
  have hpx := gok.1
  have gsok := gok.2.2.2.2
  have ggd := gok.2.2.2.1
  refine Met.ofW (cc := cX12_isHour) (maxL := 2) (ret := (some .boolean)) (by decide) rfl ?_
  intro p e s m args below meth c s₁ B hml hv
  obtain ⟨rfl, hok, hG, hB⟩ := hv
  have hx := B.exec
  have hb := B.bytes
  have hr := B.returns
  have hts := atoms_spec (ws := wsX12_isHour) B.pre
  have hown : s.vm.findClass RX12 = some m.cls := findClass_of_methodNamed B.named
  have hlocks := B.notSynchronized
  have hK := hG.1
  have hw : hp_w D T s s.heap [] := hp_w.rf hok
  have IX12 : ∀ w ∈ wsX120, w ∈ wsX12_isHour := by decide +kernel
  have L39 := hts (.fieldLink RX12 39 "PalmCensusModel" "said" "[I") (by decide +kernel)
  have hl := lv_entry ([.ref ap0, .int xp1]) (n := 2) (Nat.le_of_ble_eq_true rfl)
  rw [lg_entry_eq]
  generalize (lg_sl ([.ref ap0, .int xp1]) ++ List.replicate (2 - (lg_sl ([.ref ap0, .int xp1])).length) Slot.unset).toArray = ls at hl ⊢
  have hl : lv_has ls 2 [(0, .ref ap0), (1, .int xp1)] := hl
  show WX12_isHour p l e s m below meth c D T ap0 xp1 s.heap [] (F0 m 0 ls [])
  refine lv_iload_n hx hb dX12_isHour_0 rfl (lv_at hl 1 rfl) ?_
  have J18 : ∀ (ls : Array Slot), lv_has ls 2 [] → WX12_isHour p l e s m below meth c D T ap0 xp1 s.heap [] (F0 m 18 ls []) := by
    intro ls hl
    refine lv_iconst (v := 0) hx hb dX12_isHour_18 (by decide) ?_
    exact W.zret (v := 0) hx hb hr (iv_nz (show iv 0 0 1 from ⟨by decide, by decide⟩)) (fun t ht hW => ⟨some (.int 0), rfl, ⟨(0 : Int32), rfl, ⟨(show iv 0 0 1 from ⟨by decide, by decide⟩), (fun h => absurd rfl h)⟩⟩, ht⟩) (fun q h => by cases h) dX12_isHour_19
  refine lv_if_lt (tgt := 18) hx hb dX12_isHour_1 (by decide) (fun c1 => ?_) (fun c1 => ?_)
  · have r1tp : iv xp1 (-2147483648) (-1) := (iv_lt_l c1 (iv_any xp1) (show iv 0 0 0 from ⟨by decide, by decide⟩)).mono (by decide) (by decide)
    exact J18 _ (lv_sub hl [] rfl)
  · have r1fq : iv xp1 0 2147483647 := (iv_le_r (iv_nlt c1) (show iv 0 0 0 from ⟨by decide, by decide⟩) (iv_any xp1)).mono (by decide) (by decide)
    refine lv_iload_n hx hb dX12_isHour_4 rfl (lv_at hl 1 rfl) ?_
    refine lv_aload_n hx hb dX12_isHour_5 rfl (lv_at hl 0 rfl) ?_
    refine hp_getr hx hb hts IX12 hown hK hw.1 hp0 rfl 20 (by decide) L39 rfl dX12_isHour_6 ?_
    refine lv_iconst (v := 1) hx hb dX12_isHour_9 (by decide) ?_
    refine hp_iald hx hb hK hw.1 hp0said (vp_iv (show iv 1 1 1 from ⟨by decide, by decide⟩) (by decide)) dX12_isHour_10 (fun v10 hr10 => ?_)
    have h10 := gsok _ _ hr10
    obtain ⟨x10, rfl, bx10⟩ := sP_rd1 h10 (show iv 1 1 1 from ⟨by decide, by decide⟩)
    refine lv_icmp_ge (tgt := 18) hx hb dX12_isHour_11 (by decide) (fun c11 => ?_) (fun c11 => ?_)
    · exact J18 _ (lv_sub hl [] rfl)
    · have r11fp : iv xp1 0 11 := (iv_lt_l (iv_nle c11) r1fq bx10).mono (by decide) (by decide)
      have r11fq : iv x10 1 12 := (iv_lt_r (iv_nle c11) r1fq bx10).mono (by decide) (by decide)
      refine lv_iconst (v := 1) hx hb dX12_isHour_14 (by decide) ?_
      refine lv_goto (tgt := 19) hx hb dX12_isHour_15 (by decide) ?_
      exact W.zret (v := 1) hx hb hr (iv_nz (show iv 1 0 1 from ⟨by decide, by decide⟩)) (fun t ht hW => ⟨some (.int 1), rfl, ⟨(1 : Int32), rfl, ⟨(show iv 1 0 1 from ⟨by decide, by decide⟩), (fun _ => r11fp)⟩⟩, ht⟩) (fun q h => by cases h) dX12_isHour_19
abbrev WX12_isPerson (p : Program) (l : Launch) (e : Env) (s : State) (m : MethodId) (below : List Frame) (meth : Method) (c : Code) (D : hp_D) (T : hp_T) (ap0 : Nat) (xp1 : Int32) (H : Heap) (locs : List Loc) (g : JFrame) : Prop := W p l e (headSpec wsX12_isPerson ({ frames := 0, cells := 0, slots := 0, locals := 0 })).room s m ([.ref ap0, .int xp1] : List Value).toArray below meth c H locs 0 0 (MQ below (hq_p (fun v => ∃ r : Int32, v = some (.int r) ∧ (iv r 0 1 ∧ (¬ r = 0 → iv xp1 0 9)))) ([.ref ap0, .int xp1] : List Value).toArray s 0 0 (fun _ => False)) g
set_option maxHeartbeats 4000000 in
set_option maxRecDepth 100000 in
theorem sX12_isPerson (l : Launch) (D : hp_D) (T : hp_T) (ap0 : Nat) (xp1 : Int32) (Gm : moG) (ip0 : isMo T ap0 Gm) : Met l yX12_isPerson wsX12_isPerson ({ frames := 0, cells := 0, slots := 0, locals := 0 }) (hp_Pc D T [.ref ap0, .int xp1] (fun _ => True)) (hq_p (fun v => ∃ r : Int32, v = some (.int r) ∧ (iv r 0 1 ∧ (¬ r = 0 → iv xp1 0 9)))) 0 0 (fun _ => False) := by
  obtain ⟨ap0tape, ap0sign, ap0len, ap0clause, ap0clauses, ap0read, ap0opn, ap0stack, ap0word, ap0said, ap0was, ap0fitting, ap0sums, ap0sort, ap0sumsBy, ap0oneOf, ap0otherOf, ap0kept, ap0images, ap0acts, ap0iUnd, ap0iFor, ap0iX, ap0made, gok, hp0, hp0tape, hp0sign, hp0len, hp0clause, hp0clauses, hp0read, hp0opn, hp0stack, hp0word, hp0said, hp0was, hp0fitting, hp0sums, hp0sort, hp0sumsBy, hp0oneOf, hp0otherOf, hp0kept, hp0images, hp0acts, hp0iUnd, hp0iFor, hp0iX, hp0made⟩ := id ip0
  have hpx := gok.1
  have gsok := gok.2.2.2.2
  have ggd := gok.2.2.2.1
  refine Met.ofW (cc := cX12_isPerson) (maxL := 2) (ret := (some .boolean)) (by decide) rfl ?_
  intro p e s m args below meth c s₁ B hml hv
  obtain ⟨rfl, hok, hG, hB⟩ := hv
  have hx := B.exec
  have hb := B.bytes
  have hr := B.returns
  have hts := atoms_spec (ws := wsX12_isPerson) B.pre
  have hown : s.vm.findClass RX12 = some m.cls := findClass_of_methodNamed B.named
  have hlocks := B.notSynchronized
  have hK := hG.1
  have hw : hp_w D T s s.heap [] := hp_w.rf hok
  have IX12 : ∀ w ∈ wsX120, w ∈ wsX12_isPerson := by decide +kernel
  have L39 := hts (.fieldLink RX12 39 "PalmCensusModel" "said" "[I") (by decide +kernel)
  have hl := lv_entry ([.ref ap0, .int xp1]) (n := 2) (Nat.le_of_ble_eq_true rfl)
  rw [lg_entry_eq]
  generalize (lg_sl ([.ref ap0, .int xp1]) ++ List.replicate (2 - (lg_sl ([.ref ap0, .int xp1])).length) Slot.unset).toArray = ls at hl ⊢
  have hl : lv_has ls 2 [(0, .ref ap0), (1, .int xp1)] := hl
  show WX12_isPerson p l e s m below meth c D T ap0 xp1 s.heap [] (F0 m 0 ls [])
  refine lv_iload_n hx hb dX12_isPerson_0 rfl (lv_at hl 1 rfl) ?_
  have J18 : ∀ (ls : Array Slot), lv_has ls 2 [] → WX12_isPerson p l e s m below meth c D T ap0 xp1 s.heap [] (F0 m 18 ls []) := by
    intro ls hl
    refine lv_iconst (v := 0) hx hb dX12_isPerson_18 (by decide) ?_
    exact W.zret (v := 0) hx hb hr (iv_nz (show iv 0 0 1 from ⟨by decide, by decide⟩)) (fun t ht hW => ⟨some (.int 0), rfl, ⟨(0 : Int32), rfl, ⟨(show iv 0 0 1 from ⟨by decide, by decide⟩), (fun h => absurd rfl h)⟩⟩, ht⟩) (fun q h => by cases h) dX12_isPerson_19
  refine lv_if_lt (tgt := 18) hx hb dX12_isPerson_1 (by decide) (fun c1 => ?_) (fun c1 => ?_)
  · have r1tp : iv xp1 (-2147483648) (-1) := (iv_lt_l c1 (iv_any xp1) (show iv 0 0 0 from ⟨by decide, by decide⟩)).mono (by decide) (by decide)
    exact J18 _ (lv_sub hl [] rfl)
  · have r1fq : iv xp1 0 2147483647 := (iv_le_r (iv_nlt c1) (show iv 0 0 0 from ⟨by decide, by decide⟩) (iv_any xp1)).mono (by decide) (by decide)
    refine lv_iload_n hx hb dX12_isPerson_4 rfl (lv_at hl 1 rfl) ?_
    refine lv_aload_n hx hb dX12_isPerson_5 rfl (lv_at hl 0 rfl) ?_
    refine hp_getr hx hb hts IX12 hown hK hw.1 hp0 rfl 20 (by decide) L39 rfl dX12_isPerson_6 ?_
    refine lv_iconst (v := 2) hx hb dX12_isPerson_9 (by decide) ?_
    refine hp_iald hx hb hK hw.1 hp0said (vp_iv (show iv 2 2 2 from ⟨by decide, by decide⟩) (by decide)) dX12_isPerson_10 (fun v10 hr10 => ?_)
    have h10 := gsok _ _ hr10
    obtain ⟨x10, rfl, bx10⟩ := sP_rd2 h10 (show iv 2 2 2 from ⟨by decide, by decide⟩)
    refine lv_icmp_ge (tgt := 18) hx hb dX12_isPerson_11 (by decide) (fun c11 => ?_) (fun c11 => ?_)
    · exact J18 _ (lv_sub hl [] rfl)
    · have r11fp : iv xp1 0 9 := (iv_lt_l (iv_nle c11) r1fq bx10).mono (by decide) (by decide)
      have r11fq : iv x10 1 10 := (iv_lt_r (iv_nle c11) r1fq bx10).mono (by decide) (by decide)
      refine lv_iconst (v := 1) hx hb dX12_isPerson_14 (by decide) ?_
      refine lv_goto (tgt := 19) hx hb dX12_isPerson_15 (by decide) ?_
      exact W.zret (v := 1) hx hb hr (iv_nz (show iv 1 0 1 from ⟨by decide, by decide⟩)) (fun t ht hW => ⟨some (.int 1), rfl, ⟨(1 : Int32), rfl, ⟨(show iv 1 0 1 from ⟨by decide, by decide⟩), (fun _ => r11fp)⟩⟩, ht⟩) (fun q h => by cases h) dX12_isPerson_19
abbrev WX12_isRule (p : Program) (l : Launch) (e : Env) (s : State) (m : MethodId) (below : List Frame) (meth : Method) (c : Code) (D : hp_D) (T : hp_T) (ap0 : Nat) (xp1 : Int32) (H : Heap) (locs : List Loc) (g : JFrame) : Prop := W p l e (headSpec wsX12_isRule ({ frames := 0, cells := 0, slots := 0, locals := 0 })).room s m ([.ref ap0, .int xp1] : List Value).toArray below meth c H locs 0 0 (MQ below (hq_p (fun v => ∃ r : Int32, v = some (.int r) ∧ (iv r 0 1 ∧ (¬ r = 0 → iv xp1 0 5)))) ([.ref ap0, .int xp1] : List Value).toArray s 0 0 (fun _ => False)) g
set_option maxHeartbeats 4000000 in
set_option maxRecDepth 100000 in
theorem sX12_isRule (l : Launch) (D : hp_D) (T : hp_T) (ap0 : Nat) (xp1 : Int32) (Gm : moG) (ip0 : isMo T ap0 Gm) : Met l yX12_isRule wsX12_isRule ({ frames := 0, cells := 0, slots := 0, locals := 0 }) (hp_Pc D T [.ref ap0, .int xp1] (fun _ => True)) (hq_p (fun v => ∃ r : Int32, v = some (.int r) ∧ (iv r 0 1 ∧ (¬ r = 0 → iv xp1 0 5)))) 0 0 (fun _ => False) := by
  obtain ⟨ap0tape, ap0sign, ap0len, ap0clause, ap0clauses, ap0read, ap0opn, ap0stack, ap0word, ap0said, ap0was, ap0fitting, ap0sums, ap0sort, ap0sumsBy, ap0oneOf, ap0otherOf, ap0kept, ap0images, ap0acts, ap0iUnd, ap0iFor, ap0iX, ap0made, gok, hp0, hp0tape, hp0sign, hp0len, hp0clause, hp0clauses, hp0read, hp0opn, hp0stack, hp0word, hp0said, hp0was, hp0fitting, hp0sums, hp0sort, hp0sumsBy, hp0oneOf, hp0otherOf, hp0kept, hp0images, hp0acts, hp0iUnd, hp0iFor, hp0iX, hp0made⟩ := id ip0
  have hpx := gok.1
  have gsok := gok.2.2.2.2
  have ggd := gok.2.2.2.1
  refine Met.ofW (cc := cX12_isRule) (maxL := 2) (ret := (some .boolean)) (by decide) rfl ?_
  intro p e s m args below meth c s₁ B hml hv
  obtain ⟨rfl, hok, hG, hB⟩ := hv
  have hx := B.exec
  have hb := B.bytes
  have hr := B.returns
  have hts := atoms_spec (ws := wsX12_isRule) B.pre
  have hown : s.vm.findClass RX12 = some m.cls := findClass_of_methodNamed B.named
  have hlocks := B.notSynchronized
  have hK := hG.1
  have hw : hp_w D T s s.heap [] := hp_w.rf hok
  have IX12 : ∀ w ∈ wsX120, w ∈ wsX12_isRule := by decide +kernel
  have L267 := hts (.fieldLink RX12 267 "PalmCensusModel" "rules" "I") (by decide +kernel)
  have hl := lv_entry ([.ref ap0, .int xp1]) (n := 2) (Nat.le_of_ble_eq_true rfl)
  rw [lg_entry_eq]
  generalize (lg_sl ([.ref ap0, .int xp1]) ++ List.replicate (2 - (lg_sl ([.ref ap0, .int xp1])).length) Slot.unset).toArray = ls at hl ⊢
  have hl : lv_has ls 2 [(0, .ref ap0), (1, .int xp1)] := hl
  show WX12_isRule p l e s m below meth c D T ap0 xp1 s.heap [] (F0 m 0 ls [])
  refine lv_iload_n hx hb dX12_isRule_0 rfl (lv_at hl 1 rfl) ?_
  have J16 : ∀ (ls : Array Slot), lv_has ls 2 [] → WX12_isRule p l e s m below meth c D T ap0 xp1 s.heap [] (F0 m 16 ls []) := by
    intro ls hl
    refine lv_iconst (v := 0) hx hb dX12_isRule_16 (by decide) ?_
    exact W.zret (v := 0) hx hb hr (iv_nz (show iv 0 0 1 from ⟨by decide, by decide⟩)) (fun t ht hW => ⟨some (.int 0), rfl, ⟨(0 : Int32), rfl, ⟨(show iv 0 0 1 from ⟨by decide, by decide⟩), (fun h => absurd rfl h)⟩⟩, ht⟩) (fun q h => by cases h) dX12_isRule_17
  refine lv_if_lt (tgt := 16) hx hb dX12_isRule_1 (by decide) (fun c1 => ?_) (fun c1 => ?_)
  · have r1tp : iv xp1 (-2147483648) (-1) := (iv_lt_l c1 (iv_any xp1) (show iv 0 0 0 from ⟨by decide, by decide⟩)).mono (by decide) (by decide)
    exact J16 _ (lv_sub hl [] rfl)
  · have r1fq : iv xp1 0 2147483647 := (iv_le_r (iv_nlt c1) (show iv 0 0 0 from ⟨by decide, by decide⟩) (iv_any xp1)).mono (by decide) (by decide)
    refine lv_iload_n hx hb dX12_isRule_4 rfl (lv_at hl 1 rfl) ?_
    refine lv_aload_n hx hb dX12_isRule_5 rfl (lv_at hl 0 rfl) ?_
    refine hp_geti hx hb hts IX12 hown hK hw.1 hp0 rfl 2 (by decide) L267 rfl dX12_isRule_6 (fun x6 bx6 fx6 => ?_)
    refine lv_icmp_ge (tgt := 16) hx hb dX12_isRule_9 (by decide) (fun c9 => ?_) (fun c9 => ?_)
    · exact J16 _ (lv_sub hl [] rfl)
    · have r9fp : iv xp1 0 5 := (iv_lt_l (iv_nle c9) r1fq bx6).mono (by decide) (by decide)
      have r9fq : iv x6 1 6 := (iv_lt_r (iv_nle c9) r1fq bx6).mono (by decide) (by decide)
      refine lv_iconst (v := 1) hx hb dX12_isRule_12 (by decide) ?_
      refine lv_goto (tgt := 17) hx hb dX12_isRule_13 (by decide) ?_
      exact W.zret (v := 1) hx hb hr (iv_nz (show iv 1 0 1 from ⟨by decide, by decide⟩)) (fun t ht hW => ⟨some (.int 1), rfl, ⟨(1 : Int32), rfl, ⟨(show iv 1 0 1 from ⟨by decide, by decide⟩), (fun _ => r9fp)⟩⟩, ht⟩) (fun q h => by cases h) dX12_isRule_17
abbrev WX12_placeOf (p : Program) (l : Launch) (e : Env) (s : State) (m : MethodId) (below : List Frame) (meth : Method) (c : Code) (D : hp_D) (T : hp_T) (ap0 : Nat) (xp1 : Int32) (xp2 : Int32) (H : Heap) (locs : List Loc) (g : JFrame) : Prop := W p l e (headSpec wsX12_placeOf ({ frames := 0, cells := 0, slots := 0, locals := 0 })).room s m ([.ref ap0, .int xp1, .int xp2] : List Value).toArray below meth c H locs 0 0 (MQ below (hq_p (fun v => ∃ r : Int32, v = some (.int r) ∧ True)) ([.ref ap0, .int xp1, .int xp2] : List Value).toArray s 0 0 (fun _ => False)) g
set_option maxHeartbeats 4000000 in
set_option maxRecDepth 100000 in
theorem sX12_placeOf (l : Launch) (D : hp_D) (T : hp_T) (ap0 : Nat) (xp1 : Int32) (xp2 : Int32) (Gm : moG) (ip0 : isMo T ap0 Gm) (bp1 : iv xp1 0 9) (bp2 : iv xp2 0 11) : Met l yX12_placeOf wsX12_placeOf ({ frames := 0, cells := 0, slots := 0, locals := 0 }) (hp_Pc D T [.ref ap0, .int xp1, .int xp2] (fun _ => True)) (hq_p (fun v => ∃ r : Int32, v = some (.int r) ∧ True)) 0 0 (fun _ => False) := by
  obtain ⟨ap0tape, ap0sign, ap0len, ap0clause, ap0clauses, ap0read, ap0opn, ap0stack, ap0word, ap0said, ap0was, ap0fitting, ap0sums, ap0sort, ap0sumsBy, ap0oneOf, ap0otherOf, ap0kept, ap0images, ap0acts, ap0iUnd, ap0iFor, ap0iX, ap0made, gok, hp0, hp0tape, hp0sign, hp0len, hp0clause, hp0clauses, hp0read, hp0opn, hp0stack, hp0word, hp0said, hp0was, hp0fitting, hp0sums, hp0sort, hp0sumsBy, hp0oneOf, hp0otherOf, hp0kept, hp0images, hp0acts, hp0iUnd, hp0iFor, hp0iX, hp0made⟩ := id ip0
  have hpx := gok.1
  have gsok := gok.2.2.2.2
  have ggd := gok.2.2.2.1
  refine Met.ofW (cc := cX12_placeOf) (maxL := 3) (ret := (some .int)) (by decide) rfl ?_
  intro p e s m args below meth c s₁ B hml hv
  obtain ⟨rfl, hok, hG, hB⟩ := hv
  have hx := B.exec
  have hb := B.bytes
  have hr := B.returns
  have hts := atoms_spec (ws := wsX12_placeOf) B.pre
  have hown : s.vm.findClass RX12 = some m.cls := findClass_of_methodNamed B.named
  have hlocks := B.notSynchronized
  have hK := hG.1
  have hw : hp_w D T s s.heap [] := hp_w.rf hok
  have IX12 : ∀ w ∈ wsX120, w ∈ wsX12_placeOf := by decide +kernel
  have L39 := hts (.fieldLink RX12 39 "PalmCensusModel" "said" "[I") (by decide +kernel)
  have hl := lv_entry ([.ref ap0, .int xp1, .int xp2]) (n := 3) (Nat.le_of_ble_eq_true rfl)
  rw [lg_entry_eq]
  generalize (lg_sl ([.ref ap0, .int xp1, .int xp2]) ++ List.replicate (3 - (lg_sl ([.ref ap0, .int xp1, .int xp2])).length) Slot.unset).toArray = ls at hl ⊢
  have hl : lv_has ls 3 [(0, .ref ap0), (1, .int xp1), (2, .int xp2)] := hl
  show WX12_placeOf p l e s m below meth c D T ap0 xp1 xp2 s.heap [] (F0 m 0 ls [])
  refine lv_aload_n hx hb dX12_placeOf_0 rfl (lv_at hl 0 rfl) ?_
  refine hp_getr hx hb hts IX12 hown hK hw.1 hp0 rfl 20 (by decide) L39 rfl dX12_placeOf_1 ?_
  refine lv_bipush (v := 10) hx hb dX12_placeOf_4 (by decide) ?_
  refine lv_bipush (v := 12) hx hb dX12_placeOf_6 (by decide) ?_
  refine lv_iload_n hx hb dX12_placeOf_8 rfl (lv_at hl 1 rfl) ?_
  refine lv_imul hx hb dX12_placeOf_9 ?_
  refine lv_topi (fun x9 ex9 => ?_)
  have bx9 : iv x9 0 108 := iv_mul (show iv 12 12 12 from ⟨by decide, by decide⟩) bp1 ex9 (by decide)
  refine lv_iadd hx hb dX12_placeOf_10 ?_
  refine lv_topi (fun x10 ex10 => ?_)
  have bx10 : iv x10 10 118 := iv_add (show iv 10 10 10 from ⟨by decide, by decide⟩) bx9 ex10 (by decide)
  have qx10 := iv_add_eq (show iv 10 10 10 from ⟨by decide, by decide⟩) bx9 ex10 (by decide)
  refine lv_iload_n hx hb dX12_placeOf_11 rfl (lv_at hl 2 rfl) ?_
  refine lv_iadd hx hb dX12_placeOf_12 ?_
  refine lv_topi (fun x12 ex12 => ?_)
  have bx12 : iv x12 10 129 := iv_add bx10 bp2 ex12 (by decide)
  have qx12 := iv_add_eq bx10 bp2 ex12 (by decide)
  refine hp_iald hx hb hK hw.1 hp0said (vp_iv bx12 (by decide)) dX12_placeOf_13 (fun v13 hr13 => ?_)
  have h13 := gsok _ _ hr13
  obtain ⟨x13, rfl⟩ := sP_any h13
  exact W.iret (v := x13) hx hb hr (fun t ht hW => ⟨some (.int x13), rfl, ⟨x13, rfl, trivial⟩, ht⟩) (fun q h => by cases h) dX12_placeOf_14
abbrev WX12_personOf (p : Program) (l : Launch) (e : Env) (s : State) (m : MethodId) (below : List Frame) (meth : Method) (c : Code) (D : hp_D) (T : hp_T) (ap0 : Nat) (xp1 : Int32) (xp2 : Int32) (H : Heap) (locs : List Loc) (g : JFrame) : Prop := W p l e (headSpec wsX12_personOf ({ frames := 0, cells := 0, slots := 0, locals := 0 })).room s m ([.ref ap0, .int xp1, .int xp2] : List Value).toArray below meth c H locs 0 0 (MQ below (hq_p (fun v => ∃ r : Int32, v = some (.int r) ∧ True)) ([.ref ap0, .int xp1, .int xp2] : List Value).toArray s 0 0 (fun _ => False)) g
set_option maxHeartbeats 4000000 in
set_option maxRecDepth 100000 in
theorem sX12_personOf (l : Launch) (D : hp_D) (T : hp_T) (ap0 : Nat) (xp1 : Int32) (xp2 : Int32) (Gm : moG) (ip0 : isMo T ap0 Gm) (bp1 : iv xp1 0 9) (bp2 : iv xp2 0 3) : Met l yX12_personOf wsX12_personOf ({ frames := 0, cells := 0, slots := 0, locals := 0 }) (hp_Pc D T [.ref ap0, .int xp1, .int xp2] (fun _ => True)) (hq_p (fun v => ∃ r : Int32, v = some (.int r) ∧ True)) 0 0 (fun _ => False) := by
  obtain ⟨ap0tape, ap0sign, ap0len, ap0clause, ap0clauses, ap0read, ap0opn, ap0stack, ap0word, ap0said, ap0was, ap0fitting, ap0sums, ap0sort, ap0sumsBy, ap0oneOf, ap0otherOf, ap0kept, ap0images, ap0acts, ap0iUnd, ap0iFor, ap0iX, ap0made, gok, hp0, hp0tape, hp0sign, hp0len, hp0clause, hp0clauses, hp0read, hp0opn, hp0stack, hp0word, hp0said, hp0was, hp0fitting, hp0sums, hp0sort, hp0sumsBy, hp0oneOf, hp0otherOf, hp0kept, hp0images, hp0acts, hp0iUnd, hp0iFor, hp0iX, hp0made⟩ := id ip0
  have hpx := gok.1
  have gsok := gok.2.2.2.2
  have ggd := gok.2.2.2.1
  refine Met.ofW (cc := cX12_personOf) (maxL := 3) (ret := (some .int)) (by decide) rfl ?_
  intro p e s m args below meth c s₁ B hml hv
  obtain ⟨rfl, hok, hG, hB⟩ := hv
  have hx := B.exec
  have hb := B.bytes
  have hr := B.returns
  have hts := atoms_spec (ws := wsX12_personOf) B.pre
  have hown : s.vm.findClass RX12 = some m.cls := findClass_of_methodNamed B.named
  have hlocks := B.notSynchronized
  have hK := hG.1
  have hw : hp_w D T s s.heap [] := hp_w.rf hok
  have IX12 : ∀ w ∈ wsX120, w ∈ wsX12_personOf := by decide +kernel
  have L39 := hts (.fieldLink RX12 39 "PalmCensusModel" "said" "[I") (by decide +kernel)
  have hl := lv_entry ([.ref ap0, .int xp1, .int xp2]) (n := 3) (Nat.le_of_ble_eq_true rfl)
  rw [lg_entry_eq]
  generalize (lg_sl ([.ref ap0, .int xp1, .int xp2]) ++ List.replicate (3 - (lg_sl ([.ref ap0, .int xp1, .int xp2])).length) Slot.unset).toArray = ls at hl ⊢
  have hl : lv_has ls 3 [(0, .ref ap0), (1, .int xp1), (2, .int xp2)] := hl
  show WX12_personOf p l e s m below meth c D T ap0 xp1 xp2 s.heap [] (F0 m 0 ls [])
  refine lv_aload_n hx hb dX12_personOf_0 rfl (lv_at hl 0 rfl) ?_
  refine hp_getr hx hb hts IX12 hown hK hw.1 hp0 rfl 20 (by decide) L39 rfl dX12_personOf_1 ?_
  refine lv_sipush (v := 130) hx hb dX12_personOf_4 (by decide) ?_
  refine lv_iconst (v := 4) hx hb dX12_personOf_7 (by decide) ?_
  refine lv_iload_n hx hb dX12_personOf_8 rfl (lv_at hl 1 rfl) ?_
  refine lv_imul hx hb dX12_personOf_9 ?_
  refine lv_topi (fun x9 ex9 => ?_)
  have bx9 : iv x9 0 36 := iv_mul (show iv 4 4 4 from ⟨by decide, by decide⟩) bp1 ex9 (by decide)
  refine lv_iadd hx hb dX12_personOf_10 ?_
  refine lv_topi (fun x10 ex10 => ?_)
  have bx10 : iv x10 130 166 := iv_add (show iv 130 130 130 from ⟨by decide, by decide⟩) bx9 ex10 (by decide)
  have qx10 := iv_add_eq (show iv 130 130 130 from ⟨by decide, by decide⟩) bx9 ex10 (by decide)
  refine lv_iload_n hx hb dX12_personOf_11 rfl (lv_at hl 2 rfl) ?_
  refine lv_iadd hx hb dX12_personOf_12 ?_
  refine lv_topi (fun x12 ex12 => ?_)
  have bx12 : iv x12 130 169 := iv_add bx10 bp2 ex12 (by decide)
  have qx12 := iv_add_eq bx10 bp2 ex12 (by decide)
  refine hp_iald hx hb hK hw.1 hp0said (vp_iv bx12 (by decide)) dX12_personOf_13 (fun v13 hr13 => ?_)
  have h13 := gsok _ _ hr13
  obtain ⟨x13, rfl⟩ := sP_any h13
  exact W.iret (v := x13) hx hb hr (fun t ht hW => ⟨some (.int x13), rfl, ⟨x13, rfl, trivial⟩, ht⟩) (fun q h => by cases h) dX12_personOf_14
abbrev WX12_everybody_0 (p : Program) (l : Launch) (e : Env) (s : State) (m : MethodId) (below : List Frame) (meth : Method) (c : Code) (D : hp_D) (T : hp_T) (ap0 : Nat) (H : Heap) (locs : List Loc) (g : JFrame) : Prop := W p l e (headSpec wsX12_everybody ({ frames := 0, cells := 0, slots := 0, locals := 0 })).room s m ([.ref ap0] : List Value).toArray below meth c H locs 0 0 (MQ below (hq_p (fun v => ∃ r : Int32, v = some (.int r) ∧ iv r 0 1023)) ([.ref ap0] : List Value).toArray s 0 0 (fun _ => False)) g
set_option maxHeartbeats 4000000 in
set_option maxRecDepth 100000 in
theorem sX12_everybody_0 (l : Launch) (D : hp_D) (T : hp_T) (ap0 : Nat) (Gm : moG) (ip0 : isMo T ap0 Gm) : Met l yX12_everybody wsX12_everybody ({ frames := 0, cells := 0, slots := 0, locals := 0 }) (hp_Pc D T [.ref ap0] (fun _ => True)) (hq_p (fun v => ∃ r : Int32, v = some (.int r) ∧ iv r 0 1023)) 0 0 (fun _ => False) := by
  obtain ⟨ap0tape, ap0sign, ap0len, ap0clause, ap0clauses, ap0read, ap0opn, ap0stack, ap0word, ap0said, ap0was, ap0fitting, ap0sums, ap0sort, ap0sumsBy, ap0oneOf, ap0otherOf, ap0kept, ap0images, ap0acts, ap0iUnd, ap0iFor, ap0iX, ap0made, gok, hp0, hp0tape, hp0sign, hp0len, hp0clause, hp0clauses, hp0read, hp0opn, hp0stack, hp0word, hp0said, hp0was, hp0fitting, hp0sums, hp0sort, hp0sumsBy, hp0oneOf, hp0otherOf, hp0kept, hp0images, hp0acts, hp0iUnd, hp0iFor, hp0iX, hp0made⟩ := id ip0
  have hpx := gok.1
  have gsok := gok.2.2.2.2
  have ggd := gok.2.2.2.1
  refine Met.ofW (cc := cX12_everybody) (maxL := 1) (ret := (some .int)) (by decide) rfl ?_
  intro p e s m args below meth c s₁ B hml hv
  obtain ⟨rfl, hok, hG, hB⟩ := hv
  have hx := B.exec
  have hb := B.bytes
  have hr := B.returns
  have hts := atoms_spec (ws := wsX12_everybody) B.pre
  have hown : s.vm.findClass RX12 = some m.cls := findClass_of_methodNamed B.named
  have hlocks := B.notSynchronized
  have hK := hG.1
  have hw : hp_w D T s s.heap [] := hp_w.rf hok
  have IX12 : ∀ w ∈ wsX120, w ∈ wsX12_everybody := by decide +kernel
  have L39 := hts (.fieldLink RX12 39 "PalmCensusModel" "said" "[I") (by decide +kernel)
  have hl := lv_entry ([.ref ap0]) (n := 1) (Nat.le_of_ble_eq_true rfl)
  rw [lg_entry_eq]
  generalize (lg_sl ([.ref ap0]) ++ List.replicate (1 - (lg_sl ([.ref ap0])).length) Slot.unset).toArray = ls at hl ⊢
  have hl : lv_has ls 1 [(0, .ref ap0)] := hl
  show WX12_everybody_0 p l e s m below meth c D T ap0 s.heap [] (F0 m 0 ls [])
  refine lv_iconst (v := 1) hx hb dX12_everybody_0 (by decide) ?_
  refine lv_aload_n hx hb dX12_everybody_1 rfl (lv_at hl 0 rfl) ?_
  refine hp_getr hx hb hts IX12 hown hK hw.1 hp0 rfl 20 (by decide) L39 rfl dX12_everybody_2 ?_
  refine lv_iconst (v := 2) hx hb dX12_everybody_5 (by decide) ?_
  refine hp_iald hx hb hK hw.1 hp0said (vp_iv (show iv 2 2 2 from ⟨by decide, by decide⟩) (by decide)) dX12_everybody_6 (fun v6 hr6 => ?_)
  have h6 := gsok _ _ hr6
  obtain ⟨x6, rfl, bx6⟩ := sP_rd2 h6 (show iv 2 2 2 from ⟨by decide, by decide⟩)
  refine lv_ishl hx hb dX12_everybody_7 ?_
  refine lv_topi (fun x7 ex7 => ?_)
  have bx7 : iv x7 1 1024 := iv_shl 10 (show iv 1 1 1 from ⟨by decide, by decide⟩) bx6 ex7 (by decide)
  refine lv_iconst (v := 1) hx hb dX12_everybody_8 (by decide) ?_
  refine lv_isub hx hb dX12_everybody_9 ?_
  refine lv_topi (fun x9 ex9 => ?_)
  have bx9 : iv x9 0 1023 := iv_sub bx7 (show iv 1 1 1 from ⟨by decide, by decide⟩) ex9 (by decide)
  have qx9 := iv_sub_eq bx7 (show iv 1 1 1 from ⟨by decide, by decide⟩) ex9 (by decide)
  exact W.iret (v := x9) hx hb hr (fun t ht hW => ⟨some (.int x9), rfl, ⟨x9, rfl, bx9⟩, ht⟩) (fun q h => by cases h) dX12_everybody_10
abbrev WX12_everybody_8 (p : Program) (l : Launch) (e : Env) (s : State) (m : MethodId) (below : List Frame) (meth : Method) (c : Code) (D : hp_D) (T : hp_T) (ap0 : Nat) (H : Heap) (locs : List Loc) (g : JFrame) : Prop := W p l e (headSpec wsX12_everybody ({ frames := 0, cells := 0, slots := 0, locals := 0 })).room s m ([.ref ap0] : List Value).toArray below meth c H locs 0 0 (MQ below (hq_p (fun v => ∃ r : Int32, v = some (.int r) ∧ iv r 0 255)) ([.ref ap0] : List Value).toArray s 0 0 (fun _ => False)) g
set_option maxHeartbeats 4000000 in
set_option maxRecDepth 100000 in
theorem sX12_everybody_8 (l : Launch) (D : hp_D) (T : hp_T) (ap0 : Nat) (Gm : moG) (ip0 : isMo T ap0 Gm) (h8 : ∀ v, gs Gm 2 v → rI 0 8 v) : Met l yX12_everybody wsX12_everybody ({ frames := 0, cells := 0, slots := 0, locals := 0 }) (hp_Pc D T [.ref ap0] (fun _ => True)) (hq_p (fun v => ∃ r : Int32, v = some (.int r) ∧ iv r 0 255)) 0 0 (fun _ => False) := by
  obtain ⟨ap0tape, ap0sign, ap0len, ap0clause, ap0clauses, ap0read, ap0opn, ap0stack, ap0word, ap0said, ap0was, ap0fitting, ap0sums, ap0sort, ap0sumsBy, ap0oneOf, ap0otherOf, ap0kept, ap0images, ap0acts, ap0iUnd, ap0iFor, ap0iX, ap0made, gok, hp0, hp0tape, hp0sign, hp0len, hp0clause, hp0clauses, hp0read, hp0opn, hp0stack, hp0word, hp0said, hp0was, hp0fitting, hp0sums, hp0sort, hp0sumsBy, hp0oneOf, hp0otherOf, hp0kept, hp0images, hp0acts, hp0iUnd, hp0iFor, hp0iX, hp0made⟩ := id ip0
  have hpx := gok.1
  have gsok := gok.2.2.2.2
  have ggd := gok.2.2.2.1
  refine Met.ofW (cc := cX12_everybody) (maxL := 1) (ret := (some .int)) (by decide) rfl ?_
  intro p e s m args below meth c s₁ B hml hv
  obtain ⟨rfl, hok, hG, hB⟩ := hv
  have hx := B.exec
  have hb := B.bytes
  have hr := B.returns
  have hts := atoms_spec (ws := wsX12_everybody) B.pre
  have hown : s.vm.findClass RX12 = some m.cls := findClass_of_methodNamed B.named
  have hlocks := B.notSynchronized
  have hK := hG.1
  have hw : hp_w D T s s.heap [] := hp_w.rf hok
  have IX12 : ∀ w ∈ wsX120, w ∈ wsX12_everybody := by decide +kernel
  have L39 := hts (.fieldLink RX12 39 "PalmCensusModel" "said" "[I") (by decide +kernel)
  have hl := lv_entry ([.ref ap0]) (n := 1) (Nat.le_of_ble_eq_true rfl)
  rw [lg_entry_eq]
  generalize (lg_sl ([.ref ap0]) ++ List.replicate (1 - (lg_sl ([.ref ap0])).length) Slot.unset).toArray = ls at hl ⊢
  have hl : lv_has ls 1 [(0, .ref ap0)] := hl
  show WX12_everybody_8 p l e s m below meth c D T ap0 s.heap [] (F0 m 0 ls [])
  refine lv_iconst (v := 1) hx hb dX12_everybody_0 (by decide) ?_
  refine lv_aload_n hx hb dX12_everybody_1 rfl (lv_at hl 0 rfl) ?_
  refine hp_getr hx hb hts IX12 hown hK hw.1 hp0 rfl 20 (by decide) L39 rfl dX12_everybody_2 ?_
  refine lv_iconst (v := 2) hx hb dX12_everybody_5 (by decide) ?_
  refine hp_iald hx hb hK hw.1 hp0said (vp_iv (show iv 2 2 2 from ⟨by decide, by decide⟩) (by decide)) dX12_everybody_6 (fun v6 hr6 => ?_)
  have h6 := gsok _ _ hr6
  obtain ⟨x6, rfl, bx6⟩ := sP_rd2 h6 (show iv 2 2 2 from ⟨by decide, by decide⟩)
  have bx6e : iv x6 0 8 := rI_iv (h8 _ hr6)
  refine lv_ishl hx hb dX12_everybody_7 ?_
  refine lv_topi (fun x7 ex7 => ?_)
  have bx7 : iv x7 1 256 := iv_shl 8 (show iv 1 1 1 from ⟨by decide, by decide⟩) bx6e ex7 (by decide)
  refine lv_iconst (v := 1) hx hb dX12_everybody_8 (by decide) ?_
  refine lv_isub hx hb dX12_everybody_9 ?_
  refine lv_topi (fun x9 ex9 => ?_)
  have bx9 : iv x9 0 255 := iv_sub bx7 (show iv 1 1 1 from ⟨by decide, by decide⟩) ex9 (by decide)
  have qx9 := iv_sub_eq bx7 (show iv 1 1 1 from ⟨by decide, by decide⟩) ex9 (by decide)
  exact W.iret (v := x9) hx hb hr (fun t ht hW => ⟨some (.int x9), rfl, ⟨x9, rfl, bx9⟩, ht⟩) (fun q h => by cases h) dX12_everybody_10
abbrev WX12_meetIn (p : Program) (l : Launch) (e : Env) (s : State) (m : MethodId) (below : List Frame) (meth : Method) (c : Code) (D : hp_D) (T : hp_T) (ap0 : Nat) (xp1 : Int32) (xp2 : Int32) (xp3 : Int32) (H : Heap) (locs : List Loc) (g : JFrame) : Prop := W p l e (headSpec wsX12_meetIn ({ frames := 1, cells := 0, slots := 0, locals := 22 })).room s m ([.ref ap0, .int xp1, .int xp2, .int xp3] : List Value).toArray below meth c H locs 0 0 (MQ below (hq_p (fun v => ∃ r : Int32, v = some (.int r) ∧ iv r 0 1)) ([.ref ap0, .int xp1, .int xp2, .int xp3] : List Value).toArray s 0 0 (fun _ => False)) g
set_option maxHeartbeats 4000000 in
set_option maxRecDepth 100000 in
theorem sX12_meetIn (l : Launch) (D : hp_D) (T : hp_T) (ap0 : Nat) (xp1 : Int32) (xp2 : Int32) (xp3 : Int32) (Gm : moG) (ip0 : isMo T ap0 Gm) (bp1 : iv xp1 0 9) (bp2 : iv xp2 0 9) (bp3 : iv xp3 0 11) : Met l yX12_meetIn wsX12_meetIn ({ frames := 1, cells := 0, slots := 0, locals := 22 }) (hp_Pc D T [.ref ap0, .int xp1, .int xp2, .int xp3] (fun _ => True)) (hq_p (fun v => ∃ r : Int32, v = some (.int r) ∧ iv r 0 1)) 0 0 (fun _ => False) := by
  obtain ⟨ap0tape, ap0sign, ap0len, ap0clause, ap0clauses, ap0read, ap0opn, ap0stack, ap0word, ap0said, ap0was, ap0fitting, ap0sums, ap0sort, ap0sumsBy, ap0oneOf, ap0otherOf, ap0kept, ap0images, ap0acts, ap0iUnd, ap0iFor, ap0iX, ap0made, gok, hp0, hp0tape, hp0sign, hp0len, hp0clause, hp0clauses, hp0read, hp0opn, hp0stack, hp0word, hp0said, hp0was, hp0fitting, hp0sums, hp0sort, hp0sumsBy, hp0oneOf, hp0otherOf, hp0kept, hp0images, hp0acts, hp0iUnd, hp0iFor, hp0iX, hp0made⟩ := id ip0
  have hpx := gok.1
  have gsok := gok.2.2.2.2
  have ggd := gok.2.2.2.1
  refine Met.ofW (cc := cX12_meetIn) (maxL := 4) (ret := (some .boolean)) (by decide) rfl ?_
  intro p e s m args below meth c s₁ B hml hv
  obtain ⟨rfl, hok, hG, hB⟩ := hv
  have hx := B.exec
  have hb := B.bytes
  have hr := B.returns
  have hts := atoms_spec (ws := wsX12_meetIn) B.pre
  have hown : s.vm.findClass RX12 = some m.cls := findClass_of_methodNamed B.named
  have hlocks := B.notSynchronized
  have hK := hG.1
  have hw : hp_w D T s s.heap [] := hp_w.rf hok
  have hl := lv_entry ([.ref ap0, .int xp1, .int xp2, .int xp3]) (n := 4) (Nat.le_of_ble_eq_true rfl)
  rw [lg_entry_eq]
  generalize (lg_sl ([.ref ap0, .int xp1, .int xp2, .int xp3]) ++ List.replicate (4 - (lg_sl ([.ref ap0, .int xp1, .int xp2, .int xp3])).length) Slot.unset).toArray = ls at hl ⊢
  have hl : lv_has ls 4 [(0, .ref ap0), (1, .int xp1), (2, .int xp2), (3, .int xp3)] := hl
  show WX12_meetIn p l e s m below meth c D T ap0 xp1 xp2 xp3 s.heap [] (F0 m 0 ls [])
  refine lv_aload_n hx hb dX12_meetIn_0 rfl (lv_at hl 0 rfl) ?_
  refine lv_iload_n hx hb dX12_meetIn_1 rfl (lv_at hl 1 rfl) ?_
  refine lv_iload_n hx hb dX12_meetIn_2 rfl (lv_at hl 3 rfl) ?_
  refine hp_callpi (va_runV (As := [.int xp1, .int xp3]) (rest := []) ⟨hx, hb, hml, hown, hts⟩ (sX12_placeOf l D T ap0 xp1 xp3 Gm ip0 bp1 bp3) (cwV 2 hts gX12_meetIn_X12_placeOf rfl rfl rfl (by decide +kernel) ⟨Nat.le_of_ble_eq_true rfl, Nat.le_of_ble_eq_true rfl⟩) (hp_preV hG hw hp0 rfl trivial) rfl rfl hl.1 rfl (lv_room (Nat.le_of_ble_eq_true rfl)) dX12_meetIn_3 ⟨Nat.zero_le _, Nat.zero_le _⟩) (fun x3 bx3 => ?_)
  refine lv_aload_n hx hb dX12_meetIn_6 rfl (lv_at hl 0 rfl) ?_
  refine lv_iload_n hx hb dX12_meetIn_7 rfl (lv_at hl 2 rfl) ?_
  refine lv_iload_n hx hb dX12_meetIn_8 rfl (lv_at hl 3 rfl) ?_
  refine hp_callpi (va_runV (As := [.int xp2, .int xp3]) (rest := [.int x3]) ⟨hx, hb, hml, hown, hts⟩ (sX12_placeOf l D T ap0 xp2 xp3 Gm ip0 bp2 bp3) (cwV 2 hts gX12_meetIn_X12_placeOf rfl rfl rfl (by decide +kernel) ⟨Nat.le_of_ble_eq_true rfl, Nat.le_of_ble_eq_true rfl⟩) (hp_preV hG hw hp0 rfl trivial) rfl rfl hl.1 rfl (lv_room (Nat.le_of_ble_eq_true rfl)) dX12_meetIn_9 ⟨Nat.zero_le _, Nat.zero_le _⟩) (fun x9 bx9 => ?_)
  have J31 : ∀ (y31_s0 : Int32), iv y31_s0 0 1 → ∀ (ls : Array Slot), lv_has ls 4 [] → WX12_meetIn p l e s m below meth c D T ap0 xp1 xp2 xp3 s.heap [] (F0 m 31 ls [.int y31_s0]) := by
    intro y31_s0 c31_y31_s0 ls hl
    exact W.zret (v := y31_s0) hx hb hr (iv_nz c31_y31_s0) (fun t ht hW => ⟨some (.int y31_s0), rfl, ⟨y31_s0, rfl, c31_y31_s0⟩, ht⟩) (fun q h => by cases h) dX12_meetIn_31
  have J30 : ∀ (ls : Array Slot), lv_has ls 4 [] → WX12_meetIn p l e s m below meth c D T ap0 xp1 xp2 xp3 s.heap [] (F0 m 30 ls []) := by
    intro ls hl
    refine lv_iconst (v := 0) hx hb dX12_meetIn_30 (by decide) ?_
    exact J31 (0 : Int32) (show iv 0 0 1 from ⟨by decide, by decide⟩) _ (lv_sub hl [] rfl)
  refine lv_icmp_ne (tgt := 30) hx hb dX12_meetIn_12 (by decide) (fun c12 => ?_) (fun c12 => ?_)
  · exact J30 _ (lv_sub hl [] rfl)
  · refine lv_aload_n hx hb dX12_meetIn_15 rfl (lv_at hl 0 rfl) ?_
    refine lv_iload_n hx hb dX12_meetIn_16 rfl (lv_at hl 1 rfl) ?_
    refine lv_iload_n hx hb dX12_meetIn_17 rfl (lv_at hl 3 rfl) ?_
    refine hp_callpi (va_runV (As := [.int xp1, .int xp3]) (rest := []) ⟨hx, hb, hml, hown, hts⟩ (sX12_placeOf l D T ap0 xp1 xp3 Gm ip0 bp1 bp3) (cwV 2 hts gX12_meetIn_X12_placeOf rfl rfl rfl (by decide +kernel) ⟨Nat.le_of_ble_eq_true rfl, Nat.le_of_ble_eq_true rfl⟩) (hp_preV hG hw hp0 rfl trivial) rfl rfl hl.1 rfl (lv_room (Nat.le_of_ble_eq_true rfl)) dX12_meetIn_18 ⟨Nat.zero_le _, Nat.zero_le _⟩) (fun x18 bx18 => ?_)
    refine lv_bipush (v := 99) hx hb dX12_meetIn_21 (by decide) ?_
    refine lv_icmp_eq (tgt := 30) hx hb dX12_meetIn_23 (by decide) (fun c23 => ?_) (fun c23 => ?_)
    · have r23tp : iv x18 99 99 := (iv_both (iv_any x18) (iv_eq (show iv 99 99 99 from ⟨by decide, by decide⟩) c23)).mono (by decide) (by decide)
      exact J30 _ (lv_sub hl [] rfl)
    · refine lv_iconst (v := 1) hx hb dX12_meetIn_26 (by decide) ?_
      refine lv_goto (tgt := 31) hx hb dX12_meetIn_27 (by decide) ?_
      exact J31 (1 : Int32) (show iv 1 0 1 from ⟨by decide, by decide⟩) _ (lv_sub hl [] rfl)
abbrev WX12_meet (p : Program) (l : Launch) (e : Env) (s : State) (m : MethodId) (below : List Frame) (meth : Method) (c : Code) (D : hp_D) (T : hp_T) (ap0 : Nat) (xp1 : Int32) (xp2 : Int32) (H : Heap) (locs : List Loc) (g : JFrame) : Prop := W p l e (headSpec wsX12_meet ({ frames := 2, cells := 0, slots := 0, locals := 45 })).room s m ([.ref ap0, .int xp1, .int xp2] : List Value).toArray below meth c H locs 0 0 (MQ below (hq_p (fun v => ∃ r : Int32, v = some (.int r) ∧ iv r 0 1)) ([.ref ap0, .int xp1, .int xp2] : List Value).toArray s 0 0 (fun _ => False)) g
set_option maxHeartbeats 4000000 in
set_option maxRecDepth 100000 in
theorem sX12_meet (l : Launch) (D : hp_D) (T : hp_T) (ap0 : Nat) (xp1 : Int32) (xp2 : Int32) (Gm : moG) (ip0 : isMo T ap0 Gm) (bp1 : iv xp1 0 9) (bp2 : iv xp2 0 9) : Met l yX12_meet wsX12_meet ({ frames := 2, cells := 0, slots := 0, locals := 45 }) (hp_Pc D T [.ref ap0, .int xp1, .int xp2] (fun _ => True)) (hq_p (fun v => ∃ r : Int32, v = some (.int r) ∧ iv r 0 1)) 0 0 (fun _ => False) := by
  obtain ⟨ap0tape, ap0sign, ap0len, ap0clause, ap0clauses, ap0read, ap0opn, ap0stack, ap0word, ap0said, ap0was, ap0fitting, ap0sums, ap0sort, ap0sumsBy, ap0oneOf, ap0otherOf, ap0kept, ap0images, ap0acts, ap0iUnd, ap0iFor, ap0iX, ap0made, gok, hp0, hp0tape, hp0sign, hp0len, hp0clause, hp0clauses, hp0read, hp0opn, hp0stack, hp0word, hp0said, hp0was, hp0fitting, hp0sums, hp0sort, hp0sumsBy, hp0oneOf, hp0otherOf, hp0kept, hp0images, hp0acts, hp0iUnd, hp0iFor, hp0iX, hp0made⟩ := id ip0
  have hpx := gok.1
  have gsok := gok.2.2.2.2
  have ggd := gok.2.2.2.1
  refine Met.ofW (cc := cX12_meet) (maxL := 4) (ret := (some .boolean)) (by decide) rfl ?_
  intro p e s m args below meth c s₁ B hml hv
  obtain ⟨rfl, hok, hG, hB⟩ := hv
  have hx := B.exec
  have hb := B.bytes
  have hr := B.returns
  have hts := atoms_spec (ws := wsX12_meet) B.pre
  have hown : s.vm.findClass RX12 = some m.cls := findClass_of_methodNamed B.named
  have hlocks := B.notSynchronized
  have hK := hG.1
  have hw : hp_w D T s s.heap [] := hp_w.rf hok
  have IX12 : ∀ w ∈ wsX120, w ∈ wsX12_meet := by decide +kernel
  have L39 := hts (.fieldLink RX12 39 "PalmCensusModel" "said" "[I") (by decide +kernel)
  have hl := lv_entry ([.ref ap0, .int xp1, .int xp2]) (n := 4) (Nat.le_of_ble_eq_true rfl)
  rw [lg_entry_eq]
  generalize (lg_sl ([.ref ap0, .int xp1, .int xp2]) ++ List.replicate (4 - (lg_sl ([.ref ap0, .int xp1, .int xp2])).length) Slot.unset).toArray = ls at hl ⊢
  have hl : lv_has ls 4 [(0, .ref ap0), (1, .int xp1), (2, .int xp2)] := hl
  show WX12_meet p l e s m below meth c D T ap0 xp1 xp2 s.heap [] (F0 m 0 ls [])
  refine lv_iconst (v := 0) hx hb dX12_meet_0 (by decide) ?_
  refine lv_istore_n (lv' := [(3, .int 0), (0, .ref ap0), (1, .int xp1), (2, .int xp2)]) hx hb dX12_meet_1 rfl hl (by decide) rfl (fun ls hl => ?_)
  have J2 : ∀ (n : Nat) (y2_l3 : Int32), (12 - y2_l3.toInt).toNat < n → iv xp1 0 9 → iv xp2 0 9 → iv y2_l3 0 12 → ∀ (ls : Array Slot), lv_has ls 4 [(0, .ref ap0), (1, .int xp1), (2, .int xp2), (3, .int y2_l3)] → WX12_meet p l e s m below meth c D T ap0 xp1 xp2 s.heap [] (F0 m 2 ls []) := by
    intro n
    induction n with
    | zero => intro y2_l3 hmu2 c2_xp1 c2_xp2 c2_y2_l3 ls hl; exact absurd hmu2 (Nat.not_lt_zero _)
    | succ n ih2 =>
      intro y2_l3 hmu2 c2_xp1 c2_xp2 c2_y2_l3 ls hl
      refine lv_iload_n hx hb dX12_meet_2 rfl (lv_at hl 3 rfl) ?_
      refine lv_aload_n hx hb dX12_meet_3 rfl (lv_at hl 0 rfl) ?_
      refine hp_getr hx hb hts IX12 hown hK hw.1 hp0 rfl 20 (by decide) L39 rfl dX12_meet_4 ?_
      refine lv_iconst (v := 1) hx hb dX12_meet_7 (by decide) ?_
      refine hp_iald hx hb hK hw.1 hp0said (vp_iv (show iv 1 1 1 from ⟨by decide, by decide⟩) (by decide)) dX12_meet_8 (fun v8 hr8 => ?_)
      have h8 := gsok _ _ hr8
      obtain ⟨x8, rfl, bx8⟩ := sP_rd1 h8 (show iv 1 1 1 from ⟨by decide, by decide⟩)
      refine lv_icmp_ge (tgt := 30) hx hb dX12_meet_9 (by decide) (fun c9 => ?_) (fun c9 => ?_)
      · refine lv_iconst (v := 0) hx hb dX12_meet_30 (by decide) ?_
        exact W.zret (v := 0) hx hb hr (iv_nz (show iv 0 0 1 from ⟨by decide, by decide⟩)) (fun t ht hW => ⟨some (.int 0), rfl, ⟨(0 : Int32), rfl, (show iv 0 0 1 from ⟨by decide, by decide⟩)⟩, ht⟩) (fun q h => by cases h) dX12_meet_31
      · have r9fp : iv y2_l3 0 11 := (iv_lt_l (iv_nle c9) c2_y2_l3 bx8).mono (by decide) (by decide)
        have r9fq : iv x8 1 12 := (iv_lt_r (iv_nle c9) c2_y2_l3 bx8).mono (by decide) (by decide)
        refine lv_aload_n hx hb dX12_meet_12 rfl (lv_at hl 0 rfl) ?_
        refine lv_iload_n hx hb dX12_meet_13 rfl (lv_at hl 1 rfl) ?_
        refine lv_iload_n hx hb dX12_meet_14 rfl (lv_at hl 2 rfl) ?_
        refine lv_iload_n hx hb dX12_meet_15 rfl (lv_at hl 3 rfl) ?_
        refine hp_callpi (va_runV (As := [.int xp1, .int xp2, .int y2_l3]) (rest := []) ⟨hx, hb, hml, hown, hts⟩ (sX12_meetIn l D T ap0 xp1 xp2 y2_l3 Gm ip0 c2_xp1 c2_xp2 r9fp) (cwV 3 hts gX12_meet_X12_meetIn rfl rfl rfl (by decide +kernel) ⟨Nat.le_of_ble_eq_true rfl, Nat.le_of_ble_eq_true rfl⟩) (hp_preV hG hw hp0 rfl trivial) rfl rfl hl.1 rfl (lv_room (Nat.le_of_ble_eq_true rfl)) dX12_meet_16 ⟨Nat.zero_le _, Nat.zero_le _⟩) (fun x16 bx16 => ?_)
        refine lv_if_eq (tgt := 24) hx hb dX12_meet_19 (by decide) (fun c19 => ?_) (fun c19 => ?_)
        · have r19tp : iv x16 0 0 := (iv_both bx16 (iv_eq (show iv 0 0 0 from ⟨by decide, by decide⟩) c19)).mono (by decide) (by decide)
          obtain ⟨x24, ex24⟩ : ∃ y : Int32, y = y2_l3 + 1 := ⟨_, rfl⟩
          have bx24 : iv x24 1 12 := iv_add r9fp (show iv 1 1 1 from ⟨by decide, by decide⟩) ex24 (by decide)
          have qx24 := iv_add_eq r9fp (show iv 1 1 1 from ⟨by decide, by decide⟩) ex24 (by decide)
          refine lv_iinc (v := x24) (lv' := [(3, .int x24), (0, .ref ap0), (1, .int xp1), (2, .int xp2)]) hx hb dX12_meet_24 hl (k := 3) rfl (by rw [ex24]; rfl) (by decide) rfl (fun ls hl => ?_)
          refine lv_goto (tgt := 2) hx hb dX12_meet_27 (by decide) ?_
          exact ih2 x24 (mu_up 1 hmu2 (qx24) (by decide) (show iv x24 0 12 from (bx24.mono (by decide) (by decide))).2) c2_xp1 c2_xp2 (bx24.mono (by decide) (by decide)) _ (lv_sub hl [1, 2, 3, 0] rfl)
        · have r19fp : iv x16 1 1 := (iv_ne_lo c19 bx16 rfl).mono (by decide) (by decide)
          refine lv_iconst (v := 1) hx hb dX12_meet_22 (by decide) ?_
          exact W.zret (v := 1) hx hb hr (iv_nz (show iv 1 0 1 from ⟨by decide, by decide⟩)) (fun t ht hW => ⟨some (.int 1), rfl, ⟨(1 : Int32), rfl, (show iv 1 0 1 from ⟨by decide, by decide⟩)⟩, ht⟩) (fun q h => by cases h) dX12_meet_23
  exact J2 _ (0 : Int32) (Nat.lt_succ_self _) bp1 bp2 (show iv 0 0 12 from ⟨by decide, by decide⟩) _ (lv_sub hl [1, 2, 3, 0] rfl)
abbrev WX12_crowdOf (p : Program) (l : Launch) (e : Env) (s : State) (m : MethodId) (below : List Frame) (meth : Method) (c : Code) (D : hp_D) (T : hp_T) (ap0 : Nat) (xp1 : Int32) (xp2 : Int32) (xp3 : Int32) (H : Heap) (locs : List Loc) (g : JFrame) : Prop := W p l e (headSpec wsX12_crowdOf ({ frames := 1, cells := 0, slots := 0, locals := 22 })).room s m ([.ref ap0, .int xp1, .int xp2, .int xp3] : List Value).toArray below meth c H locs 0 0 (MQ below (hq_p (fun v => ∃ r : Int32, v = some (.int r) ∧ True)) ([.ref ap0, .int xp1, .int xp2, .int xp3] : List Value).toArray s 0 0 (fun _ => False)) g
set_option maxHeartbeats 4000000 in
set_option maxRecDepth 100000 in
theorem sX12_crowdOf (l : Launch) (D : hp_D) (T : hp_T) (ap0 : Nat) (xp1 : Int32) (xp2 : Int32) (xp3 : Int32) (Gm : moG) (ip0 : isMo T ap0 Gm) (bp3 : iv xp3 0 11) : Met l yX12_crowdOf wsX12_crowdOf ({ frames := 1, cells := 0, slots := 0, locals := 22 }) (hp_Pc D T [.ref ap0, .int xp1, .int xp2, .int xp3] (fun _ => True)) (hq_p (fun v => ∃ r : Int32, v = some (.int r) ∧ True)) 0 0 (fun _ => False) := by
  obtain ⟨ap0tape, ap0sign, ap0len, ap0clause, ap0clauses, ap0read, ap0opn, ap0stack, ap0word, ap0said, ap0was, ap0fitting, ap0sums, ap0sort, ap0sumsBy, ap0oneOf, ap0otherOf, ap0kept, ap0images, ap0acts, ap0iUnd, ap0iFor, ap0iX, ap0made, gok, hp0, hp0tape, hp0sign, hp0len, hp0clause, hp0clauses, hp0read, hp0opn, hp0stack, hp0word, hp0said, hp0was, hp0fitting, hp0sums, hp0sort, hp0sumsBy, hp0oneOf, hp0otherOf, hp0kept, hp0images, hp0acts, hp0iUnd, hp0iFor, hp0iX, hp0made⟩ := id ip0
  have hpx := gok.1
  have gsok := gok.2.2.2.2
  have ggd := gok.2.2.2.1
  refine Met.ofW (cc := cX12_crowdOf) (maxL := 6) (ret := (some .int)) (by decide) rfl ?_
  intro p e s m args below meth c s₁ B hml hv
  obtain ⟨rfl, hok, hG, hB⟩ := hv
  have hx := B.exec
  have hb := B.bytes
  have hr := B.returns
  have hts := atoms_spec (ws := wsX12_crowdOf) B.pre
  have hown : s.vm.findClass RX12 = some m.cls := findClass_of_methodNamed B.named
  have hlocks := B.notSynchronized
  have hK := hG.1
  have hw : hp_w D T s s.heap [] := hp_w.rf hok
  have IX12 : ∀ w ∈ wsX120, w ∈ wsX12_crowdOf := by decide +kernel
  have L39 := hts (.fieldLink RX12 39 "PalmCensusModel" "said" "[I") (by decide +kernel)
  have hl := lv_entry ([.ref ap0, .int xp1, .int xp2, .int xp3]) (n := 6) (Nat.le_of_ble_eq_true rfl)
  rw [lg_entry_eq]
  generalize (lg_sl ([.ref ap0, .int xp1, .int xp2, .int xp3]) ++ List.replicate (6 - (lg_sl ([.ref ap0, .int xp1, .int xp2, .int xp3])).length) Slot.unset).toArray = ls at hl ⊢
  have hl : lv_has ls 6 [(0, .ref ap0), (1, .int xp1), (2, .int xp2), (3, .int xp3)] := hl
  show WX12_crowdOf p l e s m below meth c D T ap0 xp1 xp2 xp3 s.heap [] (F0 m 0 ls [])
  refine lv_iconst (v := 0) hx hb dX12_crowdOf_0 (by decide) ?_
  refine lv_istore (lv' := [(4, .int 0), (0, .ref ap0), (1, .int xp1), (2, .int xp2), (3, .int xp3)]) hx hb dX12_crowdOf_1 hl (by decide) rfl (fun ls hl => ?_)
  refine lv_iconst (v := 0) hx hb dX12_crowdOf_3 (by decide) ?_
  refine lv_istore (lv' := [(5, .int 0), (4, .int 0), (0, .ref ap0), (1, .int xp1), (2, .int xp2), (3, .int xp3)]) hx hb dX12_crowdOf_4 hl (by decide) rfl (fun ls hl => ?_)
  have J6 : ∀ (n : Nat) (y6_l4 y6_l5 : Int32), (10 - y6_l5.toInt).toNat < n → iv xp3 0 11 → iv y6_l4 0 1023 → iv y6_l5 0 10 → ∀ (ls : Array Slot), lv_has ls 6 [(0, .ref ap0), (1, .int xp1), (2, .int xp2), (3, .int xp3), (4, .int y6_l4), (5, .int y6_l5)] → WX12_crowdOf p l e s m below meth c D T ap0 xp1 xp2 xp3 s.heap [] (F0 m 6 ls []) := by
    intro n
    induction n with
    | zero => intro y6_l4 y6_l5 hmu6 c6_xp3 c6_y6_l4 c6_y6_l5 ls hl; exact absurd hmu6 (Nat.not_lt_zero _)
    | succ n ih6 =>
      intro y6_l4 y6_l5 hmu6 c6_xp3 c6_y6_l4 c6_y6_l5 ls hl
      refine lv_iload hx hb dX12_crowdOf_6 (lv_at hl 5 rfl) ?_
      refine lv_aload_n hx hb dX12_crowdOf_8 rfl (lv_at hl 0 rfl) ?_
      refine hp_getr hx hb hts IX12 hown hK hw.1 hp0 rfl 20 (by decide) L39 rfl dX12_crowdOf_9 ?_
      refine lv_iconst (v := 2) hx hb dX12_crowdOf_12 (by decide) ?_
      refine hp_iald hx hb hK hw.1 hp0said (vp_iv (show iv 2 2 2 from ⟨by decide, by decide⟩) (by decide)) dX12_crowdOf_13 (fun v13 hr13 => ?_)
      have h13 := gsok _ _ hr13
      obtain ⟨x13, rfl, bx13⟩ := sP_rd2 h13 (show iv 2 2 2 from ⟨by decide, by decide⟩)
      refine lv_icmp_ge (tgt := 56) hx hb dX12_crowdOf_14 (by decide) (fun c14 => ?_) (fun c14 => ?_)
      · refine lv_iload hx hb dX12_crowdOf_56 (lv_at hl 4 rfl) ?_
        exact W.iret (v := y6_l4) hx hb hr (fun t ht hW => ⟨some (.int y6_l4), rfl, ⟨y6_l4, rfl, trivial⟩, ht⟩) (fun q h => by cases h) dX12_crowdOf_58
      · have r14fp : iv y6_l5 0 9 := (iv_lt_l (iv_nle c14) c6_y6_l5 bx13).mono (by decide) (by decide)
        have r14fq : iv x13 1 10 := (iv_lt_r (iv_nle c14) c6_y6_l5 bx13).mono (by decide) (by decide)
        refine lv_iload hx hb dX12_crowdOf_17 (lv_at hl 4 rfl) ?_
        refine lv_iload_n hx hb dX12_crowdOf_19 rfl (lv_at hl 1 rfl) ?_
        refine lv_iload hx hb dX12_crowdOf_20 (lv_at hl 5 rfl) ?_
        refine hp_callpi (va_runS (As := [.int xp1, .int y6_l5]) (rest := [.int y6_l4]) ⟨hx, hb, hml, hown, hts⟩ (sX12_isOf l D T xp1 y6_l5) (va_cwS 2 hts gX12_crowdOf_X12_isOf rfl rfl rfl (by decide +kernel) ⟨Nat.le_of_ble_eq_true rfl, Nat.le_of_ble_eq_true rfl⟩) (hp_preS hG hw trivial) rfl rfl hl.1 rfl (lv_room (Nat.le_of_ble_eq_true rfl)) dX12_crowdOf_22 ⟨Nat.zero_le _, Nat.zero_le _⟩) (fun x22 bx22 => ?_)
        have J47 : ∀ (y47_s1 : Int32), iv xp3 0 11 → iv y6_l5 0 9 → iv y6_l4 0 1023 → iv y47_s1 0 512 → ∀ (ls : Array Slot), lv_has ls 6 [(0, .ref ap0), (1, .int xp1), (2, .int xp2), (3, .int xp3), (5, .int y6_l5)] → WX12_crowdOf p l e s m below meth c D T ap0 xp1 xp2 xp3 s.heap [] (F0 m 47 ls [.int y47_s1, .int y6_l4]) := by
          intro y47_s1 c47_xp3 c47_y6_l5 c47_y6_l4 c47_y47_s1 ls hl
          refine lv_ior hx hb dX12_crowdOf_47 ?_
          refine lv_topi (fun x47 ex47 => ?_)
          have bx47 : iv x47 0 1023 := iv_or 10 c47_y6_l4 (c47_y47_s1.mono (by decide) (by decide)) ex47 (by decide) (by decide)
          refine lv_istore (lv' := [(4, .int x47), (0, .ref ap0), (1, .int xp1), (2, .int xp2), (3, .int xp3), (5, .int y6_l5)]) hx hb dX12_crowdOf_48 hl (by decide) rfl (fun ls hl => ?_)
          obtain ⟨x50, ex50⟩ : ∃ y : Int32, y = y6_l5 + 1 := ⟨_, rfl⟩
          have bx50 : iv x50 1 10 := iv_add c47_y6_l5 (show iv 1 1 1 from ⟨by decide, by decide⟩) ex50 (by decide)
          have qx50 := iv_add_eq c47_y6_l5 (show iv 1 1 1 from ⟨by decide, by decide⟩) ex50 (by decide)
          refine lv_iinc (v := x50) (lv' := [(5, .int x50), (4, .int x47), (0, .ref ap0), (1, .int xp1), (2, .int xp2), (3, .int xp3)]) hx hb dX12_crowdOf_50 hl (k := 5) rfl (by rw [ex50]; rfl) (by decide) rfl (fun ls hl => ?_)
          refine lv_goto (tgt := 6) hx hb dX12_crowdOf_53 (by decide) ?_
          exact ih6 x47 x50 (mu_up 1 hmu6 (qx50) (by decide) (show iv x50 0 10 from (bx50.mono (by decide) (by decide))).2) c47_xp3 bx47 (bx50.mono (by decide) (by decide)) _ (lv_sub hl [2, 3, 4, 5, 1, 0] rfl)
        have J46 : iv xp3 0 11 → iv y6_l5 0 9 → iv y6_l4 0 1023 → ∀ (ls : Array Slot), lv_has ls 6 [(0, .ref ap0), (1, .int xp1), (2, .int xp2), (3, .int xp3), (5, .int y6_l5)] → WX12_crowdOf p l e s m below meth c D T ap0 xp1 xp2 xp3 s.heap [] (F0 m 46 ls [.int y6_l4]) := by
          intro c46_xp3 c46_y6_l5 c46_y6_l4 ls hl
          refine lv_iconst (v := 0) hx hb dX12_crowdOf_46 (by decide) ?_
          exact J47 (0 : Int32) c46_xp3 c46_y6_l5 c46_y6_l4 (show iv 0 0 512 from ⟨by decide, by decide⟩) _ (lv_sub hl [0, 1, 2, 3, 4] rfl)
        refine lv_if_eq (tgt := 46) hx hb dX12_crowdOf_25 (by decide) (fun c25 => ?_) (fun c25 => ?_)
        · have r25tp : iv x22 0 0 := (iv_both bx22 (iv_eq (show iv 0 0 0 from ⟨by decide, by decide⟩) c25)).mono (by decide) (by decide)
          exact J46 c6_xp3 r14fp c6_y6_l4 _ (lv_sub hl [0, 1, 2, 3, 5] rfl)
        · have r25fp : iv x22 1 1 := (iv_ne_lo c25 bx22 rfl).mono (by decide) (by decide)
          refine lv_aload_n hx hb dX12_crowdOf_28 rfl (lv_at hl 0 rfl) ?_
          refine lv_iload hx hb dX12_crowdOf_29 (lv_at hl 5 rfl) ?_
          refine lv_iload_n hx hb dX12_crowdOf_31 rfl (lv_at hl 3 rfl) ?_
          refine hp_callpi (va_runV (As := [.int y6_l5, .int xp3]) (rest := [.int y6_l4]) ⟨hx, hb, hml, hown, hts⟩ (sX12_placeOf l D T ap0 y6_l5 xp3 Gm ip0 r14fp c6_xp3) (cwV 2 hts gX12_crowdOf_X12_placeOf rfl rfl rfl (by decide +kernel) ⟨Nat.le_of_ble_eq_true rfl, Nat.le_of_ble_eq_true rfl⟩) (hp_preV hG hw hp0 rfl trivial) rfl rfl hl.1 rfl (lv_room (Nat.le_of_ble_eq_true rfl)) dX12_crowdOf_32 ⟨Nat.zero_le _, Nat.zero_le _⟩) (fun x32 bx32 => ?_)
          refine lv_iload_n hx hb dX12_crowdOf_35 rfl (lv_at hl 2 rfl) ?_
          refine lv_icmp_ne (tgt := 46) hx hb dX12_crowdOf_36 (by decide) (fun c36 => ?_) (fun c36 => ?_)
          · exact J46 c6_xp3 r14fp c6_y6_l4 _ (lv_sub hl [0, 1, 2, 3, 5] rfl)
          · refine lv_iconst (v := 1) hx hb dX12_crowdOf_39 (by decide) ?_
            refine lv_iload hx hb dX12_crowdOf_40 (lv_at hl 5 rfl) ?_
            refine lv_ishl hx hb dX12_crowdOf_42 ?_
            refine lv_topi (fun x42 ex42 => ?_)
            have bx42 : iv x42 1 512 := iv_shl 9 (show iv 1 1 1 from ⟨by decide, by decide⟩) r14fp ex42 (by decide)
            refine lv_goto (tgt := 47) hx hb dX12_crowdOf_43 (by decide) ?_
            exact J47 x42 c6_xp3 r14fp c6_y6_l4 (bx42.mono (by decide) (by decide)) _ (lv_sub hl [0, 1, 2, 3, 5] rfl)
  exact J6 _ (0 : Int32) (0 : Int32) (Nat.lt_succ_self _) bp3 (show iv 0 0 1023 from ⟨by decide, by decide⟩) (show iv 0 0 10 from ⟨by decide, by decide⟩) _ (lv_sub hl [2, 3, 4, 5, 1, 0] rfl)
abbrev WX12_gives (p : Program) (l : Launch) (e : Env) (s : State) (m : MethodId) (below : List Frame) (meth : Method) (c : Code) (D : hp_D) (T : hp_T) (ap0 : Nat) (xp1 : Int32) (H : Heap) (locs : List Loc) (g : JFrame) : Prop := W p l e (headSpec wsX12_gives ({ frames := 1, cells := 0, slots := 0, locals := 22 })).room s m ([.ref ap0, .int xp1] : List Value).toArray below meth c H locs 0 0 (MQ below (hq_p (fun v => ∃ r : Int32, v = some (.int r) ∧ True)) ([.ref ap0, .int xp1] : List Value).toArray s 0 0 (fun _ => False)) g
set_option maxHeartbeats 4000000 in
set_option maxRecDepth 100000 in
theorem sX12_gives (l : Launch) (D : hp_D) (T : hp_T) (ap0 : Nat) (xp1 : Int32) (Gm : moG) (ip0 : isMo T ap0 Gm) (bp1 : iv xp1 0 9) : Met l yX12_gives wsX12_gives ({ frames := 1, cells := 0, slots := 0, locals := 22 }) (hp_Pc D T [.ref ap0, .int xp1] (fun _ => True)) (hq_p (fun v => ∃ r : Int32, v = some (.int r) ∧ True)) 0 0 (fun _ => False) := by
  obtain ⟨ap0tape, ap0sign, ap0len, ap0clause, ap0clauses, ap0read, ap0opn, ap0stack, ap0word, ap0said, ap0was, ap0fitting, ap0sums, ap0sort, ap0sumsBy, ap0oneOf, ap0otherOf, ap0kept, ap0images, ap0acts, ap0iUnd, ap0iFor, ap0iX, ap0made, gok, hp0, hp0tape, hp0sign, hp0len, hp0clause, hp0clauses, hp0read, hp0opn, hp0stack, hp0word, hp0said, hp0was, hp0fitting, hp0sums, hp0sort, hp0sumsBy, hp0oneOf, hp0otherOf, hp0kept, hp0images, hp0acts, hp0iUnd, hp0iFor, hp0iX, hp0made⟩ := id ip0
  have hpx := gok.1
  have gsok := gok.2.2.2.2
  have ggd := gok.2.2.2.1
  refine Met.ofW (cc := cX12_gives) (maxL := 3) (ret := (some .int)) (by decide) rfl ?_
  intro p e s m args below meth c s₁ B hml hv
  obtain ⟨rfl, hok, hG, hB⟩ := hv
  have hx := B.exec
  have hb := B.bytes
  have hr := B.returns
  have hts := atoms_spec (ws := wsX12_gives) B.pre
  have hown : s.vm.findClass RX12 = some m.cls := findClass_of_methodNamed B.named
  have hlocks := B.notSynchronized
  have hK := hG.1
  have hw : hp_w D T s s.heap [] := hp_w.rf hok
  have hl := lv_entry ([.ref ap0, .int xp1]) (n := 3) (Nat.le_of_ble_eq_true rfl)
  rw [lg_entry_eq]
  generalize (lg_sl ([.ref ap0, .int xp1]) ++ List.replicate (3 - (lg_sl ([.ref ap0, .int xp1])).length) Slot.unset).toArray = ls at hl ⊢
  have hl : lv_has ls 3 [(0, .ref ap0), (1, .int xp1)] := hl
  show WX12_gives p l e s m below meth c D T ap0 xp1 s.heap [] (F0 m 0 ls [])
  refine lv_aload_n hx hb dX12_gives_0 rfl (lv_at hl 0 rfl) ?_
  refine lv_iload_n hx hb dX12_gives_1 rfl (lv_at hl 1 rfl) ?_
  refine lv_iconst (v := 1) hx hb dX12_gives_2 (by decide) ?_
  refine hp_callpi (va_runV (As := [.int xp1, .int 1]) (rest := []) ⟨hx, hb, hml, hown, hts⟩ (sX12_personOf l D T ap0 xp1 (1 : Int32) Gm ip0 bp1 (show iv 1 0 3 from ⟨by decide, by decide⟩)) (cwV 2 hts gX12_gives_X12_personOf rfl rfl rfl (by decide +kernel) ⟨Nat.le_of_ble_eq_true rfl, Nat.le_of_ble_eq_true rfl⟩) (hp_preV hG hw hp0 rfl trivial) rfl rfl hl.1 rfl (lv_room (Nat.le_of_ble_eq_true rfl)) dX12_gives_3 ⟨Nat.zero_le _, Nat.zero_le _⟩) (fun x3 bx3 => ?_)
  refine lv_iconst (v := 1) hx hb dX12_gives_6 (by decide) ?_
  refine lv_icmp_ne (tgt := 12) hx hb dX12_gives_7 (by decide) (fun c7 => ?_) (fun c7 => ?_)
  · refine lv_aload_n hx hb dX12_gives_12 rfl (lv_at hl 0 rfl) ?_
    refine lv_iload_n hx hb dX12_gives_13 rfl (lv_at hl 1 rfl) ?_
    refine lv_iconst (v := 2) hx hb dX12_gives_14 (by decide) ?_
    refine hp_callpi (va_runV (As := [.int xp1, .int 2]) (rest := []) ⟨hx, hb, hml, hown, hts⟩ (sX12_personOf l D T ap0 xp1 (2 : Int32) Gm ip0 bp1 (show iv 2 0 3 from ⟨by decide, by decide⟩)) (cwV 2 hts gX12_gives_X12_personOf rfl rfl rfl (by decide +kernel) ⟨Nat.le_of_ble_eq_true rfl, Nat.le_of_ble_eq_true rfl⟩) (hp_preV hG hw hp0 rfl trivial) rfl rfl hl.1 rfl (lv_room (Nat.le_of_ble_eq_true rfl)) dX12_gives_15 ⟨Nat.zero_le _, Nat.zero_le _⟩) (fun x15 bx15 => ?_)
    refine lv_iconst (v := 1) hx hb dX12_gives_18 (by decide) ?_
    have J27 : ∀ (y27_s0 : Int32), iv xp1 0 9 → iv y27_s0 1 2 → ∀ (ls : Array Slot), lv_has ls 3 [(0, .ref ap0), (1, .int xp1)] → WX12_gives p l e s m below meth c D T ap0 xp1 s.heap [] (F0 m 27 ls [.int y27_s0]) := by
      intro y27_s0 c27_xp1 c27_y27_s0 ls hl
      refine lv_istore_n (lv' := [(2, .int y27_s0), (0, .ref ap0), (1, .int xp1)]) hx hb dX12_gives_27 rfl hl (by decide) rfl (fun ls hl => ?_)
      refine lv_aload_n hx hb dX12_gives_28 rfl (lv_at hl 1 rfl) ?_
      refine lv_iload_n hx hb dX12_gives_29 rfl (lv_at hl 2 rfl) ?_
      refine lv_iconst (v := 0) hx hb dX12_gives_30 (by decide) ?_
      refine hp_callpi (va_runV (As := [.int xp1, .int 0]) (rest := []) ⟨hx, hb, hml, hown, hts⟩ (sX12_personOf l D T ap0 xp1 (0 : Int32) Gm ip0 c27_xp1 (show iv 0 0 3 from ⟨by decide, by decide⟩)) (cwV 2 hts gX12_gives_X12_personOf rfl rfl rfl (by decide +kernel) ⟨Nat.le_of_ble_eq_true rfl, Nat.le_of_ble_eq_true rfl⟩) (hp_preV hG hw hp0 rfl trivial) rfl rfl hl.1 rfl (lv_room (Nat.le_of_ble_eq_true rfl)) dX12_gives_31 ⟨Nat.zero_le _, Nat.zero_le _⟩) (fun x31 bx31 => ?_)
      refine lv_iconst (v := 1) hx hb dX12_gives_34 (by decide) ?_
      have J44 : ∀ (y44_s0 : Int32), iv y44_s0 (-2) 2 → ∀ (ls : Array Slot), lv_has ls 3 [] → WX12_gives p l e s m below meth c D T ap0 xp1 s.heap [] (F0 m 44 ls [.int y44_s0]) := by
        intro y44_s0 c44_y44_s0 ls hl
        exact W.iret (v := y44_s0) hx hb hr (fun t ht hW => ⟨some (.int y44_s0), rfl, ⟨y44_s0, rfl, trivial⟩, ht⟩) (fun q h => by cases h) dX12_gives_44
      refine lv_icmp_ne (tgt := 43) hx hb dX12_gives_35 (by decide) (fun c35 => ?_) (fun c35 => ?_)
      · refine lv_iload_n hx hb dX12_gives_43 rfl (lv_at hl 0 rfl) ?_
        exact J44 y27_s0 (c27_y27_s0.mono (by decide) (by decide)) _ (lv_sub hl [] rfl)
      · have r35fp : iv x31 1 1 := (iv_both (iv_any x31) (iv_eq (show iv 1 1 1 from ⟨by decide, by decide⟩) c35)).mono (by decide) (by decide)
        refine lv_iload_n hx hb dX12_gives_38 rfl (lv_at hl 0 rfl) ?_
        refine lv_ineg hx hb dX12_gives_39 ?_
        refine lv_topi (fun x39 ex39 => ?_)
        have bx39 : iv x39 (-2) (-1) := iv_neg c27_y27_s0 ex39 (by decide)
        refine lv_goto (tgt := 44) hx hb dX12_gives_40 (by decide) ?_
        exact J44 x39 (bx39.mono (by decide) (by decide)) _ (lv_sub hl [] rfl)
    refine lv_icmp_ne (tgt := 26) hx hb dX12_gives_19 (by decide) (fun c19 => ?_) (fun c19 => ?_)
    · refine lv_iconst (v := 2) hx hb dX12_gives_26 (by decide) ?_
      exact J27 (2 : Int32) bp1 (show iv 2 1 2 from ⟨by decide, by decide⟩) _ (lv_sub hl [0, 1] rfl)
    · have r19fp : iv x15 1 1 := (iv_both (iv_any x15) (iv_eq (show iv 1 1 1 from ⟨by decide, by decide⟩) c19)).mono (by decide) (by decide)
      refine lv_iconst (v := 1) hx hb dX12_gives_22 (by decide) ?_
      refine lv_goto (tgt := 27) hx hb dX12_gives_23 (by decide) ?_
      exact J27 (1 : Int32) bp1 (show iv 1 1 2 from ⟨by decide, by decide⟩) _ (lv_sub hl [0, 1] rfl)
  · have r7fp : iv x3 1 1 := (iv_both (iv_any x3) (iv_eq (show iv 1 1 1 from ⟨by decide, by decide⟩) c7)).mono (by decide) (by decide)
    refine lv_iconst (v := 0) hx hb dX12_gives_10 (by decide) ?_
    exact W.iret (v := 0) hx hb hr (fun t ht hW => ⟨some (.int 0), rfl, ⟨(0 : Int32), rfl, trivial⟩, ht⟩) (fun q h => by cases h) dX12_gives_11
abbrev WX12_metAhead (p : Program) (l : Launch) (e : Env) (s : State) (m : MethodId) (below : List Frame) (meth : Method) (c : Code) (D : hp_D) (T : hp_T) (ap0 : Nat) (xp1 : Int32) (xp2 : Int32) (xp3 : Int32) (H : Heap) (locs : List Loc) (g : JFrame) : Prop := W p l e (headSpec wsX12_metAhead ({ frames := 2, cells := 0, slots := 0, locals := 45 })).room s m ([.ref ap0, .int xp1, .int xp2, .int xp3] : List Value).toArray below meth c H locs 0 0 (MQ below (hq_p (fun v => ∃ r : Int32, v = some (.int r) ∧ True)) ([.ref ap0, .int xp1, .int xp2, .int xp3] : List Value).toArray s 0 0 (fun _ => False)) g
set_option maxHeartbeats 4000000 in
set_option maxRecDepth 100000 in
theorem sX12_metAhead (l : Launch) (D : hp_D) (T : hp_T) (ap0 : Nat) (xp1 : Int32) (xp2 : Int32) (xp3 : Int32) (Gm : moG) (ip0 : isMo T ap0 Gm) (bp1 : iv xp1 0 9) (bp2 : iv xp2 0 9) (bp3 : iv xp3 0 11) : Met l yX12_metAhead wsX12_metAhead ({ frames := 2, cells := 0, slots := 0, locals := 45 }) (hp_Pc D T [.ref ap0, .int xp1, .int xp2, .int xp3] (fun _ => True)) (hq_p (fun v => ∃ r : Int32, v = some (.int r) ∧ True)) 0 0 (fun _ => False) := by
  obtain ⟨ap0tape, ap0sign, ap0len, ap0clause, ap0clauses, ap0read, ap0opn, ap0stack, ap0word, ap0said, ap0was, ap0fitting, ap0sums, ap0sort, ap0sumsBy, ap0oneOf, ap0otherOf, ap0kept, ap0images, ap0acts, ap0iUnd, ap0iFor, ap0iX, ap0made, gok, hp0, hp0tape, hp0sign, hp0len, hp0clause, hp0clauses, hp0read, hp0opn, hp0stack, hp0word, hp0said, hp0was, hp0fitting, hp0sums, hp0sort, hp0sumsBy, hp0oneOf, hp0otherOf, hp0kept, hp0images, hp0acts, hp0iUnd, hp0iFor, hp0iX, hp0made⟩ := id ip0
  have hpx := gok.1
  have gsok := gok.2.2.2.2
  have ggd := gok.2.2.2.1
  refine Met.ofW (cc := cX12_metAhead) (maxL := 6) (ret := (some .int)) (by decide) rfl ?_
  intro p e s m args below meth c s₁ B hml hv
  obtain ⟨rfl, hok, hG, hB⟩ := hv
  have hx := B.exec
  have hb := B.bytes
  have hr := B.returns
  have hts := atoms_spec (ws := wsX12_metAhead) B.pre
  have hown : s.vm.findClass RX12 = some m.cls := findClass_of_methodNamed B.named
  have hlocks := B.notSynchronized
  have hK := hG.1
  have hw : hp_w D T s s.heap [] := hp_w.rf hok
  have hl := lv_entry ([.ref ap0, .int xp1, .int xp2, .int xp3]) (n := 6) (Nat.le_of_ble_eq_true rfl)
  rw [lg_entry_eq]
  generalize (lg_sl ([.ref ap0, .int xp1, .int xp2, .int xp3]) ++ List.replicate (6 - (lg_sl ([.ref ap0, .int xp1, .int xp2, .int xp3])).length) Slot.unset).toArray = ls at hl ⊢
  have hl : lv_has ls 6 [(0, .ref ap0), (1, .int xp1), (2, .int xp2), (3, .int xp3)] := hl
  show WX12_metAhead p l e s m below meth c D T ap0 xp1 xp2 xp3 s.heap [] (F0 m 0 ls [])
  refine lv_iconst (v := 0) hx hb dX12_metAhead_0 (by decide) ?_
  refine lv_istore (lv' := [(4, .int 0), (0, .ref ap0), (1, .int xp1), (2, .int xp2), (3, .int xp3)]) hx hb dX12_metAhead_1 hl (by decide) rfl (fun ls hl => ?_)
  refine lv_iconst (v := 0) hx hb dX12_metAhead_3 (by decide) ?_
  refine lv_istore (lv' := [(5, .int 0), (4, .int 0), (0, .ref ap0), (1, .int xp1), (2, .int xp2), (3, .int xp3)]) hx hb dX12_metAhead_4 hl (by decide) rfl (fun ls hl => ?_)
  have J6 : ∀ (n : Nat) (y6_l4 y6_l5 : Int32), (11 - y6_l5.toInt).toNat < n → iv xp1 0 9 → iv xp2 0 9 → iv xp3 0 11 → iv y6_l5 0 11 → ∀ (ls : Array Slot), lv_has ls 6 [(0, .ref ap0), (1, .int xp1), (2, .int xp2), (3, .int xp3), (4, .int y6_l4), (5, .int y6_l5)] → WX12_metAhead p l e s m below meth c D T ap0 xp1 xp2 xp3 s.heap [] (F0 m 6 ls []) := by
    intro n
    induction n with
    | zero => intro y6_l4 y6_l5 hmu6 c6_xp1 c6_xp2 c6_xp3 c6_y6_l5 ls hl; exact absurd hmu6 (Nat.not_lt_zero _)
    | succ n ih6 =>
      intro y6_l4 y6_l5 hmu6 c6_xp1 c6_xp2 c6_xp3 c6_y6_l5 ls hl
      refine lv_iload hx hb dX12_metAhead_6 (lv_at hl 5 rfl) ?_
      refine lv_iload_n hx hb dX12_metAhead_8 rfl (lv_at hl 3 rfl) ?_
      refine lv_icmp_ge (tgt := 39) hx hb dX12_metAhead_9 (by decide) (fun c9 => ?_) (fun c9 => ?_)
      · refine lv_iload hx hb dX12_metAhead_39 (lv_at hl 4 rfl) ?_
        exact W.iret (v := y6_l4) hx hb hr (fun t ht hW => ⟨some (.int y6_l4), rfl, ⟨y6_l4, rfl, trivial⟩, ht⟩) (fun q h => by cases h) dX12_metAhead_41
      · have r9fp : iv y6_l5 0 10 := (iv_lt_l (iv_nle c9) c6_y6_l5 c6_xp3).mono (by decide) (by decide)
        have r9fq : iv xp3 1 11 := (iv_lt_r (iv_nle c9) c6_y6_l5 c6_xp3).mono (by decide) (by decide)
        refine lv_iload hx hb dX12_metAhead_12 (lv_at hl 4 rfl) ?_
        refine lv_aload_n hx hb dX12_metAhead_14 rfl (lv_at hl 0 rfl) ?_
        refine lv_iload_n hx hb dX12_metAhead_15 rfl (lv_at hl 1 rfl) ?_
        refine lv_iload_n hx hb dX12_metAhead_16 rfl (lv_at hl 2 rfl) ?_
        refine lv_iload hx hb dX12_metAhead_17 (lv_at hl 5 rfl) ?_
        refine hp_callpi (va_runV (As := [.int xp1, .int xp2, .int y6_l5]) (rest := [.int y6_l4]) ⟨hx, hb, hml, hown, hts⟩ (sX12_meetIn l D T ap0 xp1 xp2 y6_l5 Gm ip0 c6_xp1 c6_xp2 (r9fp.mono (by decide) (by decide))) (cwV 3 hts gX12_metAhead_X12_meetIn rfl rfl rfl (by decide +kernel) ⟨Nat.le_of_ble_eq_true rfl, Nat.le_of_ble_eq_true rfl⟩) (hp_preV hG hw hp0 rfl trivial) rfl rfl hl.1 rfl (lv_room (Nat.le_of_ble_eq_true rfl)) dX12_metAhead_19 ⟨Nat.zero_le _, Nat.zero_le _⟩) (fun x19 bx19 => ?_)
        have J30 : ∀ (y30_s1 : Int32), iv xp1 0 9 → iv xp2 0 9 → iv xp3 1 11 → iv y6_l5 0 10 → iv y30_s1 0 1 → ∀ (ls : Array Slot), lv_has ls 6 [(0, .ref ap0), (1, .int xp1), (2, .int xp2), (3, .int xp3), (5, .int y6_l5)] → WX12_metAhead p l e s m below meth c D T ap0 xp1 xp2 xp3 s.heap [] (F0 m 30 ls [.int y30_s1, .int y6_l4]) := by
          intro y30_s1 c30_xp1 c30_xp2 c30_xp3 c30_y6_l5 c30_y30_s1 ls hl
          refine lv_iadd hx hb dX12_metAhead_30 ?_
          refine lv_topi (fun x30 ex30 => ?_)
          refine lv_istore (lv' := [(4, .int x30), (0, .ref ap0), (1, .int xp1), (2, .int xp2), (3, .int xp3), (5, .int y6_l5)]) hx hb dX12_metAhead_31 hl (by decide) rfl (fun ls hl => ?_)
          obtain ⟨x33, ex33⟩ : ∃ y : Int32, y = y6_l5 + 1 := ⟨_, rfl⟩
          have bx33 : iv x33 1 11 := iv_add c30_y6_l5 (show iv 1 1 1 from ⟨by decide, by decide⟩) ex33 (by decide)
          have qx33 := iv_add_eq c30_y6_l5 (show iv 1 1 1 from ⟨by decide, by decide⟩) ex33 (by decide)
          refine lv_iinc (v := x33) (lv' := [(5, .int x33), (4, .int x30), (0, .ref ap0), (1, .int xp1), (2, .int xp2), (3, .int xp3)]) hx hb dX12_metAhead_33 hl (k := 5) rfl (by rw [ex33]; rfl) (by decide) rfl (fun ls hl => ?_)
          refine lv_goto (tgt := 6) hx hb dX12_metAhead_36 (by decide) ?_
          exact ih6 x30 x33 (mu_up 1 hmu6 (qx33) (by decide) (show iv x33 0 11 from (bx33.mono (by decide) (by decide))).2) c30_xp1 c30_xp2 (c30_xp3.mono (by decide) (by decide)) (bx33.mono (by decide) (by decide)) _ (lv_sub hl [2, 3, 4, 5, 1, 0] rfl)
        refine lv_if_eq (tgt := 29) hx hb dX12_metAhead_22 (by decide) (fun c22 => ?_) (fun c22 => ?_)
        · have r22tp : iv x19 0 0 := (iv_both bx19 (iv_eq (show iv 0 0 0 from ⟨by decide, by decide⟩) c22)).mono (by decide) (by decide)
          refine lv_iconst (v := 0) hx hb dX12_metAhead_29 (by decide) ?_
          exact J30 (0 : Int32) c6_xp1 c6_xp2 r9fq r9fp (show iv 0 0 1 from ⟨by decide, by decide⟩) _ (lv_sub hl [0, 1, 2, 3, 5] rfl)
        · have r22fp : iv x19 1 1 := (iv_ne_lo c22 bx19 rfl).mono (by decide) (by decide)
          refine lv_iconst (v := 1) hx hb dX12_metAhead_25 (by decide) ?_
          refine lv_goto (tgt := 30) hx hb dX12_metAhead_26 (by decide) ?_
          exact J30 (1 : Int32) c6_xp1 c6_xp2 r9fq r9fp (show iv 1 0 1 from ⟨by decide, by decide⟩) _ (lv_sub hl [0, 1, 2, 3, 5] rfl)
  exact J6 _ (0 : Int32) (0 : Int32) (Nat.lt_succ_self _) bp1 bp2 bp3 (show iv 0 0 11 from ⟨by decide, by decide⟩) _ (lv_sub hl [2, 3, 4, 5, 1, 0] rfl)
