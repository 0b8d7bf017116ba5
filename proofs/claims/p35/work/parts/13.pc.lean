abbrev WX11_feed (p : Program) (l : Launch) (e : Env) (s : State) (m : MethodId) (below : List Frame) (meth : Method) (c : Code) (D : hp_D) (T : hp_T) (ap0 : Nat) (xp1 : Int32) (xp2 : Int32) (xp3 : Int32) (xp4 : Int32) (xp5 : Int32) (H : Heap) (locs : List Loc) (g : JFrame) : Prop := W p l e (headSpec wsX11_feed ({ frames := 1, cells := 0, slots := 0, locals := 22 })).room s m ([.ref ap0, .int xp1, .int xp2, .int xp3, .int xp4, .int xp5] : List Value).toArray below meth c H locs 0 0 (MQ below (hq_e D T (fun v _ _ => ∃ r : Int32, v = some (.int r) ∧ True)) ([.ref ap0, .int xp1, .int xp2, .int xp3, .int xp4, .int xp5] : List Value).toArray s 0 0 (hp_F T)) g
set_option maxHeartbeats 4000000 in
set_option maxRecDepth 100000 in
theorem sX11_feed (l : Launch) (D : hp_D) (T : hp_T) (ap0 : Nat) (xp1 : Int32) (xp2 : Int32) (xp3 : Int32) (xp4 : Int32) (xp5 : Int32) (Ru : Nat → Prop) (hRu : ∀ b, Ru b → isRule T b) (ap0tp ap0tr ap0rr ap0rl ap0nw ap0im ap0tl ap0sk ap0iq ap0pa ap0sn ap0be : Nat) (hp0 : T ap0 = some (.inr (11, [(rR ap0tp), (rR ap0tr), (rR ap0rr), (rR ap0rl), (rI 0 6), (rR ap0nw), (rR ap0im), (rR ap0tl), (rR ap0sk), (rR ap0iq), (rR ap0pa), (rR ap0sn), (rR ap0be)]))) (ip0tp : isTape T ap0tp) (ip0tr : isTownReader T ap0tr) (ip0rr : isRuleReader T ap0rr) (hp0rl : T ap0rl = some (.inl (5, 6, fun _ => rN Ru))) (pxp0 : Value → Prop) (ip0nw : isMemory T ap0nw pxp0) (pimp0 : Nat → Value → Prop) (hp0im : T ap0im = some (.inl (4, 4, pimp0))) (ip0tl : isTown T ap0tl) (ip0sk : isShaker T Ru ap0sk) (ip0iq : isWorlds T ap0iq) (ip0pa : isParity T ap0pa) (ip0sn : isShuns T ap0sn) (ip0be : isBest T ap0be) : Met l yX11_feed wsX11_feed ({ frames := 1, cells := 0, slots := 0, locals := 22 }) (hp_Pc D T [.ref ap0, .int xp1, .int xp2, .int xp3, .int xp4, .int xp5] (fun _ => True)) (hq_e D T (fun v _ _ => ∃ r : Int32, v = some (.int r) ∧ True)) 0 0 (hp_F T) := by
  obtain ⟨ap0tpbt, hp0tp, hp0tpbt⟩ := id ip0tp
  obtain ⟨ap0trtp, ap0trtw, hp0tr, ip0trtp, ip0trtw⟩ := id ip0tr
  obtain ⟨ap0trtpbt, hp0trtp, hp0trtpbt⟩ := id ip0trtp
  obtain ⟨ap0trtwkin, ap0trtwpl, ap0trtwcr, hp0trtw, hp0trtwkin, hp0trtwpl, hp0trtwcr⟩ := id ip0trtw
  obtain ⟨ap0rrtp, ap0rrstp, hp0rr, ip0rrtp, hp0rrstp⟩ := id ip0rr
  obtain ⟨ap0rrtpbt, hp0rrtp, hp0rrtpbt⟩ := id ip0rrtp
  obtain ⟨ap0nwtw, ap0nwtg, ap0nwth, ap0nwts, ap0nwpm, ap0nwak, ap0nwao, ap0nwah, ap0nwaw, hp0nw, ip0nwtw, hp0nwtg, hp0nwth, hp0nwts, hp0nwpm, hp0nwak, hp0nwao, hp0nwah, hp0nwaw⟩ := id ip0nw
  obtain ⟨ap0nwtwkin, ap0nwtwpl, ap0nwtwcr, hp0nwtw, hp0nwtwkin, hp0nwtwpl, hp0nwtwcr⟩ := id ip0nwtw
  obtain ⟨ap0tlkin, ap0tlpl, ap0tlcr, hp0tl, hp0tlkin, hp0tlpl, hp0tlcr⟩ := id ip0tl
  obtain ⟨ap0skwd, ap0sksk, ap0skth, hp0sk, hp0skwd, hp0sksk, hp0skth⟩ := id ip0sk
  obtain ⟨ap0iqfi, ap0iqwo, ap0iqsu, ap0iqsh, ap0iqme, ap0iqs1, ap0iqs2, hp0iq, hp0iqfi, hp0iqwo, hp0iqsu, hp0iqsh, hp0iqme, hp0iqs1, hp0iqs2⟩ := id ip0iq
  obtain ⟨ap0pabo, hp0pa, hp0pabo⟩ := id ip0pa
  obtain ⟨ap0snle, ap0sngr, ap0sndu, ap0snit, ap0snop, hp0sn, hp0snle, hp0sngr, hp0sndu, hp0snit, hp0snop⟩ := id ip0sn
  have hp0be : T ap0be = some (.inr (0, [(rI 0 1), rA, rA, rA])) := ip0be
  refine Met.ofW (cc := cX11_feed) (maxL := 6) (ret := (some .int)) (by decide) rfl ?_
  intro p e s m args below meth c s₁ B hml hv
  obtain ⟨rfl, hok, hG, hB⟩ := hv
  have hx := B.exec
  have hb := B.bytes
  have hr := B.returns
  have hts := atoms_spec (ws := wsX11_feed) B.pre
  have hown : s.vm.findClass RX11 = some m.cls := findClass_of_methodNamed B.named
  have hlocks := B.notSynchronized
  have hK := hG.1
  have hw : hp_w D T s s.heap [] := hp_w.rf hok
  have IX11 : ∀ w ∈ wsX110, w ∈ wsX11_feed := by decide +kernel
  have IX7 : ∀ w ∈ wsX70, w ∈ wsX11_feed := by decide +kernel
  have L12 := hts (.fieldLink RX11 12 "PalmCensus" "tape" "LPalmCensus$Tape;") (by decide +kernel)
  have L95 := hts (.fieldLink RX11 95 "PalmCensus$Tape" "length" "I") (by decide +kernel)
  have hl := lv_entry ([.ref ap0, .int xp1, .int xp2, .int xp3, .int xp4, .int xp5]) (n := 6) (Nat.le_of_ble_eq_true rfl)
  rw [lg_entry_eq]
  generalize (lg_sl ([.ref ap0, .int xp1, .int xp2, .int xp3, .int xp4, .int xp5]) ++ List.replicate (6 - (lg_sl ([.ref ap0, .int xp1, .int xp2, .int xp3, .int xp4, .int xp5])).length) Slot.unset).toArray = ls at hl ⊢
  have hl : lv_has ls 6 [(0, .ref ap0), (1, .int xp1), (2, .int xp2), (3, .int xp3), (4, .int xp4), (5, .int xp5)] := hl
  show WX11_feed p l e s m below meth c D T ap0 xp1 xp2 xp3 xp4 xp5 s.heap [] (F0 m 0 ls [])
  obtain ⟨x9000op0tp_1, bx9000op0tp_1, fx9000op0tp_1⟩ := hp_opI hw.1 hp0tp 1 rfl
  refine lv_aload_n hx hb dX11_feed_0 rfl (lv_at hl 0 rfl) ?_
  refine hp_getr hx hb hts IX11 hown hK hw.1 hp0 rfl 0 (by decide) L12 rfl dX11_feed_1 ?_
  refine hp_getf hx hb hts IX7 hown hK fx9000op0tp_1 rfl (by decide) L95 dX11_feed_4 ?_
  refine lv_bipush (v := 20) hx hb dX11_feed_7 (by decide) ?_
  refine lv_iadd hx hb dX11_feed_9 ?_
  refine lv_topi (fun x9 ex9 => ?_)
  have bx9 : iv x9 20 420 := iv_add bx9000op0tp_1 (show iv 20 20 20 from ⟨by decide, by decide⟩) ex9 (by decide)
  have qx9 := iv_add_eq bx9000op0tp_1 (show iv 20 20 20 from ⟨by decide, by decide⟩) ex9 (by decide)
  refine lv_sipush (v := 400) hx hb dX11_feed_10 (by decide) ?_
  refine lv_icmp_le (tgt := 18) hx hb dX11_feed_13 (by decide) (fun c13 => ?_) (fun c13 => ?_)
  · have r13tp : iv x9 20 400 := (iv_le_l c13 bx9 (show iv 400 400 400 from ⟨by decide, by decide⟩)).mono (by decide) (by decide)
    have r13tpu : iv x9000op0tp_1 0 380 := iv_bku qx9 r13tp bx9000op0tp_1 (show iv 20 20 20 from ⟨by decide, by decide⟩) (by decide)
    refine lv_aload_n hx hb dX11_feed_18 rfl (lv_at hl 0 rfl) ?_
    refine hp_getr hx hb hts IX11 hown hK hw.1 hp0 rfl 0 (by decide) L12 rfl dX11_feed_19 ?_
    refine lv_iload_n hx hb dX11_feed_22 rfl (lv_at hl 1 rfl) ?_
    refine hp_callev (va_runV (As := [.int xp1]) (rest := []) ⟨hx, hb, hml, hown, hts⟩ (sX7_put l D T ap0tp xp1 ip0tp) (cwV 1 hts gX11_feed_X7_put rfl rfl rfl (by decide +kernel) ⟨Nat.le_of_ble_eq_true rfl, Nat.le_of_ble_eq_true rfl⟩) (hp_preV hG hw hp0tp rfl trivial) rfl rfl hl.1 rfl (lv_room (Nat.le_of_ble_eq_true rfl)) dX11_feed_23 ⟨Nat.zero_le _, Nat.zero_le _⟩) hw (fun st23 t23 H23 locs23 eh23 eg23 bx23 hw => ?_)
    obtain ⟨x23op0tp_1, bx23op0tp_1, fx23op0tp_1⟩ := hp_opI hw.1 hp0tp 1 rfl
    refine lv_aload_n hx hb dX11_feed_26 rfl (lv_at hl 0 rfl) ?_
    refine hp_getr hx hb hts IX11 hown hK hw.1 hp0 rfl 0 (by decide) L12 rfl dX11_feed_27 ?_
    refine lv_iload_n hx hb dX11_feed_30 rfl (lv_at hl 2 rfl) ?_
    refine hp_callev (va_runV (As := [.int xp2]) (rest := []) ⟨hx, hb, hml, hown, hts⟩ (sX7_put l D T ap0tp xp2 ip0tp) (cwV 1 hts gX11_feed_X7_put rfl rfl rfl (by decide +kernel) ⟨Nat.le_of_ble_eq_true rfl, Nat.le_of_ble_eq_true rfl⟩) (hp_preV hG hw hp0tp rfl trivial) rfl rfl hl.1 rfl (lv_room (Nat.le_of_ble_eq_true rfl)) dX11_feed_31 ⟨Nat.zero_le _, Nat.zero_le _⟩) hw (fun st31 t31 H31 locs31 eh31 eg31 bx31 hw => ?_)
    obtain ⟨x31op0tp_1, bx31op0tp_1, fx31op0tp_1⟩ := hp_opI hw.1 hp0tp 1 rfl
    refine lv_aload_n hx hb dX11_feed_34 rfl (lv_at hl 0 rfl) ?_
    refine hp_getr hx hb hts IX11 hown hK hw.1 hp0 rfl 0 (by decide) L12 rfl dX11_feed_35 ?_
    refine lv_iload_n hx hb dX11_feed_38 rfl (lv_at hl 3 rfl) ?_
    refine hp_callev (va_runV (As := [.int xp3]) (rest := []) ⟨hx, hb, hml, hown, hts⟩ (sX7_put l D T ap0tp xp3 ip0tp) (cwV 1 hts gX11_feed_X7_put rfl rfl rfl (by decide +kernel) ⟨Nat.le_of_ble_eq_true rfl, Nat.le_of_ble_eq_true rfl⟩) (hp_preV hG hw hp0tp rfl trivial) rfl rfl hl.1 rfl (lv_room (Nat.le_of_ble_eq_true rfl)) dX11_feed_39 ⟨Nat.zero_le _, Nat.zero_le _⟩) hw (fun st39 t39 H39 locs39 eh39 eg39 bx39 hw => ?_)
    obtain ⟨x39op0tp_1, bx39op0tp_1, fx39op0tp_1⟩ := hp_opI hw.1 hp0tp 1 rfl
    refine lv_aload_n hx hb dX11_feed_42 rfl (lv_at hl 0 rfl) ?_
    refine hp_getr hx hb hts IX11 hown hK hw.1 hp0 rfl 0 (by decide) L12 rfl dX11_feed_43 ?_
    refine lv_iload hx hb dX11_feed_46 (lv_at hl 4 rfl) ?_
    refine hp_callev (va_runV (As := [.int xp4]) (rest := []) ⟨hx, hb, hml, hown, hts⟩ (sX7_put l D T ap0tp xp4 ip0tp) (cwV 1 hts gX11_feed_X7_put rfl rfl rfl (by decide +kernel) ⟨Nat.le_of_ble_eq_true rfl, Nat.le_of_ble_eq_true rfl⟩) (hp_preV hG hw hp0tp rfl trivial) rfl rfl hl.1 rfl (lv_room (Nat.le_of_ble_eq_true rfl)) dX11_feed_48 ⟨Nat.zero_le _, Nat.zero_le _⟩) hw (fun st48 t48 H48 locs48 eh48 eg48 bx48 hw => ?_)
    obtain ⟨x48op0tp_1, bx48op0tp_1, fx48op0tp_1⟩ := hp_opI hw.1 hp0tp 1 rfl
    refine lv_aload_n hx hb dX11_feed_51 rfl (lv_at hl 0 rfl) ?_
    refine hp_getr hx hb hts IX11 hown hK hw.1 hp0 rfl 0 (by decide) L12 rfl dX11_feed_52 ?_
    refine lv_iload hx hb dX11_feed_55 (lv_at hl 5 rfl) ?_
    refine hp_callev (va_runV (As := [.int xp5]) (rest := []) ⟨hx, hb, hml, hown, hts⟩ (sX7_put l D T ap0tp xp5 ip0tp) (cwV 1 hts gX11_feed_X7_put rfl rfl rfl (by decide +kernel) ⟨Nat.le_of_ble_eq_true rfl, Nat.le_of_ble_eq_true rfl⟩) (hp_preV hG hw hp0tp rfl trivial) rfl rfl hl.1 rfl (lv_room (Nat.le_of_ble_eq_true rfl)) dX11_feed_57 ⟨Nat.zero_le _, Nat.zero_le _⟩) hw (fun st57 t57 H57 locs57 eh57 eg57 bx57 hw => ?_)
    obtain ⟨x57op0tp_1, bx57op0tp_1, fx57op0tp_1⟩ := hp_opI hw.1 hp0tp 1 rfl
    refine lv_aload_n hx hb dX11_feed_60 rfl (lv_at hl 0 rfl) ?_
    refine hp_getr hx hb hts IX11 hown hK hw.1 hp0 rfl 0 (by decide) L12 rfl dX11_feed_61 ?_
    refine hp_getf hx hb hts IX7 hown hK fx57op0tp_1 rfl (by decide) L95 dX11_feed_64 ?_
    exact W.iret (v := x57op0tp_1) hx hb hr (fun t ht hW => ⟨some (.int x57op0tp_1), rfl, ⟨x57op0tp_1, rfl, trivial⟩, by rw [ht]; exact hw.1, hw.2.F ht⟩) hw.2.2.2 dX11_feed_67
  · have r13fq : iv x9 401 420 := (iv_lt_r (iv_nle c13) (show iv 400 400 400 from ⟨by decide, by decide⟩) bx9).mono (by decide) (by decide)
    have r13fqu : iv x9000op0tp_1 381 400 := iv_bku qx9 r13fq bx9000op0tp_1 (show iv 20 20 20 from ⟨by decide, by decide⟩) (by decide)
    refine lv_iconst (v := (-1)) hx hb dX11_feed_16 (by decide) ?_
    exact W.iret (v := (-1)) hx hb hr (fun t ht hW => ⟨some (.int (-1)), rfl, ⟨((-1) : Int32), rfl, trivial⟩, by rw [ht]; exact hw.1, hw.2.F ht⟩) hw.2.2.2 dX11_feed_17
abbrev WX11_end (p : Program) (l : Launch) (e : Env) (s : State) (m : MethodId) (below : List Frame) (meth : Method) (c : Code) (D : hp_D) (T : hp_T) (ap0 : Nat) (xp1 : Int32) (H : Heap) (locs : List Loc) (g : JFrame) : Prop := W p l e (headSpec wsX11_end ({ frames := 0, cells := 0, slots := 0, locals := 0 })).room s m ([.ref ap0, .int xp1] : List Value).toArray below meth c H locs 0 0 (MQ below (hq_e D T (fun v _ _ => ∃ r : Int32, v = some (.int r) ∧ True)) ([.ref ap0, .int xp1] : List Value).toArray s 0 0 (hp_F T)) g
set_option maxHeartbeats 4000000 in
set_option maxRecDepth 100000 in
theorem sX11_end (l : Launch) (D : hp_D) (T : hp_T) (ap0 : Nat) (xp1 : Int32) (Ru : Nat → Prop) (hRu : ∀ b, Ru b → isRule T b) (ap0tp ap0tr ap0rr ap0rl ap0nw ap0im ap0tl ap0sk ap0iq ap0pa ap0sn ap0be : Nat) (hp0 : T ap0 = some (.inr (11, [(rR ap0tp), (rR ap0tr), (rR ap0rr), (rR ap0rl), (rI 0 6), (rR ap0nw), (rR ap0im), (rR ap0tl), (rR ap0sk), (rR ap0iq), (rR ap0pa), (rR ap0sn), (rR ap0be)]))) (ip0tp : isTape T ap0tp) (ip0tr : isTownReader T ap0tr) (ip0rr : isRuleReader T ap0rr) (hp0rl : T ap0rl = some (.inl (5, 6, fun _ => rN Ru))) (pxp0 : Value → Prop) (ip0nw : isMemory T ap0nw pxp0) (pimp0 : Nat → Value → Prop) (hp0im : T ap0im = some (.inl (4, 4, pimp0))) (ip0tl : isTown T ap0tl) (ip0sk : isShaker T Ru ap0sk) (ip0iq : isWorlds T ap0iq) (ip0pa : isParity T ap0pa) (ip0sn : isShuns T ap0sn) (ip0be : isBest T ap0be) : Met l yX11_end wsX11_end ({ frames := 0, cells := 0, slots := 0, locals := 0 }) (hp_Pc D T [.ref ap0, .int xp1] (fun _ => True)) (hq_e D T (fun v _ _ => ∃ r : Int32, v = some (.int r) ∧ True)) 0 0 (hp_F T) := by
  obtain ⟨ap0tpbt, hp0tp, hp0tpbt⟩ := id ip0tp
  obtain ⟨ap0trtp, ap0trtw, hp0tr, ip0trtp, ip0trtw⟩ := id ip0tr
  obtain ⟨ap0trtpbt, hp0trtp, hp0trtpbt⟩ := id ip0trtp
  obtain ⟨ap0trtwkin, ap0trtwpl, ap0trtwcr, hp0trtw, hp0trtwkin, hp0trtwpl, hp0trtwcr⟩ := id ip0trtw
  obtain ⟨ap0rrtp, ap0rrstp, hp0rr, ip0rrtp, hp0rrstp⟩ := id ip0rr
  obtain ⟨ap0rrtpbt, hp0rrtp, hp0rrtpbt⟩ := id ip0rrtp
  obtain ⟨ap0nwtw, ap0nwtg, ap0nwth, ap0nwts, ap0nwpm, ap0nwak, ap0nwao, ap0nwah, ap0nwaw, hp0nw, ip0nwtw, hp0nwtg, hp0nwth, hp0nwts, hp0nwpm, hp0nwak, hp0nwao, hp0nwah, hp0nwaw⟩ := id ip0nw
  obtain ⟨ap0nwtwkin, ap0nwtwpl, ap0nwtwcr, hp0nwtw, hp0nwtwkin, hp0nwtwpl, hp0nwtwcr⟩ := id ip0nwtw
  obtain ⟨ap0tlkin, ap0tlpl, ap0tlcr, hp0tl, hp0tlkin, hp0tlpl, hp0tlcr⟩ := id ip0tl
  obtain ⟨ap0skwd, ap0sksk, ap0skth, hp0sk, hp0skwd, hp0sksk, hp0skth⟩ := id ip0sk
  obtain ⟨ap0iqfi, ap0iqwo, ap0iqsu, ap0iqsh, ap0iqme, ap0iqs1, ap0iqs2, hp0iq, hp0iqfi, hp0iqwo, hp0iqsu, hp0iqsh, hp0iqme, hp0iqs1, hp0iqs2⟩ := id ip0iq
  obtain ⟨ap0pabo, hp0pa, hp0pabo⟩ := id ip0pa
  obtain ⟨ap0snle, ap0sngr, ap0sndu, ap0snit, ap0snop, hp0sn, hp0snle, hp0sngr, hp0sndu, hp0snit, hp0snop⟩ := id ip0sn
  have hp0be : T ap0be = some (.inr (0, [(rI 0 1), rA, rA, rA])) := ip0be
  refine Met.ofW (cc := cX11_end) (maxL := 2) (ret := (some .int)) (by decide) rfl ?_
  intro p e s m args below meth c s₁ B hml hv
  obtain ⟨rfl, hok, hG, hB⟩ := hv
  have hx := B.exec
  have hb := B.bytes
  have hr := B.returns
  have hts := atoms_spec (ws := wsX11_end) B.pre
  have hown : s.vm.findClass RX11 = some m.cls := findClass_of_methodNamed B.named
  have hlocks := B.notSynchronized
  have hK := hG.1
  have hw : hp_w D T s s.heap [] := hp_w.rf hok
  have IX11 : ∀ w ∈ wsX110, w ∈ wsX11_end := by decide +kernel
  have IX7 : ∀ w ∈ wsX70, w ∈ wsX11_end := by decide +kernel
  have L12 := hts (.fieldLink RX11 12 "PalmCensus" "tape" "LPalmCensus$Tape;") (by decide +kernel)
  have L95 := hts (.fieldLink RX11 95 "PalmCensus$Tape" "length" "I") (by decide +kernel)
  have hl := lv_entry ([.ref ap0, .int xp1]) (n := 2) (Nat.le_of_ble_eq_true rfl)
  rw [lg_entry_eq]
  generalize (lg_sl ([.ref ap0, .int xp1]) ++ List.replicate (2 - (lg_sl ([.ref ap0, .int xp1])).length) Slot.unset).toArray = ls at hl ⊢
  have hl : lv_has ls 2 [(0, .ref ap0), (1, .int xp1)] := hl
  show WX11_end p l e s m below meth c D T ap0 xp1 s.heap [] (F0 m 0 ls [])
  refine lv_iload_n hx hb dX11_end_0 rfl (lv_at hl 1 rfl) ?_
  have J15 : ∀ (H : Heap) (locs : List Loc), hp_w D T s H locs → ∀ (ls : Array Slot), lv_has ls 2 [] → WX11_end p l e s m below meth c D T ap0 xp1 H locs (F0 m 15 ls []) := by
    intro H15 locs15 hw ls hl
    refine lv_iconst (v := (-1)) hx hb dX11_end_15 (by decide) ?_
    exact W.iret (v := (-1)) hx hb hr (fun t ht hW => ⟨some (.int (-1)), rfl, ⟨((-1) : Int32), rfl, trivial⟩, by rw [ht]; exact hw.1, hw.2.F ht⟩) hw.2.2.2 dX11_end_16
  refine lv_if_lt (tgt := 15) hx hb dX11_end_1 (by decide) (fun c1 => ?_) (fun c1 => ?_)
  · have r1tp : iv xp1 (-2147483648) (-1) := (iv_lt_l c1 (iv_any xp1) (show iv 0 0 0 from ⟨by decide, by decide⟩)).mono (by decide) (by decide)
    exact J15 s.heap [] hw _ (lv_sub hl [] rfl)
  · have r1fq : iv xp1 0 2147483647 := (iv_le_r (iv_nlt c1) (show iv 0 0 0 from ⟨by decide, by decide⟩) (iv_any xp1)).mono (by decide) (by decide)
    refine lv_iload_n hx hb dX11_end_4 rfl (lv_at hl 1 rfl) ?_
    refine lv_aload_n hx hb dX11_end_5 rfl (lv_at hl 0 rfl) ?_
    refine hp_getr hx hb hts IX11 hown hK hw.1 hp0 rfl 0 (by decide) L12 rfl dX11_end_6 ?_
    refine hp_geti hx hb hts IX7 hown hK hw.1 hp0tp rfl 1 (by decide) L95 rfl dX11_end_9 (fun x9 bx9 fx9 => ?_)
    refine lv_icmp_le (tgt := 17) hx hb dX11_end_12 (by decide) (fun c12 => ?_) (fun c12 => ?_)
    · have r12tp : iv xp1 0 400 := (iv_le_l c12 r1fq bx9).mono (by decide) (by decide)
      refine lv_aload_n hx hb dX11_end_17 rfl (lv_at hl 0 rfl) ?_
      refine hp_getr hx hb hts IX11 hown hK hw.1 hp0 rfl 0 (by decide) L12 rfl dX11_end_18 ?_
      refine lv_iload_n hx hb dX11_end_21 rfl (lv_at hl 1 rfl) ?_
      refine hp_put hx hb hts IX7 tyX7 tyX7_ok nmX7 hown hK hw hp0tp rfl 1 (by decide) L95 rfl rfl ⟨_, rfl, r12tp⟩ rfl rfl dX11_end_22 (fun H22 locs22 hw f22n g22 => ?_)
      refine lv_iload_n hx hb dX11_end_25 rfl (lv_at hl 1 rfl) ?_
      exact W.iret (v := xp1) hx hb hr (fun t ht hW => ⟨some (.int xp1), rfl, ⟨xp1, rfl, trivial⟩, by rw [ht]; exact hw.1, hw.2.F ht⟩) hw.2.2.2 dX11_end_26
    · have r12fq : iv xp1 1 2147483647 := (iv_lt_r (iv_nle c12) bx9 r1fq).mono (by decide) (by decide)
      exact J15 s.heap [] hw _ (lv_sub hl [] rfl)
abbrev WX11_town (p : Program) (l : Launch) (e : Env) (s : State) (m : MethodId) (below : List Frame) (meth : Method) (c : Code) (D : hp_D) (T : hp_T) (ap0 : Nat) (H : Heap) (locs : List Loc) (g : JFrame) : Prop := W p l e (headSpec wsX11_town ({ frames := 7, cells := 0, slots := 0, locals := 173 })).room s m ([.ref ap0] : List Value).toArray below meth c H locs 0 0 (MQ below (hq_e D T (fun v _ _ => ∃ r : Int32, v = some (.int r) ∧ True)) ([.ref ap0] : List Value).toArray s 0 0 (hp_F T)) g
set_option maxHeartbeats 4000000 in
set_option maxRecDepth 100000 in
theorem sX11_town (l : Launch) (D : hp_D) (T : hp_T) (ap0 : Nat) (Ru : Nat → Prop) (hRu : ∀ b, Ru b → isRule T b) (ap0tp ap0tr ap0rr ap0rl ap0nw ap0im ap0tl ap0sk ap0iq ap0pa ap0sn ap0be : Nat) (hp0 : T ap0 = some (.inr (11, [(rR ap0tp), (rR ap0tr), (rR ap0rr), (rR ap0rl), (rI 0 6), (rR ap0nw), (rR ap0im), (rR ap0tl), (rR ap0sk), (rR ap0iq), (rR ap0pa), (rR ap0sn), (rR ap0be)]))) (ip0tp : isTape T ap0tp) (ip0tr : isTownReader T ap0tr) (ip0rr : isRuleReader T ap0rr) (hp0rl : T ap0rl = some (.inl (5, 6, fun _ => rN Ru))) (pxp0 : Value → Prop) (ip0nw : isMemory T ap0nw pxp0) (pimp0 : Nat → Value → Prop) (hp0im : T ap0im = some (.inl (4, 4, pimp0))) (ip0tl : isTown T ap0tl) (ip0sk : isShaker T Ru ap0sk) (ip0iq : isWorlds T ap0iq) (ip0pa : isParity T ap0pa) (ip0sn : isShuns T ap0sn) (ip0be : isBest T ap0be) : Met l yX11_town wsX11_town ({ frames := 7, cells := 0, slots := 0, locals := 173 }) (hp_Pc D T [.ref ap0] (fun _ => True)) (hq_e D T (fun v _ _ => ∃ r : Int32, v = some (.int r) ∧ True)) 0 0 (hp_F T) := by
  obtain ⟨ap0tpbt, hp0tp, hp0tpbt⟩ := id ip0tp
  obtain ⟨ap0trtp, ap0trtw, hp0tr, ip0trtp, ip0trtw⟩ := id ip0tr
  obtain ⟨ap0trtpbt, hp0trtp, hp0trtpbt⟩ := id ip0trtp
  obtain ⟨ap0trtwkin, ap0trtwpl, ap0trtwcr, hp0trtw, hp0trtwkin, hp0trtwpl, hp0trtwcr⟩ := id ip0trtw
  obtain ⟨ap0rrtp, ap0rrstp, hp0rr, ip0rrtp, hp0rrstp⟩ := id ip0rr
  obtain ⟨ap0rrtpbt, hp0rrtp, hp0rrtpbt⟩ := id ip0rrtp
  obtain ⟨ap0nwtw, ap0nwtg, ap0nwth, ap0nwts, ap0nwpm, ap0nwak, ap0nwao, ap0nwah, ap0nwaw, hp0nw, ip0nwtw, hp0nwtg, hp0nwth, hp0nwts, hp0nwpm, hp0nwak, hp0nwao, hp0nwah, hp0nwaw⟩ := id ip0nw
  obtain ⟨ap0nwtwkin, ap0nwtwpl, ap0nwtwcr, hp0nwtw, hp0nwtwkin, hp0nwtwpl, hp0nwtwcr⟩ := id ip0nwtw
  obtain ⟨ap0tlkin, ap0tlpl, ap0tlcr, hp0tl, hp0tlkin, hp0tlpl, hp0tlcr⟩ := id ip0tl
  obtain ⟨ap0skwd, ap0sksk, ap0skth, hp0sk, hp0skwd, hp0sksk, hp0skth⟩ := id ip0sk
  obtain ⟨ap0iqfi, ap0iqwo, ap0iqsu, ap0iqsh, ap0iqme, ap0iqs1, ap0iqs2, hp0iq, hp0iqfi, hp0iqwo, hp0iqsu, hp0iqsh, hp0iqme, hp0iqs1, hp0iqs2⟩ := id ip0iq
  obtain ⟨ap0pabo, hp0pa, hp0pabo⟩ := id ip0pa
  obtain ⟨ap0snle, ap0sngr, ap0sndu, ap0snit, ap0snop, hp0sn, hp0snle, hp0sngr, hp0sndu, hp0snit, hp0snop⟩ := id ip0sn
  have hp0be : T ap0be = some (.inr (0, [(rI 0 1), rA, rA, rA])) := ip0be
  refine Met.ofW (cc := cX11_town) (maxL := 1) (ret := (some .int)) (by decide) rfl ?_
  intro p e s m args below meth c s₁ B hml hv
  obtain ⟨rfl, hok, hG, hB⟩ := hv
  have hx := B.exec
  have hb := B.bytes
  have hr := B.returns
  have hts := atoms_spec (ws := wsX11_town) B.pre
  have hown : s.vm.findClass RX11 = some m.cls := findClass_of_methodNamed B.named
  have hlocks := B.notSynchronized
  have hK := hG.1
  have hw : hp_w D T s s.heap [] := hp_w.rf hok
  have IX1 : ∀ w ∈ wsX10, w ∈ wsX11_town := by decide +kernel
  have IX11 : ∀ w ∈ wsX110, w ∈ wsX11_town := by decide +kernel
  have IX7 : ∀ w ∈ wsX70, w ∈ wsX11_town := by decide +kernel
  have IX8 : ∀ w ∈ wsX80, w ∈ wsX11_town := by decide +kernel
  have IX9 : ∀ w ∈ wsX90, w ∈ wsX11_town := by decide +kernel
  have L21 := hts (.fieldLink RX11 21 "PalmCensus" "townReader" "LPalmCensus$TownReader;") (by decide +kernel)
  have L45 := hts (.fieldLink RX11 45 "PalmCensus" "now" "LPalmCensus$Memory;") (by decide +kernel)
  have L109 := hts (.fieldLink RX11 109 "PalmCensus$TownReader" "town" "LPalmCensus$Town;") (by decide +kernel)
  have L12 := hts (.fieldLink RX11 12 "PalmCensus" "tape" "LPalmCensus$Tape;") (by decide +kernel)
  have L95 := hts (.fieldLink RX11 95 "PalmCensus$Tape" "length" "I") (by decide +kernel)
  have L116 := hts (.fieldLink RX11 116 "PalmCensus$Memory" "town" "LPalmCensus$Town;") (by decide +kernel)
  have L117 := hts (.fieldLink RX11 117 "PalmCensus$Town" "people" "I") (by decide +kernel)
  have L106 := hts (.fieldLink RX11 106 "PalmCensus$Tape" "fault" "I") (by decide +kernel)
  have hl := lv_entry ([.ref ap0]) (n := 1) (Nat.le_of_ble_eq_true rfl)
  rw [lg_entry_eq]
  generalize (lg_sl ([.ref ap0]) ++ List.replicate (1 - (lg_sl ([.ref ap0])).length) Slot.unset).toArray = ls at hl ⊢
  have hl : lv_has ls 1 [(0, .ref ap0)] := hl
  show WX11_town p l e s m below meth c D T ap0 s.heap [] (F0 m 0 ls [])
  refine lv_aload_n hx hb dX11_town_0 rfl (lv_at hl 0 rfl) ?_
  refine hp_getr hx hb hts IX11 hown hK hw.1 hp0 rfl 1 (by decide) L21 rfl dX11_town_1 ?_
  refine hp_callei (va_runV (As := []) (rest := []) ⟨hx, hb, hml, hown, hts⟩ (sX9_readTown l D T ap0tr ip0tr) (cwV 0 hts gX11_town_X9_readTown rfl rfl rfl (by decide +kernel) ⟨Nat.le_of_ble_eq_true rfl, Nat.le_of_ble_eq_true rfl⟩) (hp_preV hG hw hp0tr rfl trivial) rfl rfl hl.1 rfl (lv_room (Nat.le_of_ble_eq_true rfl)) dX11_town_4 ⟨Nat.zero_le _, Nat.zero_le _⟩) hw (fun x4 st4 t4 H4 locs4 eh4 eg4 bx4 hw => ?_)
  refine lv_if_ne (tgt := 21) hx hb dX11_town_7 (by decide) (fun c7 => ?_) (fun c7 => ?_)
  · have r7tp : iv x4 1 1 := (iv_ne_lo c7 bx4 rfl).mono (by decide) (by decide)
    refine lv_aload_n hx hb dX11_town_21 rfl (lv_at hl 0 rfl) ?_
    refine hp_getr hx hb hts IX11 hown hK hw.1 hp0 rfl 5 (by decide) L45 rfl dX11_town_22 ?_
    refine lv_aload_n hx hb dX11_town_25 rfl (lv_at hl 0 rfl) ?_
    refine hp_getr hx hb hts IX11 hown hK hw.1 hp0 rfl 1 (by decide) L21 rfl dX11_town_26 ?_
    refine hp_getr hx hb hts IX9 hown hK hw.1 hp0tr rfl 1 (by decide) L109 rfl dX11_town_29 ?_
    refine hp_callev (va_runV (As := [.ref ap0trtw]) (rest := []) ⟨hx, hb, hml, hown, hts⟩ (sX1_settle l D T ap0nw ap0trtw pxp0 ip0nw ip0trtw) (cwV 1 hts gX11_town_X1_settle rfl rfl rfl (by decide +kernel) ⟨Nat.le_of_ble_eq_true rfl, Nat.le_of_ble_eq_true rfl⟩) (hp_preV hG hw hp0nw rfl trivial) rfl rfl hl.1 rfl (lv_room (Nat.le_of_ble_eq_true rfl)) dX11_town_32 ⟨Nat.zero_le _, Nat.zero_le _⟩) hw (fun st32 t32 H32 locs32 eh32 eg32 bx32 hw => ?_)
    refine lv_aload_n hx hb dX11_town_35 rfl (lv_at hl 0 rfl) ?_
    refine hp_getr hx hb hts IX11 hown hK hw.1 hp0 rfl 0 (by decide) L12 rfl dX11_town_36 ?_
    refine lv_iconst (v := 0) hx hb dX11_town_39 (by decide) ?_
    refine hp_put hx hb hts IX7 tyX7 tyX7_ok nmX7 hown hK hw hp0tp rfl 1 (by decide) L95 rfl rfl ⟨_, rfl, (show iv 0 0 400 from ⟨by decide, by decide⟩)⟩ rfl rfl dX11_town_40 (fun H40 locs40 hw f40n g40 => ?_)
    refine lv_aload_n hx hb dX11_town_43 rfl (lv_at hl 0 rfl) ?_
    refine hp_getr hx hb hts IX11 hown hK hw.1 hp0 rfl 5 (by decide) L45 rfl dX11_town_44 ?_
    refine hp_getr hx hb hts IX1 hown hK hw.1 hp0nw rfl 0 (by decide) L116 rfl dX11_town_47 ?_
    refine hp_geti hx hb hts IX8 hown hK hw.1 hp0nwtw rfl 2 (by decide) L117 rfl dX11_town_50 (fun x50 bx50 fx50 => ?_)
    exact W.iret (v := x50) hx hb hr (fun t ht hW => ⟨some (.int x50), rfl, ⟨x50, rfl, trivial⟩, by rw [ht]; exact hw.1, hw.2.F ht⟩) hw.2.2.2 dX11_town_53
  · have r7fp : iv x4 0 0 := (iv_both bx4 (iv_eq (show iv 0 0 0 from ⟨by decide, by decide⟩) c7)).mono (by decide) (by decide)
    refine lv_bipush (v := (-2)) hx hb dX11_town_10 (by decide) ?_
    refine lv_aload_n hx hb dX11_town_12 rfl (lv_at hl 0 rfl) ?_
    refine hp_getr hx hb hts IX11 hown hK hw.1 hp0 rfl 0 (by decide) L12 rfl dX11_town_13 ?_
    refine hp_getA hx hb hts IX7 hown hK hw.1 hp0tp rfl 3 (by decide) L106 rfl dX11_town_16 (fun x16 fx16 => ?_)
    refine lv_isub hx hb dX11_town_19 ?_
    refine lv_topi (fun x19 ex19 => ?_)
    exact W.iret (v := x19) hx hb hr (fun t ht hW => ⟨some (.int x19), rfl, ⟨x19, rfl, trivial⟩, by rw [ht]; exact hw.1, hw.2.F ht⟩) hw.2.2.2 dX11_town_20
abbrev WX11_force (p : Program) (l : Launch) (e : Env) (s : State) (m : MethodId) (below : List Frame) (meth : Method) (c : Code) (D : hp_D) (T : hp_T) (ap0 : Nat) (xp1 : Int32) (H : Heap) (locs : List Loc) (g : JFrame) : Prop := W p l e (headSpec wsX11_force ({ frames := 0, cells := 0, slots := 0, locals := 0 })).room s m ([.ref ap0, .int xp1] : List Value).toArray below meth c H locs 0 0 (MQ below (hq_e D T (fun v _ _ => ∃ r : Int32, v = some (.int r) ∧ True)) ([.ref ap0, .int xp1] : List Value).toArray s 0 0 (hp_F T)) g
set_option maxHeartbeats 4000000 in
set_option maxRecDepth 100000 in
theorem sX11_force (l : Launch) (D : hp_D) (T : hp_T) (ap0 : Nat) (xp1 : Int32) (Ru : Nat → Prop) (hRu : ∀ b, Ru b → isRule T b) (ap0tp ap0tr ap0rr ap0rl ap0nw ap0im ap0tl ap0sk ap0iq ap0pa ap0sn ap0be : Nat) (hp0 : T ap0 = some (.inr (11, [(rR ap0tp), (rR ap0tr), (rR ap0rr), (rR ap0rl), (rI 0 6), (rR ap0nw), (rR ap0im), (rR ap0tl), (rR ap0sk), (rR ap0iq), (rR ap0pa), (rR ap0sn), (rR ap0be)]))) (ip0tp : isTape T ap0tp) (ip0tr : isTownReader T ap0tr) (ip0rr : isRuleReader T ap0rr) (hp0rl : T ap0rl = some (.inl (5, 6, fun _ => rN Ru))) (pxp0 : Value → Prop) (ip0nw : isMemory T ap0nw pxp0) (pimp0 : Nat → Value → Prop) (hp0im : T ap0im = some (.inl (4, 4, pimp0))) (ip0tl : isTown T ap0tl) (ip0sk : isShaker T Ru ap0sk) (ip0iq : isWorlds T ap0iq) (ip0pa : isParity T ap0pa) (ip0sn : isShuns T ap0sn) (ip0be : isBest T ap0be) : Met l yX11_force wsX11_force ({ frames := 0, cells := 0, slots := 0, locals := 0 }) (hp_Pc D T [.ref ap0, .int xp1] (fun _ => True)) (hq_e D T (fun v _ _ => ∃ r : Int32, v = some (.int r) ∧ True)) 0 0 (hp_F T) := by
  obtain ⟨ap0tpbt, hp0tp, hp0tpbt⟩ := id ip0tp
  obtain ⟨ap0trtp, ap0trtw, hp0tr, ip0trtp, ip0trtw⟩ := id ip0tr
  obtain ⟨ap0trtpbt, hp0trtp, hp0trtpbt⟩ := id ip0trtp
  obtain ⟨ap0trtwkin, ap0trtwpl, ap0trtwcr, hp0trtw, hp0trtwkin, hp0trtwpl, hp0trtwcr⟩ := id ip0trtw
  obtain ⟨ap0rrtp, ap0rrstp, hp0rr, ip0rrtp, hp0rrstp⟩ := id ip0rr
  obtain ⟨ap0rrtpbt, hp0rrtp, hp0rrtpbt⟩ := id ip0rrtp
  obtain ⟨ap0nwtw, ap0nwtg, ap0nwth, ap0nwts, ap0nwpm, ap0nwak, ap0nwao, ap0nwah, ap0nwaw, hp0nw, ip0nwtw, hp0nwtg, hp0nwth, hp0nwts, hp0nwpm, hp0nwak, hp0nwao, hp0nwah, hp0nwaw⟩ := id ip0nw
  obtain ⟨ap0nwtwkin, ap0nwtwpl, ap0nwtwcr, hp0nwtw, hp0nwtwkin, hp0nwtwpl, hp0nwtwcr⟩ := id ip0nwtw
  obtain ⟨ap0tlkin, ap0tlpl, ap0tlcr, hp0tl, hp0tlkin, hp0tlpl, hp0tlcr⟩ := id ip0tl
  obtain ⟨ap0skwd, ap0sksk, ap0skth, hp0sk, hp0skwd, hp0sksk, hp0skth⟩ := id ip0sk
  obtain ⟨ap0iqfi, ap0iqwo, ap0iqsu, ap0iqsh, ap0iqme, ap0iqs1, ap0iqs2, hp0iq, hp0iqfi, hp0iqwo, hp0iqsu, hp0iqsh, hp0iqme, hp0iqs1, hp0iqs2⟩ := id ip0iq
  obtain ⟨ap0pabo, hp0pa, hp0pabo⟩ := id ip0pa
  obtain ⟨ap0snle, ap0sngr, ap0sndu, ap0snit, ap0snop, hp0sn, hp0snle, hp0sngr, hp0sndu, hp0snit, hp0snop⟩ := id ip0sn
  have hp0be : T ap0be = some (.inr (0, [(rI 0 1), rA, rA, rA])) := ip0be
  refine Met.ofW (cc := cX11_force) (maxL := 3) (ret := (some .int)) (by decide) rfl ?_
  intro p e s m args below meth c s₁ B hml hv
  obtain ⟨rfl, hok, hG, hB⟩ := hv
  have hx := B.exec
  have hb := B.bytes
  have hr := B.returns
  have hts := atoms_spec (ws := wsX11_force) B.pre
  have hown : s.vm.findClass RX11 = some m.cls := findClass_of_methodNamed B.named
  have hlocks := B.notSynchronized
  have hK := hG.1
  have hw : hp_w D T s s.heap [] := hp_w.rf hok
  have IX1 : ∀ w ∈ wsX10, w ∈ wsX11_force := by decide +kernel
  have IX11 : ∀ w ∈ wsX110, w ∈ wsX11_force := by decide +kernel
  have L38 := hts (.fieldLink RX11 38 "PalmCensus" "ruleCount" "I") (by decide +kernel)
  have L45 := hts (.fieldLink RX11 45 "PalmCensus" "now" "LPalmCensus$Memory;") (by decide +kernel)
  have L127 := hts (.fieldLink RX11 127 "PalmCensus$Memory" "force" "I") (by decide +kernel)
  have hl := lv_entry ([.ref ap0, .int xp1]) (n := 3) (Nat.le_of_ble_eq_true rfl)
  rw [lg_entry_eq]
  generalize (lg_sl ([.ref ap0, .int xp1]) ++ List.replicate (3 - (lg_sl ([.ref ap0, .int xp1])).length) Slot.unset).toArray = ls at hl ⊢
  have hl : lv_has ls 3 [(0, .ref ap0), (1, .int xp1)] := hl
  show WX11_force p l e s m below meth c D T ap0 xp1 s.heap [] (F0 m 0 ls [])
  refine lv_iload_n hx hb dX11_force_0 rfl (lv_at hl 1 rfl) ?_
  refine lv_iconst (v := (-1)) hx hb dX11_force_1 (by decide) ?_
  have J13 : ∀ (H : Heap) (locs : List Loc), hp_w D T s H locs → ∀ (ls : Array Slot), lv_has ls 3 [] → WX11_force p l e s m below meth c D T ap0 xp1 H locs (F0 m 13 ls []) := by
    intro H13 locs13 hw ls hl
    refine lv_bipush (v := (-2)) hx hb dX11_force_13 (by decide) ?_
    exact W.iret (v := (-2)) hx hb hr (fun t ht hW => ⟨some (.int (-2)), rfl, ⟨((-2) : Int32), rfl, trivial⟩, by rw [ht]; exact hw.1, hw.2.F ht⟩) hw.2.2.2 dX11_force_15
  refine lv_icmp_lt (tgt := 13) hx hb dX11_force_2 (by decide) (fun c2 => ?_) (fun c2 => ?_)
  · have r2tp : iv xp1 (-2147483648) (-2) := (iv_lt_l c2 (iv_any xp1) (show iv (-1) (-1) (-1) from ⟨by decide, by decide⟩)).mono (by decide) (by decide)
    exact J13 s.heap [] hw _ (lv_sub hl [] rfl)
  · have r2fq : iv xp1 (-1) 2147483647 := (iv_le_r (iv_nlt c2) (show iv (-1) (-1) (-1) from ⟨by decide, by decide⟩) (iv_any xp1)).mono (by decide) (by decide)
    refine lv_iload_n hx hb dX11_force_5 rfl (lv_at hl 1 rfl) ?_
    refine lv_aload_n hx hb dX11_force_6 rfl (lv_at hl 0 rfl) ?_
    refine hp_geti hx hb hts IX11 hown hK hw.1 hp0 rfl 4 (by decide) L38 rfl dX11_force_7 (fun x7 bx7 fx7 => ?_)
    refine lv_icmp_lt (tgt := 16) hx hb dX11_force_10 (by decide) (fun c10 => ?_) (fun c10 => ?_)
    · have r10tp : iv xp1 (-1) 5 := (iv_lt_l c10 r2fq bx7).mono (by decide) (by decide)
      refine lv_aload_n hx hb dX11_force_16 rfl (lv_at hl 0 rfl) ?_
      refine hp_getr hx hb hts IX11 hown hK hw.1 hp0 rfl 5 (by decide) L45 rfl dX11_force_17 ?_
      refine hp_getA hx hb hts IX1 hown hK hw.1 hp0nw rfl 1 (by decide) L127 rfl dX11_force_20 (fun x20 fx20 => ?_)
      refine lv_istore_n (lv' := [(2, .int x20), (0, .ref ap0), (1, .int xp1)]) hx hb dX11_force_23 rfl hl (by decide) rfl (fun ls hl => ?_)
      refine lv_aload_n hx hb dX11_force_24 rfl (lv_at hl 1 rfl) ?_
      refine hp_getr hx hb hts IX11 hown hK hw.1 hp0 rfl 5 (by decide) L45 rfl dX11_force_25 ?_
      refine lv_iload_n hx hb dX11_force_28 rfl (lv_at hl 2 rfl) ?_
      refine hp_put hx hb hts IX1 tyX1 tyX1_ok nmX1 hown hK hw hp0nw rfl 1 (by decide) L127 rfl rfl ⟨_, rfl⟩ rfl rfl dX11_force_29 (fun H29 locs29 hw f29n g29 => ?_)
      refine lv_iload_n hx hb dX11_force_32 rfl (lv_at hl 0 rfl) ?_
      exact W.iret (v := x20) hx hb hr (fun t ht hW => ⟨some (.int x20), rfl, ⟨x20, rfl, trivial⟩, by rw [ht]; exact hw.1, hw.2.F ht⟩) hw.2.2.2 dX11_force_33
    · have r10fq : iv xp1 0 2147483647 := (iv_le_r (iv_nlt c10) bx7 r2fq).mono (by decide) (by decide)
      exact J13 s.heap [] hw _ (lv_sub hl [] rfl)
abbrev WX11_hasTown (p : Program) (l : Launch) (e : Env) (s : State) (m : MethodId) (below : List Frame) (meth : Method) (c : Code) (D : hp_D) (T : hp_T) (ap0 : Nat) (H : Heap) (locs : List Loc) (g : JFrame) : Prop := W p l e (headSpec wsX11_hasTown ({ frames := 0, cells := 0, slots := 0, locals := 0 })).room s m ([.ref ap0] : List Value).toArray below meth c H locs 0 0 (MQ below (hq_p (fun v => ∃ r : Int32, v = some (.int r) ∧ iv r 0 1)) ([.ref ap0] : List Value).toArray s 0 0 (fun _ => False)) g
set_option maxHeartbeats 4000000 in
set_option maxRecDepth 100000 in
theorem sX11_hasTown (l : Launch) (D : hp_D) (T : hp_T) (ap0 : Nat) (Ru : Nat → Prop) (hRu : ∀ b, Ru b → isRule T b) (ap0tp ap0tr ap0rr ap0rl ap0nw ap0im ap0tl ap0sk ap0iq ap0pa ap0sn ap0be : Nat) (hp0 : T ap0 = some (.inr (11, [(rR ap0tp), (rR ap0tr), (rR ap0rr), (rR ap0rl), (rI 0 6), (rR ap0nw), (rR ap0im), (rR ap0tl), (rR ap0sk), (rR ap0iq), (rR ap0pa), (rR ap0sn), (rR ap0be)]))) (ip0tp : isTape T ap0tp) (ip0tr : isTownReader T ap0tr) (ip0rr : isRuleReader T ap0rr) (hp0rl : T ap0rl = some (.inl (5, 6, fun _ => rN Ru))) (pxp0 : Value → Prop) (ip0nw : isMemory T ap0nw pxp0) (pimp0 : Nat → Value → Prop) (hp0im : T ap0im = some (.inl (4, 4, pimp0))) (ip0tl : isTown T ap0tl) (ip0sk : isShaker T Ru ap0sk) (ip0iq : isWorlds T ap0iq) (ip0pa : isParity T ap0pa) (ip0sn : isShuns T ap0sn) (ip0be : isBest T ap0be) : Met l yX11_hasTown wsX11_hasTown ({ frames := 0, cells := 0, slots := 0, locals := 0 }) (hp_Pc D T [.ref ap0] (fun _ => True)) (hq_p (fun v => ∃ r : Int32, v = some (.int r) ∧ iv r 0 1)) 0 0 (fun _ => False) := by
  obtain ⟨ap0tpbt, hp0tp, hp0tpbt⟩ := id ip0tp
  obtain ⟨ap0trtp, ap0trtw, hp0tr, ip0trtp, ip0trtw⟩ := id ip0tr
  obtain ⟨ap0trtpbt, hp0trtp, hp0trtpbt⟩ := id ip0trtp
  obtain ⟨ap0trtwkin, ap0trtwpl, ap0trtwcr, hp0trtw, hp0trtwkin, hp0trtwpl, hp0trtwcr⟩ := id ip0trtw
  obtain ⟨ap0rrtp, ap0rrstp, hp0rr, ip0rrtp, hp0rrstp⟩ := id ip0rr
  obtain ⟨ap0rrtpbt, hp0rrtp, hp0rrtpbt⟩ := id ip0rrtp
  obtain ⟨ap0nwtw, ap0nwtg, ap0nwth, ap0nwts, ap0nwpm, ap0nwak, ap0nwao, ap0nwah, ap0nwaw, hp0nw, ip0nwtw, hp0nwtg, hp0nwth, hp0nwts, hp0nwpm, hp0nwak, hp0nwao, hp0nwah, hp0nwaw⟩ := id ip0nw
  obtain ⟨ap0nwtwkin, ap0nwtwpl, ap0nwtwcr, hp0nwtw, hp0nwtwkin, hp0nwtwpl, hp0nwtwcr⟩ := id ip0nwtw
  obtain ⟨ap0tlkin, ap0tlpl, ap0tlcr, hp0tl, hp0tlkin, hp0tlpl, hp0tlcr⟩ := id ip0tl
  obtain ⟨ap0skwd, ap0sksk, ap0skth, hp0sk, hp0skwd, hp0sksk, hp0skth⟩ := id ip0sk
  obtain ⟨ap0iqfi, ap0iqwo, ap0iqsu, ap0iqsh, ap0iqme, ap0iqs1, ap0iqs2, hp0iq, hp0iqfi, hp0iqwo, hp0iqsu, hp0iqsh, hp0iqme, hp0iqs1, hp0iqs2⟩ := id ip0iq
  obtain ⟨ap0pabo, hp0pa, hp0pabo⟩ := id ip0pa
  obtain ⟨ap0snle, ap0sngr, ap0sndu, ap0snit, ap0snop, hp0sn, hp0snle, hp0sngr, hp0sndu, hp0snit, hp0snop⟩ := id ip0sn
  have hp0be : T ap0be = some (.inr (0, [(rI 0 1), rA, rA, rA])) := ip0be
  refine Met.ofW (cc := cX11_hasTown) (maxL := 1) (ret := (some .boolean)) (by decide) rfl ?_
  intro p e s m args below meth c s₁ B hml hv
  obtain ⟨rfl, hok, hG, hB⟩ := hv
  have hx := B.exec
  have hb := B.bytes
  have hr := B.returns
  have hts := atoms_spec (ws := wsX11_hasTown) B.pre
  have hown : s.vm.findClass RX11 = some m.cls := findClass_of_methodNamed B.named
  have hlocks := B.notSynchronized
  have hK := hG.1
  have hw : hp_w D T s s.heap [] := hp_w.rf hok
  have IX1 : ∀ w ∈ wsX10, w ∈ wsX11_hasTown := by decide +kernel
  have IX11 : ∀ w ∈ wsX110, w ∈ wsX11_hasTown := by decide +kernel
  have IX8 : ∀ w ∈ wsX80, w ∈ wsX11_hasTown := by decide +kernel
  have L45 := hts (.fieldLink RX11 45 "PalmCensus" "now" "LPalmCensus$Memory;") (by decide +kernel)
  have L116 := hts (.fieldLink RX11 116 "PalmCensus$Memory" "town" "LPalmCensus$Town;") (by decide +kernel)
  have L202 := hts (.fieldLink RX11 202 "PalmCensus$Town" "gates" "I") (by decide +kernel)
  have hl := lv_entry ([.ref ap0]) (n := 1) (Nat.le_of_ble_eq_true rfl)
  rw [lg_entry_eq]
  generalize (lg_sl ([.ref ap0]) ++ List.replicate (1 - (lg_sl ([.ref ap0])).length) Slot.unset).toArray = ls at hl ⊢
  have hl : lv_has ls 1 [(0, .ref ap0)] := hl
  show WX11_hasTown p l e s m below meth c D T ap0 s.heap [] (F0 m 0 ls [])
  refine lv_aload_n hx hb dX11_hasTown_0 rfl (lv_at hl 0 rfl) ?_
  refine hp_getr hx hb hts IX11 hown hK hw.1 hp0 rfl 5 (by decide) L45 rfl dX11_hasTown_1 ?_
  refine hp_getr hx hb hts IX1 hown hK hw.1 hp0nw rfl 0 (by decide) L116 rfl dX11_hasTown_4 ?_
  refine hp_geti hx hb hts IX8 hown hK hw.1 hp0nwtw rfl 0 (by decide) L202 rfl dX11_hasTown_7 (fun x7 bx7 fx7 => ?_)
  have J18 : ∀ (y18_s0 : Int32), iv y18_s0 0 1 → iv x7 0 6 → ∀ (ls : Array Slot), lv_has ls 1 [] → WX11_hasTown p l e s m below meth c D T ap0 s.heap [] (F0 m 18 ls [.int y18_s0]) := by
    intro y18_s0 c18_y18_s0 c18_x7 ls hl
    exact W.zret (v := y18_s0) hx hb hr (iv_nz c18_y18_s0) (fun t ht hW => ⟨some (.int y18_s0), rfl, ⟨y18_s0, rfl, c18_y18_s0⟩, ht⟩) (fun q h => by cases h) dX11_hasTown_18
  refine lv_if_le (tgt := 17) hx hb dX11_hasTown_10 (by decide) (fun c10 => ?_) (fun c10 => ?_)
  · have r10tp : iv x7 0 0 := (iv_le_l c10 bx7 (show iv 0 0 0 from ⟨by decide, by decide⟩)).mono (by decide) (by decide)
    refine lv_iconst (v := 0) hx hb dX11_hasTown_17 (by decide) ?_
    exact J18 (0 : Int32) (show iv 0 0 1 from ⟨by decide, by decide⟩) (r10tp.mono (by decide) (by decide)) _ (lv_sub hl [] rfl)
  · have r10fq : iv x7 1 6 := (iv_lt_r (iv_nle c10) (show iv 0 0 0 from ⟨by decide, by decide⟩) bx7).mono (by decide) (by decide)
    refine lv_iconst (v := 1) hx hb dX11_hasTown_13 (by decide) ?_
    refine lv_goto (tgt := 18) hx hb dX11_hasTown_14 (by decide) ?_
    exact J18 (1 : Int32) (show iv 1 0 1 from ⟨by decide, by decide⟩) (r10fq.mono (by decide) (by decide)) _ (lv_sub hl [] rfl)
abbrev WX11_isSpot (p : Program) (l : Launch) (e : Env) (s : State) (m : MethodId) (below : List Frame) (meth : Method) (c : Code) (D : hp_D) (T : hp_T) (ap0 : Nat) (xp1 : Int32) (xp2 : Int32) (H : Heap) (locs : List Loc) (g : JFrame) : Prop := W p l e (headSpec wsX11_isSpot ({ frames := 1, cells := 0, slots := 0, locals := 21 })).room s m ([.ref ap0, .int xp1, .int xp2] : List Value).toArray below meth c H locs 0 0 (MQ below (hq_p (fun v => ∃ r : Int32, v = some (.int r) ∧ iv r 0 1)) ([.ref ap0, .int xp1, .int xp2] : List Value).toArray s 0 0 (fun _ => False)) g
set_option maxHeartbeats 4000000 in
set_option maxRecDepth 100000 in
theorem sX11_isSpot (l : Launch) (D : hp_D) (T : hp_T) (ap0 : Nat) (xp1 : Int32) (xp2 : Int32) (Ru : Nat → Prop) (hRu : ∀ b, Ru b → isRule T b) (ap0tp ap0tr ap0rr ap0rl ap0nw ap0im ap0tl ap0sk ap0iq ap0pa ap0sn ap0be : Nat) (hp0 : T ap0 = some (.inr (11, [(rR ap0tp), (rR ap0tr), (rR ap0rr), (rR ap0rl), (rI 0 6), (rR ap0nw), (rR ap0im), (rR ap0tl), (rR ap0sk), (rR ap0iq), (rR ap0pa), (rR ap0sn), (rR ap0be)]))) (ip0tp : isTape T ap0tp) (ip0tr : isTownReader T ap0tr) (ip0rr : isRuleReader T ap0rr) (hp0rl : T ap0rl = some (.inl (5, 6, fun _ => rN Ru))) (pxp0 : Value → Prop) (ip0nw : isMemory T ap0nw pxp0) (pimp0 : Nat → Value → Prop) (hp0im : T ap0im = some (.inl (4, 4, pimp0))) (ip0tl : isTown T ap0tl) (ip0sk : isShaker T Ru ap0sk) (ip0iq : isWorlds T ap0iq) (ip0pa : isParity T ap0pa) (ip0sn : isShuns T ap0sn) (ip0be : isBest T ap0be) : Met l yX11_isSpot wsX11_isSpot ({ frames := 1, cells := 0, slots := 0, locals := 21 }) (hp_Pc D T [.ref ap0, .int xp1, .int xp2] (fun _ => True)) (hq_p (fun v => ∃ r : Int32, v = some (.int r) ∧ iv r 0 1)) 0 0 (fun _ => False) := by
  obtain ⟨ap0tpbt, hp0tp, hp0tpbt⟩ := id ip0tp
  obtain ⟨ap0trtp, ap0trtw, hp0tr, ip0trtp, ip0trtw⟩ := id ip0tr
  obtain ⟨ap0trtpbt, hp0trtp, hp0trtpbt⟩ := id ip0trtp
  obtain ⟨ap0trtwkin, ap0trtwpl, ap0trtwcr, hp0trtw, hp0trtwkin, hp0trtwpl, hp0trtwcr⟩ := id ip0trtw
  obtain ⟨ap0rrtp, ap0rrstp, hp0rr, ip0rrtp, hp0rrstp⟩ := id ip0rr
  obtain ⟨ap0rrtpbt, hp0rrtp, hp0rrtpbt⟩ := id ip0rrtp
  obtain ⟨ap0nwtw, ap0nwtg, ap0nwth, ap0nwts, ap0nwpm, ap0nwak, ap0nwao, ap0nwah, ap0nwaw, hp0nw, ip0nwtw, hp0nwtg, hp0nwth, hp0nwts, hp0nwpm, hp0nwak, hp0nwao, hp0nwah, hp0nwaw⟩ := id ip0nw
  obtain ⟨ap0nwtwkin, ap0nwtwpl, ap0nwtwcr, hp0nwtw, hp0nwtwkin, hp0nwtwpl, hp0nwtwcr⟩ := id ip0nwtw
  obtain ⟨ap0tlkin, ap0tlpl, ap0tlcr, hp0tl, hp0tlkin, hp0tlpl, hp0tlcr⟩ := id ip0tl
  obtain ⟨ap0skwd, ap0sksk, ap0skth, hp0sk, hp0skwd, hp0sksk, hp0skth⟩ := id ip0sk
  obtain ⟨ap0iqfi, ap0iqwo, ap0iqsu, ap0iqsh, ap0iqme, ap0iqs1, ap0iqs2, hp0iq, hp0iqfi, hp0iqwo, hp0iqsu, hp0iqsh, hp0iqme, hp0iqs1, hp0iqs2⟩ := id ip0iq
  obtain ⟨ap0pabo, hp0pa, hp0pabo⟩ := id ip0pa
  obtain ⟨ap0snle, ap0sngr, ap0sndu, ap0snit, ap0snop, hp0sn, hp0snle, hp0sngr, hp0sndu, hp0snit, hp0snop⟩ := id ip0sn
  have hp0be : T ap0be = some (.inr (0, [(rI 0 1), rA, rA, rA])) := ip0be
  refine Met.ofW (cc := cX11_isSpot) (maxL := 3) (ret := (some .boolean)) (by decide) rfl ?_
  intro p e s m args below meth c s₁ B hml hv
  obtain ⟨rfl, hok, hG, hB⟩ := hv
  have hx := B.exec
  have hb := B.bytes
  have hr := B.returns
  have hts := atoms_spec (ws := wsX11_isSpot) B.pre
  have hown : s.vm.findClass RX11 = some m.cls := findClass_of_methodNamed B.named
  have hlocks := B.notSynchronized
  have hK := hG.1
  have hw : hp_w D T s s.heap [] := hp_w.rf hok
  have IX1 : ∀ w ∈ wsX10, w ∈ wsX11_isSpot := by decide +kernel
  have IX11 : ∀ w ∈ wsX110, w ∈ wsX11_isSpot := by decide +kernel
  have L45 := hts (.fieldLink RX11 45 "PalmCensus" "now" "LPalmCensus$Memory;") (by decide +kernel)
  have L116 := hts (.fieldLink RX11 116 "PalmCensus$Memory" "town" "LPalmCensus$Town;") (by decide +kernel)
  have hl := lv_entry ([.ref ap0, .int xp1, .int xp2]) (n := 3) (Nat.le_of_ble_eq_true rfl)
  rw [lg_entry_eq]
  generalize (lg_sl ([.ref ap0, .int xp1, .int xp2]) ++ List.replicate (3 - (lg_sl ([.ref ap0, .int xp1, .int xp2])).length) Slot.unset).toArray = ls at hl ⊢
  have hl : lv_has ls 3 [(0, .ref ap0), (1, .int xp1), (2, .int xp2)] := hl
  show WX11_isSpot p l e s m below meth c D T ap0 xp1 xp2 s.heap [] (F0 m 0 ls [])
  refine lv_aload_n hx hb dX11_isSpot_0 rfl (lv_at hl 0 rfl) ?_
  refine hp_getr hx hb hts IX11 hown hK hw.1 hp0 rfl 5 (by decide) L45 rfl dX11_isSpot_1 ?_
  refine hp_getr hx hb hts IX1 hown hK hw.1 hp0nw rfl 0 (by decide) L116 rfl dX11_isSpot_4 ?_
  refine lv_iload_n hx hb dX11_isSpot_7 rfl (lv_at hl 1 rfl) ?_
  refine hp_callpi (va_runV (As := [.int xp1]) (rest := []) ⟨hx, hb, hml, hown, hts⟩ (sX8_isGate l D T ap0nwtw xp1 ip0nwtw) (cwV 1 hts gX11_isSpot_X8_isGate rfl rfl rfl (by decide +kernel) ⟨Nat.le_of_ble_eq_true rfl, Nat.le_of_ble_eq_true rfl⟩) (hp_preV hG hw hp0nwtw rfl trivial) rfl rfl hl.1 rfl (lv_room (Nat.le_of_ble_eq_true rfl)) dX11_isSpot_8 ⟨Nat.zero_le _, Nat.zero_le _⟩) (fun x8 bx8 => ?_)
  obtain ⟨bx8, ix8_0⟩ := bx8
  have J33 : ∀ (y33_s0 : Int32), iv y33_s0 0 1 → ∀ (ls : Array Slot), lv_has ls 3 [] → WX11_isSpot p l e s m below meth c D T ap0 xp1 xp2 s.heap [] (F0 m 33 ls [.int y33_s0]) := by
    intro y33_s0 c33_y33_s0 ls hl
    exact W.zret (v := y33_s0) hx hb hr (iv_nz c33_y33_s0) (fun t ht hW => ⟨some (.int y33_s0), rfl, ⟨y33_s0, rfl, c33_y33_s0⟩, ht⟩) (fun q h => by cases h) dX11_isSpot_33
  have J32 : ∀ (ls : Array Slot), lv_has ls 3 [] → WX11_isSpot p l e s m below meth c D T ap0 xp1 xp2 s.heap [] (F0 m 32 ls []) := by
    intro ls hl
    refine lv_iconst (v := 0) hx hb dX11_isSpot_32 (by decide) ?_
    exact J33 (0 : Int32) (show iv 0 0 1 from ⟨by decide, by decide⟩) _ (lv_sub hl [] rfl)
  refine lv_if_eq (tgt := 32) hx hb dX11_isSpot_11 (by decide) (fun c11 => ?_) (fun c11 => ?_)
  · have r11tp : iv x8 0 0 := (iv_both bx8 (iv_eq (show iv 0 0 0 from ⟨by decide, by decide⟩) c11)).mono (by decide) (by decide)
    exact J32 _ (lv_sub hl [] rfl)
  · have r11fp : iv x8 1 1 := (iv_ne_lo c11 bx8 rfl).mono (by decide) (by decide)
    have r11fpz : iv xp1 0 5 := (iv_both (iv_any xp1) (ix8_0 (iv_ne0 r11fp (by decide)))).mono (by decide) (by decide)
    refine lv_aload_n hx hb dX11_isSpot_14 rfl (lv_at hl 0 rfl) ?_
    refine hp_getr hx hb hts IX11 hown hK hw.1 hp0 rfl 5 (by decide) L45 rfl dX11_isSpot_15 ?_
    refine hp_getr hx hb hts IX1 hown hK hw.1 hp0nw rfl 0 (by decide) L116 rfl dX11_isSpot_18 ?_
    refine lv_iload_n hx hb dX11_isSpot_21 rfl (lv_at hl 2 rfl) ?_
    refine hp_callpi (va_runV (As := [.int xp2]) (rest := []) ⟨hx, hb, hml, hown, hts⟩ (sX8_isHour l D T ap0nwtw xp2 ip0nwtw) (cwV 1 hts gX11_isSpot_X8_isHour rfl rfl rfl (by decide +kernel) ⟨Nat.le_of_ble_eq_true rfl, Nat.le_of_ble_eq_true rfl⟩) (hp_preV hG hw hp0nwtw rfl trivial) rfl rfl hl.1 rfl (lv_room (Nat.le_of_ble_eq_true rfl)) dX11_isSpot_22 ⟨Nat.zero_le _, Nat.zero_le _⟩) (fun x22 bx22 => ?_)
    obtain ⟨bx22, ix22_0⟩ := bx22
    refine lv_if_eq (tgt := 32) hx hb dX11_isSpot_25 (by decide) (fun c25 => ?_) (fun c25 => ?_)
    · have r25tp : iv x22 0 0 := (iv_both bx22 (iv_eq (show iv 0 0 0 from ⟨by decide, by decide⟩) c25)).mono (by decide) (by decide)
      exact J32 _ (lv_sub hl [] rfl)
    · have r25fp : iv x22 1 1 := (iv_ne_lo c25 bx22 rfl).mono (by decide) (by decide)
      have r25fpz : iv xp2 0 11 := (iv_both (iv_any xp2) (ix22_0 (iv_ne0 r25fp (by decide)))).mono (by decide) (by decide)
      refine lv_iconst (v := 1) hx hb dX11_isSpot_28 (by decide) ?_
      refine lv_goto (tgt := 33) hx hb dX11_isSpot_29 (by decide) ?_
      exact J33 (1 : Int32) (show iv 1 0 1 from ⟨by decide, by decide⟩) _ (lv_sub hl [] rfl)
abbrev WX11_counting (p : Program) (l : Launch) (e : Env) (s : State) (m : MethodId) (below : List Frame) (meth : Method) (c : Code) (D : hp_D) (T : hp_T) (ap0 : Nat) (ap0sk : Nat) (H : Heap) (locs : List Loc) (g : JFrame) : Prop := W p l e (headSpec wsX11_counting ({ frames := 0, cells := 0, slots := 0, locals := 0 })).room s m ([.ref ap0] : List Value).toArray below meth c H locs 0 0 (MQ below (hq_e D T (fun v _ _ => v = some (.ref ap0sk))) ([.ref ap0] : List Value).toArray s 0 0 (hp_F T)) g
set_option maxHeartbeats 4000000 in
set_option maxRecDepth 100000 in
theorem sX11_counting (l : Launch) (D : hp_D) (T : hp_T) (ap0 : Nat) (Ru : Nat → Prop) (hRu : ∀ b, Ru b → isRule T b) (ap0tp ap0tr ap0rr ap0rl ap0nw ap0im ap0tl ap0sk ap0iq ap0pa ap0sn ap0be : Nat) (hp0 : T ap0 = some (.inr (11, [(rR ap0tp), (rR ap0tr), (rR ap0rr), (rR ap0rl), (rI 0 6), (rR ap0nw), (rR ap0im), (rR ap0tl), (rR ap0sk), (rR ap0iq), (rR ap0pa), (rR ap0sn), (rR ap0be)]))) (ip0tp : isTape T ap0tp) (ip0tr : isTownReader T ap0tr) (ip0rr : isRuleReader T ap0rr) (hp0rl : T ap0rl = some (.inl (5, 6, fun _ => rN Ru))) (pxp0 : Value → Prop) (ip0nw : isMemory T ap0nw pxp0) (pimp0 : Nat → Value → Prop) (hp0im : T ap0im = some (.inl (4, 4, pimp0))) (ip0tl : isTown T ap0tl) (ip0sk : isShaker T Ru ap0sk) (ip0iq : isWorlds T ap0iq) (ip0pa : isParity T ap0pa) (ip0sn : isShuns T ap0sn) (ip0be : isBest T ap0be) : Met l yX11_counting wsX11_counting ({ frames := 0, cells := 0, slots := 0, locals := 0 }) (hp_Pc D T [.ref ap0] (fun _ => True)) (hq_e D T (fun v _ _ => v = some (.ref ap0sk))) 0 0 (hp_F T) := by
  obtain ⟨ap0tpbt, hp0tp, hp0tpbt⟩ := id ip0tp
  obtain ⟨ap0trtp, ap0trtw, hp0tr, ip0trtp, ip0trtw⟩ := id ip0tr
  obtain ⟨ap0trtpbt, hp0trtp, hp0trtpbt⟩ := id ip0trtp
  obtain ⟨ap0trtwkin, ap0trtwpl, ap0trtwcr, hp0trtw, hp0trtwkin, hp0trtwpl, hp0trtwcr⟩ := id ip0trtw
  obtain ⟨ap0rrtp, ap0rrstp, hp0rr, ip0rrtp, hp0rrstp⟩ := id ip0rr
  obtain ⟨ap0rrtpbt, hp0rrtp, hp0rrtpbt⟩ := id ip0rrtp
  obtain ⟨ap0nwtw, ap0nwtg, ap0nwth, ap0nwts, ap0nwpm, ap0nwak, ap0nwao, ap0nwah, ap0nwaw, hp0nw, ip0nwtw, hp0nwtg, hp0nwth, hp0nwts, hp0nwpm, hp0nwak, hp0nwao, hp0nwah, hp0nwaw⟩ := id ip0nw
  obtain ⟨ap0nwtwkin, ap0nwtwpl, ap0nwtwcr, hp0nwtw, hp0nwtwkin, hp0nwtwpl, hp0nwtwcr⟩ := id ip0nwtw
  obtain ⟨ap0tlkin, ap0tlpl, ap0tlcr, hp0tl, hp0tlkin, hp0tlpl, hp0tlcr⟩ := id ip0tl
  obtain ⟨ap0skwd, ap0sksk, ap0skth, hp0sk, hp0skwd, hp0sksk, hp0skth⟩ := id ip0sk
  obtain ⟨ap0iqfi, ap0iqwo, ap0iqsu, ap0iqsh, ap0iqme, ap0iqs1, ap0iqs2, hp0iq, hp0iqfi, hp0iqwo, hp0iqsu, hp0iqsh, hp0iqme, hp0iqs1, hp0iqs2⟩ := id ip0iq
  obtain ⟨ap0pabo, hp0pa, hp0pabo⟩ := id ip0pa
  obtain ⟨ap0snle, ap0sngr, ap0sndu, ap0snit, ap0snop, hp0sn, hp0snle, hp0sngr, hp0sndu, hp0snit, hp0snop⟩ := id ip0sn
  have hp0be : T ap0be = some (.inr (0, [(rI 0 1), rA, rA, rA])) := ip0be
  refine Met.ofW (cc := cX11_counting) (maxL := 2) (ret := (some (.object "PalmCensus$Shaker"))) (by decide) rfl ?_
  intro p e s m args below meth c s₁ B hml hv
  obtain ⟨rfl, hok, hG, hB⟩ := hv
  have hx := B.exec
  have hb := B.bytes
  have hr := B.returns
  have hts := atoms_spec (ws := wsX11_counting) B.pre
  have hown : s.vm.findClass RX11 = some m.cls := findClass_of_methodNamed B.named
  have hlocks := B.notSynchronized
  have hK := hG.1
  have hw : hp_w D T s s.heap [] := hp_w.rf hok
  have IX1 : ∀ w ∈ wsX10, w ∈ wsX11_counting := by decide +kernel
  have IX11 : ∀ w ∈ wsX110, w ∈ wsX11_counting := by decide +kernel
  have IX5 : ∀ w ∈ wsX50, w ∈ wsX11_counting := by decide +kernel
  have L45 := hts (.fieldLink RX11 45 "PalmCensus" "now" "LPalmCensus$Memory;") (by decide +kernel)
  have L127 := hts (.fieldLink RX11 127 "PalmCensus$Memory" "force" "I") (by decide +kernel)
  have L63 := hts (.fieldLink RX11 63 "PalmCensus" "shaker" "LPalmCensus$Shaker;") (by decide +kernel)
  have L340 := hts (.fieldLink RX11 340 "PalmCensus$Shaker" "rule" "LPalmCensus$Rule;") (by decide +kernel)
  have L34 := hts (.fieldLink RX11 34 "PalmCensus" "rules" "[LPalmCensus$Rule;") (by decide +kernel)
  have hl := lv_entry ([.ref ap0]) (n := 2) (Nat.le_of_ble_eq_true rfl)
  rw [lg_entry_eq]
  generalize (lg_sl ([.ref ap0]) ++ List.replicate (2 - (lg_sl ([.ref ap0])).length) Slot.unset).toArray = ls at hl ⊢
  have hl : lv_has ls 2 [(0, .ref ap0)] := hl
  show WX11_counting p l e s m below meth c D T ap0 ap0sk s.heap [] (F0 m 0 ls [])
  refine lv_aload_n hx hb dX11_counting_0 rfl (lv_at hl 0 rfl) ?_
  refine hp_getr hx hb hts IX11 hown hK hw.1 hp0 rfl 5 (by decide) L45 rfl dX11_counting_1 ?_
  refine hp_getA hx hb hts IX1 hown hK hw.1 hp0nw rfl 1 (by decide) L127 rfl dX11_counting_4 (fun x4 fx4 => ?_)
  have J29 : ∀ (H : Heap) (locs : List Loc), hp_w D T s H locs → ∀ (ls : Array Slot), lv_has ls 2 [(0, .ref ap0)] → WX11_counting p l e s m below meth c D T ap0 ap0sk H locs (F0 m 29 ls []) := by
    intro H29 locs29 hw ls hl
    refine lv_iconst (v := 0) hx hb dX11_counting_29 (by decide) ?_
    refine lv_istore_n (lv' := [(1, .int 0), (0, .ref ap0)]) hx hb dX11_counting_30 rfl hl (by decide) rfl (fun ls hl => ?_)
    refine lv_aload_n hx hb dX11_counting_31 rfl (lv_at hl 1 rfl) ?_
    refine hp_getr hx hb hts IX11 hown hK hw.1 hp0 rfl 8 (by decide) L63 rfl dX11_counting_32 ?_
    refine lv_iload_n hx hb dX11_counting_35 rfl (lv_at hl 0 rfl) ?_
    refine lv_if_eq (tgt := 54) hx hb dX11_counting_36 (by decide) (fun c36 => ?_) (fun c36 => ?_)
    · refine lv_null hx hb dX11_counting_54 ?_
      refine hp_put hx hb hts IX5 tyX5 tyX5_ok nmX5 hown hK hw hp0sk rfl 0 (by decide) L340 rfl rfl (Or.inl rfl) rfl rfl dX11_counting_55 (fun H55 locs55 hw f55n g55 => ?_)
      refine lv_aload_n hx hb dX11_counting_58 rfl (lv_at hl 1 rfl) ?_
      refine hp_getr hx hb hts IX11 hown hK hw.1 hp0 rfl 8 (by decide) L63 rfl dX11_counting_59 ?_
      exact W.aret (v := .ref ap0sk) hx hb hr (Or.inl ⟨_, rfl⟩) (Or.inr ⟨_, rfl⟩) (fun t ht hW => ⟨_, rfl, rfl, by rw [ht]; exact hw.1, hw.2.F ht⟩) hw.2.2.2 dX11_counting_62
    · exact absurd rfl c36
  refine lv_if_lt (tgt := 29) hx hb dX11_counting_7 (by decide) (fun c7 => ?_) (fun c7 => ?_)
  · have r7tp : iv x4 (-2147483648) (-1) := (iv_lt_l c7 (iv_any x4) (show iv 0 0 0 from ⟨by decide, by decide⟩)).mono (by decide) (by decide)
    exact J29 s.heap [] hw _ (lv_sub hl [0] rfl)
  · have r7fq : iv x4 0 2147483647 := (iv_le_r (iv_nlt c7) (show iv 0 0 0 from ⟨by decide, by decide⟩) (iv_any x4)).mono (by decide) (by decide)
    refine lv_aload_n hx hb dX11_counting_10 rfl (lv_at hl 0 rfl) ?_
    refine hp_getr hx hb hts IX11 hown hK hw.1 hp0 rfl 5 (by decide) L45 rfl dX11_counting_11 ?_
    refine hp_getf hx hb hts IX1 hown hK fx4 rfl (by decide) L127 dX11_counting_14 ?_
    refine lv_aload_n hx hb dX11_counting_17 rfl (lv_at hl 0 rfl) ?_
    refine hp_getr hx hb hts IX11 hown hK hw.1 hp0 rfl 3 (by decide) L34 rfl dX11_counting_18 ?_
    refine hp_alen (v := 6) hx hb hK hw.1 hp0rl rfl rfl dX11_counting_21 ?_
    refine lv_icmp_ge (tgt := 29) hx hb dX11_counting_22 (by decide) (fun c22 => ?_) (fun c22 => ?_)
    · have r22tq : iv x4 6 2147483647 := (iv_le_r c22 (show iv 6 6 6 from ⟨by decide, by decide⟩) r7fq).mono (by decide) (by decide)
      exact J29 s.heap [] hw _ (lv_sub hl [0] rfl)
    · have r22fp : iv x4 0 5 := (iv_lt_l (iv_nle c22) r7fq (show iv 6 6 6 from ⟨by decide, by decide⟩)).mono (by decide) (by decide)
      refine lv_iconst (v := 1) hx hb dX11_counting_25 (by decide) ?_
      refine lv_goto (tgt := 30) hx hb dX11_counting_26 (by decide) ?_
      refine lv_istore_n (lv' := [(1, .int 1), (0, .ref ap0)]) hx hb dX11_counting_30 rfl hl (by decide) rfl (fun ls hl => ?_)
      refine lv_aload_n hx hb dX11_counting_31 rfl (lv_at hl 1 rfl) ?_
      refine hp_getr hx hb hts IX11 hown hK hw.1 hp0 rfl 8 (by decide) L63 rfl dX11_counting_32 ?_
      refine lv_iload_n hx hb dX11_counting_35 rfl (lv_at hl 0 rfl) ?_
      refine lv_if_eq (tgt := 54) hx hb dX11_counting_36 (by decide) (fun c36 => ?_) (fun c36 => ?_)
      · exact iv_abs2 c36 (show iv 1 1 1 from ⟨by decide, by decide⟩) (show iv 0 0 0 from ⟨by decide, by decide⟩) (by decide)
      · refine lv_aload_n hx hb dX11_counting_39 rfl (lv_at hl 1 rfl) ?_
        refine hp_getr hx hb hts IX11 hown hK hw.1 hp0 rfl 3 (by decide) L34 rfl dX11_counting_40 ?_
        refine lv_aload_n hx hb dX11_counting_43 rfl (lv_at hl 1 rfl) ?_
        refine hp_getr hx hb hts IX11 hown hK hw.1 hp0 rfl 5 (by decide) L45 rfl dX11_counting_44 ?_
        refine hp_getf hx hb hts IX1 hown hK fx4 rfl (by decide) L127 dX11_counting_47 ?_
        refine hp_aald hx hb hK hw.1 hp0rl rfl rfl (vp_iv r22fp (by decide)) dX11_counting_50 (fun v50 h50 => ?_)
        rcases h50 with rfl | ⟨ad50, rfl, jd50⟩
        · refine lv_goto (tgt := 55) hx hb dX11_counting_51 (by decide) ?_
          refine hp_put hx hb hts IX5 tyX5 tyX5_ok nmX5 hown hK hw hp0sk rfl 0 (by decide) L340 rfl rfl (Or.inl rfl) rfl rfl dX11_counting_55 (fun H55 locs55 hw f55n g55 => ?_)
          have f_p0nw_1 := g55 _ _ _ _ fx4 (Or.inl (hp_ne_oo hp0nw hp0sk (by decide)))
          refine lv_aload_n hx hb dX11_counting_58 rfl (lv_at hl 1 rfl) ?_
          refine hp_getr hx hb hts IX11 hown hK hw.1 hp0 rfl 8 (by decide) L63 rfl dX11_counting_59 ?_
          exact W.aret (v := .ref ap0sk) hx hb hr (Or.inl ⟨_, rfl⟩) (Or.inr ⟨_, rfl⟩) (fun t ht hW => ⟨_, rfl, rfl, by rw [ht]; exact hw.1, hw.2.F ht⟩) hw.2.2.2 dX11_counting_62
        · have id50 := hRu ad50 jd50
          obtain ⟨ad50stp, nd50stp, hd50, nbd50stp, hd50stp⟩ := id id50
          refine lv_goto (tgt := 55) hx hb dX11_counting_51 (by decide) ?_
          refine hp_put hx hb hts IX5 tyX5 tyX5_ok nmX5 hown hK hw hp0sk rfl 0 (by decide) L340 rfl rfl (Or.inr ⟨_, rfl, jd50⟩) rfl rfl dX11_counting_55 (fun H55 locs55 hw f55n g55 => ?_)
          have f_p0nw_1 := g55 _ _ _ _ fx4 (Or.inl (hp_ne_oo hp0nw hp0sk (by decide)))
          refine lv_aload_n hx hb dX11_counting_58 rfl (lv_at hl 1 rfl) ?_
          refine hp_getr hx hb hts IX11 hown hK hw.1 hp0 rfl 8 (by decide) L63 rfl dX11_counting_59 ?_
          exact W.aret (v := .ref ap0sk) hx hb hr (Or.inl ⟨_, rfl⟩) (Or.inr ⟨_, rfl⟩) (fun t ht hW => ⟨_, rfl, rfl, by rw [ht]; exact hw.1, hw.2.F ht⟩) hw.2.2.2 dX11_counting_62
abbrev WX11_at (p : Program) (l : Launch) (e : Env) (s : State) (m : MethodId) (below : List Frame) (meth : Method) (c : Code) (D : hp_D) (T : hp_T) (ap0 : Nat) (xp1 : Int32) (xp2 : Int32) (H : Heap) (locs : List Loc) (g : JFrame) : Prop := W p l e (headSpec wsX11_at ({ frames := 2, cells := 0, slots := 0, locals := 43 })).room s m ([.ref ap0, .int xp1, .int xp2] : List Value).toArray below meth c H locs 0 0 (MQ below (hq_p (fun v => ∃ r : Int32, v = some (.int r) ∧ True)) ([.ref ap0, .int xp1, .int xp2] : List Value).toArray s 0 0 (fun _ => False)) g
set_option maxHeartbeats 4000000 in
set_option maxRecDepth 100000 in
theorem sX11_at (l : Launch) (D : hp_D) (T : hp_T) (ap0 : Nat) (xp1 : Int32) (xp2 : Int32) (Ru : Nat → Prop) (hRu : ∀ b, Ru b → isRule T b) (ap0tp ap0tr ap0rr ap0rl ap0nw ap0im ap0tl ap0sk ap0iq ap0pa ap0sn ap0be : Nat) (hp0 : T ap0 = some (.inr (11, [(rR ap0tp), (rR ap0tr), (rR ap0rr), (rR ap0rl), (rI 0 6), (rR ap0nw), (rR ap0im), (rR ap0tl), (rR ap0sk), (rR ap0iq), (rR ap0pa), (rR ap0sn), (rR ap0be)]))) (ip0tp : isTape T ap0tp) (ip0tr : isTownReader T ap0tr) (ip0rr : isRuleReader T ap0rr) (hp0rl : T ap0rl = some (.inl (5, 6, fun _ => rN Ru))) (pxp0 : Value → Prop) (ip0nw : isMemory T ap0nw pxp0) (pimp0 : Nat → Value → Prop) (hp0im : T ap0im = some (.inl (4, 4, pimp0))) (ip0tl : isTown T ap0tl) (ip0sk : isShaker T Ru ap0sk) (ip0iq : isWorlds T ap0iq) (ip0pa : isParity T ap0pa) (ip0sn : isShuns T ap0sn) (ip0be : isBest T ap0be) : Met l yX11_at wsX11_at ({ frames := 2, cells := 0, slots := 0, locals := 43 }) (hp_Pc D T [.ref ap0, .int xp1, .int xp2] (fun _ => True)) (hq_p (fun v => ∃ r : Int32, v = some (.int r) ∧ True)) 0 0 (fun _ => False) := by
  obtain ⟨ap0tpbt, hp0tp, hp0tpbt⟩ := id ip0tp
  obtain ⟨ap0trtp, ap0trtw, hp0tr, ip0trtp, ip0trtw⟩ := id ip0tr
  obtain ⟨ap0trtpbt, hp0trtp, hp0trtpbt⟩ := id ip0trtp
  obtain ⟨ap0trtwkin, ap0trtwpl, ap0trtwcr, hp0trtw, hp0trtwkin, hp0trtwpl, hp0trtwcr⟩ := id ip0trtw
  obtain ⟨ap0rrtp, ap0rrstp, hp0rr, ip0rrtp, hp0rrstp⟩ := id ip0rr
  obtain ⟨ap0rrtpbt, hp0rrtp, hp0rrtpbt⟩ := id ip0rrtp
  obtain ⟨ap0nwtw, ap0nwtg, ap0nwth, ap0nwts, ap0nwpm, ap0nwak, ap0nwao, ap0nwah, ap0nwaw, hp0nw, ip0nwtw, hp0nwtg, hp0nwth, hp0nwts, hp0nwpm, hp0nwak, hp0nwao, hp0nwah, hp0nwaw⟩ := id ip0nw
  obtain ⟨ap0nwtwkin, ap0nwtwpl, ap0nwtwcr, hp0nwtw, hp0nwtwkin, hp0nwtwpl, hp0nwtwcr⟩ := id ip0nwtw
  obtain ⟨ap0tlkin, ap0tlpl, ap0tlcr, hp0tl, hp0tlkin, hp0tlpl, hp0tlcr⟩ := id ip0tl
  obtain ⟨ap0skwd, ap0sksk, ap0skth, hp0sk, hp0skwd, hp0sksk, hp0skth⟩ := id ip0sk
  obtain ⟨ap0iqfi, ap0iqwo, ap0iqsu, ap0iqsh, ap0iqme, ap0iqs1, ap0iqs2, hp0iq, hp0iqfi, hp0iqwo, hp0iqsu, hp0iqsh, hp0iqme, hp0iqs1, hp0iqs2⟩ := id ip0iq
  obtain ⟨ap0pabo, hp0pa, hp0pabo⟩ := id ip0pa
  obtain ⟨ap0snle, ap0sngr, ap0sndu, ap0snit, ap0snop, hp0sn, hp0snle, hp0sngr, hp0sndu, hp0snit, hp0snop⟩ := id ip0sn
  have hp0be : T ap0be = some (.inr (0, [(rI 0 1), rA, rA, rA])) := ip0be
  refine Met.ofW (cc := cX11_at) (maxL := 3) (ret := (some .int)) (by decide) rfl ?_
  intro p e s m args below meth c s₁ B hml hv
  obtain ⟨rfl, hok, hG, hB⟩ := hv
  have hx := B.exec
  have hb := B.bytes
  have hr := B.returns
  have hts := atoms_spec (ws := wsX11_at) B.pre
  have hown : s.vm.findClass RX11 = some m.cls := findClass_of_methodNamed B.named
  have hlocks := B.notSynchronized
  have hK := hG.1
  have hw : hp_w D T s s.heap [] := hp_w.rf hok
  have IX1 : ∀ w ∈ wsX10, w ∈ wsX11_at := by decide +kernel
  have IX11 : ∀ w ∈ wsX110, w ∈ wsX11_at := by decide +kernel
  have L45 := hts (.fieldLink RX11 45 "PalmCensus" "now" "LPalmCensus$Memory;") (by decide +kernel)
  have L116 := hts (.fieldLink RX11 116 "PalmCensus$Memory" "town" "LPalmCensus$Town;") (by decide +kernel)
  have hl := lv_entry ([.ref ap0, .int xp1, .int xp2]) (n := 3) (Nat.le_of_ble_eq_true rfl)
  rw [lg_entry_eq]
  generalize (lg_sl ([.ref ap0, .int xp1, .int xp2]) ++ List.replicate (3 - (lg_sl ([.ref ap0, .int xp1, .int xp2])).length) Slot.unset).toArray = ls at hl ⊢
  have hl : lv_has ls 3 [(0, .ref ap0), (1, .int xp1), (2, .int xp2)] := hl
  show WX11_at p l e s m below meth c D T ap0 xp1 xp2 s.heap [] (F0 m 0 ls [])
  refine lv_aload_n hx hb dX11_at_0 rfl (lv_at hl 0 rfl) ?_
  refine hp_getr hx hb hts IX11 hown hK hw.1 hp0 rfl 5 (by decide) L45 rfl dX11_at_1 ?_
  refine hp_getr hx hb hts IX1 hown hK hw.1 hp0nw rfl 0 (by decide) L116 rfl dX11_at_4 ?_
  refine lv_iload_n hx hb dX11_at_7 rfl (lv_at hl 1 rfl) ?_
  refine hp_callpi (va_runV (As := [.int xp1]) (rest := []) ⟨hx, hb, hml, hown, hts⟩ (sX8_isPerson l D T ap0nwtw xp1 ip0nwtw) (cwV 1 hts gX11_at_X8_isPerson rfl rfl rfl (by decide +kernel) ⟨Nat.le_of_ble_eq_true rfl, Nat.le_of_ble_eq_true rfl⟩) (hp_preV hG hw hp0nwtw rfl trivial) rfl rfl hl.1 rfl (lv_room (Nat.le_of_ble_eq_true rfl)) dX11_at_8 ⟨Nat.zero_le _, Nat.zero_le _⟩) (fun x8 bx8 => ?_)
  obtain ⟨bx8, ix8_0⟩ := bx8
  have J44 : ∀ (y44_s0 : Int32), ∀ (ls : Array Slot), lv_has ls 3 [] → WX11_at p l e s m below meth c D T ap0 xp1 xp2 s.heap [] (F0 m 44 ls [.int y44_s0]) := by
    intro y44_s0 ls hl
    exact W.iret (v := y44_s0) hx hb hr (fun t ht hW => ⟨some (.int y44_s0), rfl, ⟨y44_s0, rfl, trivial⟩, ht⟩) (fun q h => by cases h) dX11_at_44
  have J43 : ∀ (ls : Array Slot), lv_has ls 3 [] → WX11_at p l e s m below meth c D T ap0 xp1 xp2 s.heap [] (F0 m 43 ls []) := by
    intro ls hl
    refine lv_iconst (v := (-1)) hx hb dX11_at_43 (by decide) ?_
    exact J44 ((-1) : Int32) _ (lv_sub hl [] rfl)
  refine lv_if_eq (tgt := 43) hx hb dX11_at_11 (by decide) (fun c11 => ?_) (fun c11 => ?_)
  · have r11tp : iv x8 0 0 := (iv_both bx8 (iv_eq (show iv 0 0 0 from ⟨by decide, by decide⟩) c11)).mono (by decide) (by decide)
    exact J43 _ (lv_sub hl [] rfl)
  · have r11fp : iv x8 1 1 := (iv_ne_lo c11 bx8 rfl).mono (by decide) (by decide)
    have r11fpz : iv xp1 0 9 := (iv_both (iv_any xp1) (ix8_0 (iv_ne0 r11fp (by decide)))).mono (by decide) (by decide)
    refine lv_aload_n hx hb dX11_at_14 rfl (lv_at hl 0 rfl) ?_
    refine hp_getr hx hb hts IX11 hown hK hw.1 hp0 rfl 5 (by decide) L45 rfl dX11_at_15 ?_
    refine hp_getr hx hb hts IX1 hown hK hw.1 hp0nw rfl 0 (by decide) L116 rfl dX11_at_18 ?_
    refine lv_iload_n hx hb dX11_at_21 rfl (lv_at hl 2 rfl) ?_
    refine hp_callpi (va_runV (As := [.int xp2]) (rest := []) ⟨hx, hb, hml, hown, hts⟩ (sX8_isHour l D T ap0nwtw xp2 ip0nwtw) (cwV 1 hts gX11_at_X8_isHour rfl rfl rfl (by decide +kernel) ⟨Nat.le_of_ble_eq_true rfl, Nat.le_of_ble_eq_true rfl⟩) (hp_preV hG hw hp0nwtw rfl trivial) rfl rfl hl.1 rfl (lv_room (Nat.le_of_ble_eq_true rfl)) dX11_at_22 ⟨Nat.zero_le _, Nat.zero_le _⟩) (fun x22 bx22 => ?_)
    obtain ⟨bx22, ix22_0⟩ := bx22
    refine lv_if_eq (tgt := 43) hx hb dX11_at_25 (by decide) (fun c25 => ?_) (fun c25 => ?_)
    · have r25tp : iv x22 0 0 := (iv_both bx22 (iv_eq (show iv 0 0 0 from ⟨by decide, by decide⟩) c25)).mono (by decide) (by decide)
      exact J43 _ (lv_sub hl [] rfl)
    · have r25fp : iv x22 1 1 := (iv_ne_lo c25 bx22 rfl).mono (by decide) (by decide)
      have r25fpz : iv xp2 0 11 := (iv_both (iv_any xp2) (ix22_0 (iv_ne0 r25fp (by decide)))).mono (by decide) (by decide)
      refine lv_aload_n hx hb dX11_at_28 rfl (lv_at hl 0 rfl) ?_
      refine hp_getr hx hb hts IX11 hown hK hw.1 hp0 rfl 5 (by decide) L45 rfl dX11_at_29 ?_
      refine hp_getr hx hb hts IX1 hown hK hw.1 hp0nw rfl 0 (by decide) L116 rfl dX11_at_32 ?_
      refine lv_iload_n hx hb dX11_at_35 rfl (lv_at hl 1 rfl) ?_
      refine lv_iload_n hx hb dX11_at_36 rfl (lv_at hl 2 rfl) ?_
      refine hp_callpi (va_runV (As := [.int xp1, .int xp2]) (rest := []) ⟨hx, hb, hml, hown, hts⟩ (sX8_placeOf l D T ap0nwtw xp1 xp2 ip0nwtw) (cwV 2 hts gX11_at_X8_placeOf rfl rfl rfl (by decide +kernel) ⟨Nat.le_of_ble_eq_true rfl, Nat.le_of_ble_eq_true rfl⟩) (hp_preV hG hw hp0nwtw rfl trivial) rfl rfl hl.1 rfl (lv_room (Nat.le_of_ble_eq_true rfl)) dX11_at_37 ⟨Nat.zero_le _, Nat.zero_le _⟩) (fun x37 bx37 => ?_)
      refine lv_goto (tgt := 44) hx hb dX11_at_40 (by decide) ?_
      exact J44 x37 _ (lv_sub hl [] rfl)
abbrev WX11_person (p : Program) (l : Launch) (e : Env) (s : State) (m : MethodId) (below : List Frame) (meth : Method) (c : Code) (D : hp_D) (T : hp_T) (ap0 : Nat) (xp1 : Int32) (xp2 : Int32) (H : Heap) (locs : List Loc) (g : JFrame) : Prop := W p l e (headSpec wsX11_person ({ frames := 3, cells := 0, slots := 0, locals := 66 })).room s m ([.ref ap0, .int xp1, .int xp2] : List Value).toArray below meth c H locs 0 0 (MQ below (hq_p (fun v => ∃ r : Int32, v = some (.int r) ∧ True)) ([.ref ap0, .int xp1, .int xp2] : List Value).toArray s 0 0 (fun _ => False)) g
set_option maxHeartbeats 4000000 in
set_option maxRecDepth 100000 in
theorem sX11_person (l : Launch) (D : hp_D) (T : hp_T) (ap0 : Nat) (xp1 : Int32) (xp2 : Int32) (Ru : Nat → Prop) (hRu : ∀ b, Ru b → isRule T b) (ap0tp ap0tr ap0rr ap0rl ap0nw ap0im ap0tl ap0sk ap0iq ap0pa ap0sn ap0be : Nat) (hp0 : T ap0 = some (.inr (11, [(rR ap0tp), (rR ap0tr), (rR ap0rr), (rR ap0rl), (rI 0 6), (rR ap0nw), (rR ap0im), (rR ap0tl), (rR ap0sk), (rR ap0iq), (rR ap0pa), (rR ap0sn), (rR ap0be)]))) (ip0tp : isTape T ap0tp) (ip0tr : isTownReader T ap0tr) (ip0rr : isRuleReader T ap0rr) (hp0rl : T ap0rl = some (.inl (5, 6, fun _ => rN Ru))) (pxp0 : Value → Prop) (ip0nw : isMemory T ap0nw pxp0) (pimp0 : Nat → Value → Prop) (hp0im : T ap0im = some (.inl (4, 4, pimp0))) (ip0tl : isTown T ap0tl) (ip0sk : isShaker T Ru ap0sk) (ip0iq : isWorlds T ap0iq) (ip0pa : isParity T ap0pa) (ip0sn : isShuns T ap0sn) (ip0be : isBest T ap0be) : Met l yX11_person wsX11_person ({ frames := 3, cells := 0, slots := 0, locals := 66 }) (hp_Pc D T [.ref ap0, .int xp1, .int xp2] (fun _ => True)) (hq_p (fun v => ∃ r : Int32, v = some (.int r) ∧ True)) 0 0 (fun _ => False) := by
  obtain ⟨ap0tpbt, hp0tp, hp0tpbt⟩ := id ip0tp
  obtain ⟨ap0trtp, ap0trtw, hp0tr, ip0trtp, ip0trtw⟩ := id ip0tr
  obtain ⟨ap0trtpbt, hp0trtp, hp0trtpbt⟩ := id ip0trtp
  obtain ⟨ap0trtwkin, ap0trtwpl, ap0trtwcr, hp0trtw, hp0trtwkin, hp0trtwpl, hp0trtwcr⟩ := id ip0trtw
  obtain ⟨ap0rrtp, ap0rrstp, hp0rr, ip0rrtp, hp0rrstp⟩ := id ip0rr
  obtain ⟨ap0rrtpbt, hp0rrtp, hp0rrtpbt⟩ := id ip0rrtp
  obtain ⟨ap0nwtw, ap0nwtg, ap0nwth, ap0nwts, ap0nwpm, ap0nwak, ap0nwao, ap0nwah, ap0nwaw, hp0nw, ip0nwtw, hp0nwtg, hp0nwth, hp0nwts, hp0nwpm, hp0nwak, hp0nwao, hp0nwah, hp0nwaw⟩ := id ip0nw
  obtain ⟨ap0nwtwkin, ap0nwtwpl, ap0nwtwcr, hp0nwtw, hp0nwtwkin, hp0nwtwpl, hp0nwtwcr⟩ := id ip0nwtw
  obtain ⟨ap0tlkin, ap0tlpl, ap0tlcr, hp0tl, hp0tlkin, hp0tlpl, hp0tlcr⟩ := id ip0tl
  obtain ⟨ap0skwd, ap0sksk, ap0skth, hp0sk, hp0skwd, hp0sksk, hp0skth⟩ := id ip0sk
  obtain ⟨ap0iqfi, ap0iqwo, ap0iqsu, ap0iqsh, ap0iqme, ap0iqs1, ap0iqs2, hp0iq, hp0iqfi, hp0iqwo, hp0iqsu, hp0iqsh, hp0iqme, hp0iqs1, hp0iqs2⟩ := id ip0iq
  obtain ⟨ap0pabo, hp0pa, hp0pabo⟩ := id ip0pa
  obtain ⟨ap0snle, ap0sngr, ap0sndu, ap0snit, ap0snop, hp0sn, hp0snle, hp0sngr, hp0sndu, hp0snit, hp0snop⟩ := id ip0sn
  have hp0be : T ap0be = some (.inr (0, [(rI 0 1), rA, rA, rA])) := ip0be
  refine Met.ofW (cc := cX11_person) (maxL := 4) (ret := (some .int)) (by decide) rfl ?_
  intro p e s m args below meth c s₁ B hml hv
  obtain ⟨rfl, hok, hG, hB⟩ := hv
  have hx := B.exec
  have hb := B.bytes
  have hr := B.returns
  have hts := atoms_spec (ws := wsX11_person) B.pre
  have hown : s.vm.findClass RX11 = some m.cls := findClass_of_methodNamed B.named
  have hlocks := B.notSynchronized
  have hK := hG.1
  have hw : hp_w D T s s.heap [] := hp_w.rf hok
  have IX1 : ∀ w ∈ wsX10, w ∈ wsX11_person := by decide +kernel
  have IX11 : ∀ w ∈ wsX110, w ∈ wsX11_person := by decide +kernel
  have IX8 : ∀ w ∈ wsX80, w ∈ wsX11_person := by decide +kernel
  have L45 := hts (.fieldLink RX11 45 "PalmCensus" "now" "LPalmCensus$Memory;") (by decide +kernel)
  have L116 := hts (.fieldLink RX11 116 "PalmCensus$Memory" "town" "LPalmCensus$Town;") (by decide +kernel)
  have L141 := hts (.fieldLink RX11 141 "PalmCensus$Town" "left" "I") (by decide +kernel)
  have L144 := hts (.fieldLink RX11 144 "PalmCensus$Town" "gloved" "I") (by decide +kernel)
  have L147 := hts (.fieldLink RX11 147 "PalmCensus$Town" "children" "I") (by decide +kernel)
  have L150 := hts (.fieldLink RX11 150 "PalmCensus$Town" "kin" "[I") (by decide +kernel)
  have hl := lv_entry ([.ref ap0, .int xp1, .int xp2]) (n := 4) (Nat.le_of_ble_eq_true rfl)
  rw [lg_entry_eq]
  generalize (lg_sl ([.ref ap0, .int xp1, .int xp2]) ++ List.replicate (4 - (lg_sl ([.ref ap0, .int xp1, .int xp2])).length) Slot.unset).toArray = ls at hl ⊢
  have hl : lv_has ls 4 [(0, .ref ap0), (1, .int xp1), (2, .int xp2)] := hl
  show WX11_person p l e s m below meth c D T ap0 xp1 xp2 s.heap [] (F0 m 0 ls [])
  refine lv_aload_n hx hb dX11_person_0 rfl (lv_at hl 0 rfl) ?_
  refine hp_getr hx hb hts IX11 hown hK hw.1 hp0 rfl 5 (by decide) L45 rfl dX11_person_1 ?_
  refine hp_getr hx hb hts IX1 hown hK hw.1 hp0nw rfl 0 (by decide) L116 rfl dX11_person_4 ?_
  refine lv_astore_n (lv' := [(3, .ref ap0nwtw), (0, .ref ap0), (1, .int xp1), (2, .int xp2)]) hx hb dX11_person_7 rfl hl (by decide) rfl (fun ls hl => ?_)
  refine lv_aload_n hx hb dX11_person_8 rfl (lv_at hl 0 rfl) ?_
  refine lv_iload_n hx hb dX11_person_9 rfl (lv_at hl 2 rfl) ?_
  refine hp_callpi (va_runV (As := [.int xp1]) (rest := []) ⟨hx, hb, hml, hown, hts⟩ (sX8_isPerson l D T ap0nwtw xp1 ip0nwtw) (cwV 1 hts gX11_person_X8_isPerson rfl rfl rfl (by decide +kernel) ⟨Nat.le_of_ble_eq_true rfl, Nat.le_of_ble_eq_true rfl⟩) (hp_preV hG hw hp0nwtw rfl trivial) rfl rfl hl.1 rfl (lv_room (Nat.le_of_ble_eq_true rfl)) dX11_person_10 ⟨Nat.zero_le _, Nat.zero_le _⟩) (fun x10 bx10 => ?_)
  obtain ⟨bx10, ix10_0⟩ := bx10
  refine lv_if_ne (tgt := 18) hx hb dX11_person_13 (by decide) (fun c13 => ?_) (fun c13 => ?_)
  · have r13tp : iv x10 1 1 := (iv_ne_lo c13 bx10 rfl).mono (by decide) (by decide)
    have r13tpz : iv xp1 0 9 := (iv_both (iv_any xp1) (ix10_0 (iv_ne0 r13tp (by decide)))).mono (by decide) (by decide)
    refine lv_iload_n hx hb dX11_person_18 rfl (lv_at hl 3 rfl) ?_
    have i19 := (iv_any xp2)
    unfold iv at i19
    rcases (show (xp2.toInt < 0 ∨ 4 < xp2.toInt) ∨ xp2.toInt = 0 ∨ xp2.toInt = 1 ∨ xp2.toInt = 2 ∨ xp2.toInt = 3 ∨ xp2.toInt = 4 from by omega) with s19 | s19 | s19 | s19 | s19 | s19
    · refine lv_tableOut (tgt := 92) hx hb dX11_person_19 s19 (by decide) ?_
      refine lv_iconst (v := (-1)) hx hb dX11_person_92 (by decide) ?_
      exact W.iret (v := (-1)) hx hb hr (fun t ht hW => ⟨some (.int (-1)), rfl, ⟨((-1) : Int32), rfl, trivial⟩, ht⟩) (fun q h => by cases h) dX11_person_93
    · refine lv_tableIn (off := 33) (tgt := 52) hx hb dX11_person_19 (by omega) (by omega) (by rw [s19]; rfl) (by decide) ?_
      have r19k : iv xp2 0 0 := ⟨by omega, by omega⟩
      refine lv_aload_n hx hb dX11_person_52 rfl (lv_at hl 0 rfl) ?_
      refine hp_getA hx hb hts IX8 hown hK hw.1 hp0nwtw rfl 4 (by decide) L141 rfl dX11_person_53 (fun x53 fx53 => ?_)
      refine lv_iload_n hx hb dX11_person_56 rfl (lv_at hl 2 rfl) ?_
      refine lv_ishr hx hb dX11_person_57 ?_
      refine lv_topi (fun x57 ex57 => ?_)
      refine lv_iconst (v := 1) hx hb dX11_person_58 (by decide) ?_
      refine lv_iand hx hb dX11_person_59 ?_
      refine lv_topi (fun x59 ex59 => ?_)
      have bx59 : iv x59 0 1 := iv_and_r (show iv 1 0 1 from ⟨by decide, by decide⟩) ex59
      exact W.iret (v := x59) hx hb hr (fun t ht hW => ⟨some (.int x59), rfl, ⟨x59, rfl, trivial⟩, ht⟩) (fun q h => by cases h) dX11_person_60
    · refine lv_tableIn (off := 42) (tgt := 61) hx hb dX11_person_19 (by omega) (by omega) (by rw [s19]; rfl) (by decide) ?_
      have r19k : iv xp2 1 1 := ⟨by omega, by omega⟩
      refine lv_aload_n hx hb dX11_person_61 rfl (lv_at hl 0 rfl) ?_
      refine hp_getA hx hb hts IX8 hown hK hw.1 hp0nwtw rfl 5 (by decide) L144 rfl dX11_person_62 (fun x62 fx62 => ?_)
      refine lv_iload_n hx hb dX11_person_65 rfl (lv_at hl 2 rfl) ?_
      refine lv_ishr hx hb dX11_person_66 ?_
      refine lv_topi (fun x66 ex66 => ?_)
      refine lv_iconst (v := 1) hx hb dX11_person_67 (by decide) ?_
      refine lv_iand hx hb dX11_person_68 ?_
      refine lv_topi (fun x68 ex68 => ?_)
      have bx68 : iv x68 0 1 := iv_and_r (show iv 1 0 1 from ⟨by decide, by decide⟩) ex68
      exact W.iret (v := x68) hx hb hr (fun t ht hW => ⟨some (.int x68), rfl, ⟨x68, rfl, trivial⟩, ht⟩) (fun q h => by cases h) dX11_person_69
    · refine lv_tableIn (off := 51) (tgt := 70) hx hb dX11_person_19 (by omega) (by omega) (by rw [s19]; rfl) (by decide) ?_
      have r19k : iv xp2 2 2 := ⟨by omega, by omega⟩
      refine lv_aload_n hx hb dX11_person_70 rfl (lv_at hl 0 rfl) ?_
      refine hp_getA hx hb hts IX8 hown hK hw.1 hp0nwtw rfl 6 (by decide) L147 rfl dX11_person_71 (fun x71 fx71 => ?_)
      refine lv_iload_n hx hb dX11_person_74 rfl (lv_at hl 2 rfl) ?_
      refine lv_ishr hx hb dX11_person_75 ?_
      refine lv_topi (fun x75 ex75 => ?_)
      refine lv_iconst (v := 1) hx hb dX11_person_76 (by decide) ?_
      refine lv_iand hx hb dX11_person_77 ?_
      refine lv_topi (fun x77 ex77 => ?_)
      have bx77 : iv x77 0 1 := iv_and_r (show iv 1 0 1 from ⟨by decide, by decide⟩) ex77
      exact W.iret (v := x77) hx hb hr (fun t ht hW => ⟨some (.int x77), rfl, ⟨x77, rfl, trivial⟩, ht⟩) (fun q h => by cases h) dX11_person_78
    · refine lv_tableIn (off := 60) (tgt := 79) hx hb dX11_person_19 (by omega) (by omega) (by rw [s19]; rfl) (by decide) ?_
      have r19k : iv xp2 3 3 := ⟨by omega, by omega⟩
      refine lv_aload_n hx hb dX11_person_79 rfl (lv_at hl 0 rfl) ?_
      refine hp_getr hx hb hts IX8 hown hK hw.1 hp0nwtw rfl 8 (by decide) L150 rfl dX11_person_80 ?_
      refine lv_iload_n hx hb dX11_person_83 rfl (lv_at hl 2 rfl) ?_
      refine hp_ialdA hx hb hK hw.1 hp0nwtwkin (vp_iv r13tpz (by decide)) dX11_person_84 (fun x84 => ?_)
      exact W.iret (v := x84) hx hb hr (fun t ht hW => ⟨some (.int x84), rfl, ⟨x84, rfl, trivial⟩, ht⟩) (fun q h => by cases h) dX11_person_85
    · refine lv_tableIn (off := 67) (tgt := 86) hx hb dX11_person_19 (by omega) (by omega) (by rw [s19]; rfl) (by decide) ?_
      have r19k : iv xp2 4 4 := ⟨by omega, by omega⟩
      refine lv_aload_n hx hb dX11_person_86 rfl (lv_at hl 0 rfl) ?_
      refine lv_iload_n hx hb dX11_person_87 rfl (lv_at hl 2 rfl) ?_
      refine hp_callpi (va_runV (As := [.int xp1]) (rest := []) ⟨hx, hb, hml, hown, hts⟩ (sX8_company l D T ap0nwtw xp1 ip0nwtw) (cwV 1 hts gX11_person_X8_company rfl rfl rfl (by decide +kernel) ⟨Nat.le_of_ble_eq_true rfl, Nat.le_of_ble_eq_true rfl⟩) (hp_preV hG hw hp0nwtw rfl trivial) rfl rfl hl.1 rfl (lv_room (Nat.le_of_ble_eq_true rfl)) dX11_person_88 ⟨Nat.zero_le _, Nat.zero_le _⟩) (fun x88 bx88 => ?_)
      exact W.iret (v := x88) hx hb hr (fun t ht hW => ⟨some (.int x88), rfl, ⟨x88, rfl, trivial⟩, ht⟩) (fun q h => by cases h) dX11_person_91
  · have r13fp : iv x10 0 0 := (iv_both bx10 (iv_eq (show iv 0 0 0 from ⟨by decide, by decide⟩) c13)).mono (by decide) (by decide)
    refine lv_iconst (v := (-1)) hx hb dX11_person_16 (by decide) ?_
    exact W.iret (v := (-1)) hx hb hr (fun t ht hW => ⟨some (.int (-1)), rfl, ⟨((-1) : Int32), rfl, trivial⟩, ht⟩) (fun q h => by cases h) dX11_person_17
abbrev WX11_crowd (p : Program) (l : Launch) (e : Env) (s : State) (m : MethodId) (below : List Frame) (meth : Method) (c : Code) (D : hp_D) (T : hp_T) (ap0 : Nat) (xp1 : Int32) (xp2 : Int32) (H : Heap) (locs : List Loc) (g : JFrame) : Prop := W p l e (headSpec wsX11_crowd ({ frames := 2, cells := 0, slots := 0, locals := 43 })).room s m ([.ref ap0, .int xp1, .int xp2] : List Value).toArray below meth c H locs 0 0 (MQ below (hq_p (fun v => ∃ r : Int32, v = some (.int r) ∧ True)) ([.ref ap0, .int xp1, .int xp2] : List Value).toArray s 0 0 (fun _ => False)) g
set_option maxHeartbeats 4000000 in
set_option maxRecDepth 100000 in
theorem sX11_crowd (l : Launch) (D : hp_D) (T : hp_T) (ap0 : Nat) (xp1 : Int32) (xp2 : Int32) (Ru : Nat → Prop) (hRu : ∀ b, Ru b → isRule T b) (ap0tp ap0tr ap0rr ap0rl ap0nw ap0im ap0tl ap0sk ap0iq ap0pa ap0sn ap0be : Nat) (hp0 : T ap0 = some (.inr (11, [(rR ap0tp), (rR ap0tr), (rR ap0rr), (rR ap0rl), (rI 0 6), (rR ap0nw), (rR ap0im), (rR ap0tl), (rR ap0sk), (rR ap0iq), (rR ap0pa), (rR ap0sn), (rR ap0be)]))) (ip0tp : isTape T ap0tp) (ip0tr : isTownReader T ap0tr) (ip0rr : isRuleReader T ap0rr) (hp0rl : T ap0rl = some (.inl (5, 6, fun _ => rN Ru))) (pxp0 : Value → Prop) (ip0nw : isMemory T ap0nw pxp0) (pimp0 : Nat → Value → Prop) (hp0im : T ap0im = some (.inl (4, 4, pimp0))) (ip0tl : isTown T ap0tl) (ip0sk : isShaker T Ru ap0sk) (ip0iq : isWorlds T ap0iq) (ip0pa : isParity T ap0pa) (ip0sn : isShuns T ap0sn) (ip0be : isBest T ap0be) : Met l yX11_crowd wsX11_crowd ({ frames := 2, cells := 0, slots := 0, locals := 43 }) (hp_Pc D T [.ref ap0, .int xp1, .int xp2] (fun _ => True)) (hq_p (fun v => ∃ r : Int32, v = some (.int r) ∧ True)) 0 0 (fun _ => False) := by
  obtain ⟨ap0tpbt, hp0tp, hp0tpbt⟩ := id ip0tp
  obtain ⟨ap0trtp, ap0trtw, hp0tr, ip0trtp, ip0trtw⟩ := id ip0tr
  obtain ⟨ap0trtpbt, hp0trtp, hp0trtpbt⟩ := id ip0trtp
  obtain ⟨ap0trtwkin, ap0trtwpl, ap0trtwcr, hp0trtw, hp0trtwkin, hp0trtwpl, hp0trtwcr⟩ := id ip0trtw
  obtain ⟨ap0rrtp, ap0rrstp, hp0rr, ip0rrtp, hp0rrstp⟩ := id ip0rr
  obtain ⟨ap0rrtpbt, hp0rrtp, hp0rrtpbt⟩ := id ip0rrtp
  obtain ⟨ap0nwtw, ap0nwtg, ap0nwth, ap0nwts, ap0nwpm, ap0nwak, ap0nwao, ap0nwah, ap0nwaw, hp0nw, ip0nwtw, hp0nwtg, hp0nwth, hp0nwts, hp0nwpm, hp0nwak, hp0nwao, hp0nwah, hp0nwaw⟩ := id ip0nw
  obtain ⟨ap0nwtwkin, ap0nwtwpl, ap0nwtwcr, hp0nwtw, hp0nwtwkin, hp0nwtwpl, hp0nwtwcr⟩ := id ip0nwtw
  obtain ⟨ap0tlkin, ap0tlpl, ap0tlcr, hp0tl, hp0tlkin, hp0tlpl, hp0tlcr⟩ := id ip0tl
  obtain ⟨ap0skwd, ap0sksk, ap0skth, hp0sk, hp0skwd, hp0sksk, hp0skth⟩ := id ip0sk
  obtain ⟨ap0iqfi, ap0iqwo, ap0iqsu, ap0iqsh, ap0iqme, ap0iqs1, ap0iqs2, hp0iq, hp0iqfi, hp0iqwo, hp0iqsu, hp0iqsh, hp0iqme, hp0iqs1, hp0iqs2⟩ := id ip0iq
  obtain ⟨ap0pabo, hp0pa, hp0pabo⟩ := id ip0pa
  obtain ⟨ap0snle, ap0sngr, ap0sndu, ap0snit, ap0snop, hp0sn, hp0snle, hp0sngr, hp0sndu, hp0snit, hp0snop⟩ := id ip0sn
  have hp0be : T ap0be = some (.inr (0, [(rI 0 1), rA, rA, rA])) := ip0be
  refine Met.ofW (cc := cX11_crowd) (maxL := 3) (ret := (some .int)) (by decide) rfl ?_
  intro p e s m args below meth c s₁ B hml hv
  obtain ⟨rfl, hok, hG, hB⟩ := hv
  have hx := B.exec
  have hb := B.bytes
  have hr := B.returns
  have hts := atoms_spec (ws := wsX11_crowd) B.pre
  have hown : s.vm.findClass RX11 = some m.cls := findClass_of_methodNamed B.named
  have hlocks := B.notSynchronized
  have hK := hG.1
  have hw : hp_w D T s s.heap [] := hp_w.rf hok
  have IX1 : ∀ w ∈ wsX10, w ∈ wsX11_crowd := by decide +kernel
  have IX11 : ∀ w ∈ wsX110, w ∈ wsX11_crowd := by decide +kernel
  have L45 := hts (.fieldLink RX11 45 "PalmCensus" "now" "LPalmCensus$Memory;") (by decide +kernel)
  have L116 := hts (.fieldLink RX11 116 "PalmCensus$Memory" "town" "LPalmCensus$Town;") (by decide +kernel)
  have hl := lv_entry ([.ref ap0, .int xp1, .int xp2]) (n := 3) (Nat.le_of_ble_eq_true rfl)
  rw [lg_entry_eq]
  generalize (lg_sl ([.ref ap0, .int xp1, .int xp2]) ++ List.replicate (3 - (lg_sl ([.ref ap0, .int xp1, .int xp2])).length) Slot.unset).toArray = ls at hl ⊢
  have hl : lv_has ls 3 [(0, .ref ap0), (1, .int xp1), (2, .int xp2)] := hl
  show WX11_crowd p l e s m below meth c D T ap0 xp1 xp2 s.heap [] (F0 m 0 ls [])
  refine lv_aload_n hx hb dX11_crowd_0 rfl (lv_at hl 0 rfl) ?_
  refine lv_iload_n hx hb dX11_crowd_1 rfl (lv_at hl 1 rfl) ?_
  refine lv_iload_n hx hb dX11_crowd_2 rfl (lv_at hl 2 rfl) ?_
  refine hp_callpi (va_runV (As := [.int xp1, .int xp2]) (rest := []) ⟨hx, hb, hml, hown, hts⟩ (sX11_isSpot l D T ap0 xp1 xp2 Ru hRu ap0tp ap0tr ap0rr ap0rl ap0nw ap0im ap0tl ap0sk ap0iq ap0pa ap0sn ap0be hp0 ip0tp ip0tr ip0rr hp0rl pxp0 ip0nw pimp0 hp0im ip0tl ip0sk ip0iq ip0pa ip0sn ip0be) (cwV 2 hts gX11_crowd_X11_isSpot rfl rfl rfl (by decide +kernel) ⟨Nat.le_of_ble_eq_true rfl, Nat.le_of_ble_eq_true rfl⟩) (hp_preV hG hw hp0 rfl trivial) rfl rfl hl.1 rfl (lv_room (Nat.le_of_ble_eq_true rfl)) dX11_crowd_3 ⟨Nat.zero_le _, Nat.zero_le _⟩) (fun x3 bx3 => ?_)
  have J25 : ∀ (y25_s0 : Int32), iv y25_s0 (-1) 1023 → ∀ (ls : Array Slot), lv_has ls 3 [] → WX11_crowd p l e s m below meth c D T ap0 xp1 xp2 s.heap [] (F0 m 25 ls [.int y25_s0]) := by
    intro y25_s0 c25_y25_s0 ls hl
    exact W.iret (v := y25_s0) hx hb hr (fun t ht hW => ⟨some (.int y25_s0), rfl, ⟨y25_s0, rfl, trivial⟩, ht⟩) (fun q h => by cases h) dX11_crowd_25
  refine lv_if_eq (tgt := 24) hx hb dX11_crowd_6 (by decide) (fun c6 => ?_) (fun c6 => ?_)
  · have r6tp : iv x3 0 0 := (iv_both bx3 (iv_eq (show iv 0 0 0 from ⟨by decide, by decide⟩) c6)).mono (by decide) (by decide)
    refine lv_iconst (v := (-1)) hx hb dX11_crowd_24 (by decide) ?_
    exact J25 ((-1) : Int32) (show iv (-1) (-1) 1023 from ⟨by decide, by decide⟩) _ (lv_sub hl [] rfl)
  · have r6fp : iv x3 1 1 := (iv_ne_lo c6 bx3 rfl).mono (by decide) (by decide)
    refine lv_aload_n hx hb dX11_crowd_9 rfl (lv_at hl 0 rfl) ?_
    refine hp_getr hx hb hts IX11 hown hK hw.1 hp0 rfl 5 (by decide) L45 rfl dX11_crowd_10 ?_
    refine hp_getr hx hb hts IX1 hown hK hw.1 hp0nw rfl 0 (by decide) L116 rfl dX11_crowd_13 ?_
    refine lv_iload_n hx hb dX11_crowd_16 rfl (lv_at hl 1 rfl) ?_
    refine lv_iload_n hx hb dX11_crowd_17 rfl (lv_at hl 2 rfl) ?_
    refine hp_callpi (va_runV (As := [.int xp1, .int xp2]) (rest := []) ⟨hx, hb, hml, hown, hts⟩ (sX8_those l D T ap0nwtw xp1 xp2 ip0nwtw) (cwV 2 hts gX11_crowd_X8_those rfl rfl rfl (by decide +kernel) ⟨Nat.le_of_ble_eq_true rfl, Nat.le_of_ble_eq_true rfl⟩) (hp_preV hG hw hp0nwtw rfl trivial) rfl rfl hl.1 rfl (lv_room (Nat.le_of_ble_eq_true rfl)) dX11_crowd_18 ⟨Nat.zero_le _, Nat.zero_le _⟩) (fun x18 bx18 => ?_)
    refine lv_goto (tgt := 25) hx hb dX11_crowd_21 (by decide) ?_
    exact J25 x18 (bx18.mono (by decide) (by decide)) _ (lv_sub hl [] rfl)
abbrev WX11_shake (p : Program) (l : Launch) (e : Env) (s : State) (m : MethodId) (below : List Frame) (meth : Method) (c : Code) (D : hp_D) (T : hp_T) (ap0 : Nat) (xp1 : Int32) (xp2 : Int32) (xp3 : Int32) (H : Heap) (locs : List Loc) (g : JFrame) : Prop := W p l e (headSpec wsX11_shake ({ frames := 4, cells := 0, slots := 0, locals := 98 })).room s m ([.ref ap0, .int xp1, .int xp2, .int xp3] : List Value).toArray below meth c H locs 0 0 (MQ below (hq_e D T (fun v _ _ => ∃ r : Int32, v = some (.int r) ∧ True)) ([.ref ap0, .int xp1, .int xp2, .int xp3] : List Value).toArray s 0 0 (hp_F T)) g
set_option maxHeartbeats 4000000 in
set_option maxRecDepth 100000 in
theorem sX11_shake (l : Launch) (D : hp_D) (T : hp_T) (ap0 : Nat) (xp1 : Int32) (xp2 : Int32) (xp3 : Int32) (Ru : Nat → Prop) (hRu : ∀ b, Ru b → isRule T b) (ap0tp ap0tr ap0rr ap0rl ap0nw ap0im ap0tl ap0sk ap0iq ap0pa ap0sn ap0be : Nat) (hp0 : T ap0 = some (.inr (11, [(rR ap0tp), (rR ap0tr), (rR ap0rr), (rR ap0rl), (rI 0 6), (rR ap0nw), (rR ap0im), (rR ap0tl), (rR ap0sk), (rR ap0iq), (rR ap0pa), (rR ap0sn), (rR ap0be)]))) (ip0tp : isTape T ap0tp) (ip0tr : isTownReader T ap0tr) (ip0rr : isRuleReader T ap0rr) (hp0rl : T ap0rl = some (.inl (5, 6, fun _ => rN Ru))) (pxp0 : Value → Prop) (ip0nw : isMemory T ap0nw pxp0) (pimp0 : Nat → Value → Prop) (hp0im : T ap0im = some (.inl (4, 4, pimp0))) (ip0tl : isTown T ap0tl) (ip0sk : isShaker T Ru ap0sk) (ip0iq : isWorlds T ap0iq) (ip0pa : isParity T ap0pa) (ip0sn : isShuns T ap0sn) (ip0be : isBest T ap0be) : Met l yX11_shake wsX11_shake ({ frames := 4, cells := 0, slots := 0, locals := 98 }) (hp_Pc D T [.ref ap0, .int xp1, .int xp2, .int xp3] (fun _ => True)) (hq_e D T (fun v _ _ => ∃ r : Int32, v = some (.int r) ∧ True)) 0 0 (hp_F T) := by
  obtain ⟨ap0tpbt, hp0tp, hp0tpbt⟩ := id ip0tp
  obtain ⟨ap0trtp, ap0trtw, hp0tr, ip0trtp, ip0trtw⟩ := id ip0tr
  obtain ⟨ap0trtpbt, hp0trtp, hp0trtpbt⟩ := id ip0trtp
  obtain ⟨ap0trtwkin, ap0trtwpl, ap0trtwcr, hp0trtw, hp0trtwkin, hp0trtwpl, hp0trtwcr⟩ := id ip0trtw
  obtain ⟨ap0rrtp, ap0rrstp, hp0rr, ip0rrtp, hp0rrstp⟩ := id ip0rr
  obtain ⟨ap0rrtpbt, hp0rrtp, hp0rrtpbt⟩ := id ip0rrtp
  obtain ⟨ap0nwtw, ap0nwtg, ap0nwth, ap0nwts, ap0nwpm, ap0nwak, ap0nwao, ap0nwah, ap0nwaw, hp0nw, ip0nwtw, hp0nwtg, hp0nwth, hp0nwts, hp0nwpm, hp0nwak, hp0nwao, hp0nwah, hp0nwaw⟩ := id ip0nw
  obtain ⟨ap0nwtwkin, ap0nwtwpl, ap0nwtwcr, hp0nwtw, hp0nwtwkin, hp0nwtwpl, hp0nwtwcr⟩ := id ip0nwtw
  obtain ⟨ap0tlkin, ap0tlpl, ap0tlcr, hp0tl, hp0tlkin, hp0tlpl, hp0tlcr⟩ := id ip0tl
  obtain ⟨ap0skwd, ap0sksk, ap0skth, hp0sk, hp0skwd, hp0sksk, hp0skth⟩ := id ip0sk
  obtain ⟨ap0iqfi, ap0iqwo, ap0iqsu, ap0iqsh, ap0iqme, ap0iqs1, ap0iqs2, hp0iq, hp0iqfi, hp0iqwo, hp0iqsu, hp0iqsh, hp0iqme, hp0iqs1, hp0iqs2⟩ := id ip0iq
  obtain ⟨ap0pabo, hp0pa, hp0pabo⟩ := id ip0pa
  obtain ⟨ap0snle, ap0sngr, ap0sndu, ap0snit, ap0snop, hp0sn, hp0snle, hp0sngr, hp0sndu, hp0snit, hp0snop⟩ := id ip0sn
  have hp0be : T ap0be = some (.inr (0, [(rI 0 1), rA, rA, rA])) := ip0be
  refine Met.ofW (cc := cX11_shake) (maxL := 6) (ret := (some .int)) (by decide) rfl ?_
  intro p e s m args below meth c s₁ B hml hv
  obtain ⟨rfl, hok, hG, hB⟩ := hv
  have hx := B.exec
  have hb := B.bytes
  have hr := B.returns
  have hts := atoms_spec (ws := wsX11_shake) B.pre
  have hown : s.vm.findClass RX11 = some m.cls := findClass_of_methodNamed B.named
  have hlocks := B.notSynchronized
  have hK := hG.1
  have hw : hp_w D T s s.heap [] := hp_w.rf hok
  have IX1 : ∀ w ∈ wsX10, w ∈ wsX11_shake := by decide +kernel
  have IX11 : ∀ w ∈ wsX110, w ∈ wsX11_shake := by decide +kernel
  have L45 := hts (.fieldLink RX11 45 "PalmCensus" "now" "LPalmCensus$Memory;") (by decide +kernel)
  have L116 := hts (.fieldLink RX11 116 "PalmCensus$Memory" "town" "LPalmCensus$Town;") (by decide +kernel)
  have Mmax183_1 := hts (.methodLink RX11 183 Lib.Math.max.name) (by decide +kernel)
  have Mmax183_2 := hts (.static Lib.Math.max.name) (by decide +kernel)
  have Mmax183_3 := hts (.initialized "java/lang/Math") (by decide +kernel)
  have Mmax183_4 := hts (.code Lib.Math.max.name Lib.Math.max.code 2 (some .int)) (by decide +kernel)
  have Mmin178_1 := hts (.methodLink RX11 178 Lib.Math.min.name) (by decide +kernel)
  have Mmin178_2 := hts (.static Lib.Math.min.name) (by decide +kernel)
  have Mmin178_3 := hts (.initialized "java/lang/Math") (by decide +kernel)
  have Mmin178_4 := hts (.code Lib.Math.min.name Lib.Math.min.code 2 (some .int)) (by decide +kernel)
  have hl := lv_entry ([.ref ap0, .int xp1, .int xp2, .int xp3]) (n := 6) (Nat.le_of_ble_eq_true rfl)
  rw [lg_entry_eq]
  generalize (lg_sl ([.ref ap0, .int xp1, .int xp2, .int xp3]) ++ List.replicate (6 - (lg_sl ([.ref ap0, .int xp1, .int xp2, .int xp3])).length) Slot.unset).toArray = ls at hl ⊢
  have hl : lv_has ls 6 [(0, .ref ap0), (1, .int xp1), (2, .int xp2), (3, .int xp3)] := hl
  show WX11_shake p l e s m below meth c D T ap0 xp1 xp2 xp3 s.heap [] (F0 m 0 ls [])
  refine lv_aload_n hx hb dX11_shake_0 rfl (lv_at hl 0 rfl) ?_
  refine hp_getr hx hb hts IX11 hown hK hw.1 hp0 rfl 5 (by decide) L45 rfl dX11_shake_1 ?_
  refine hp_getr hx hb hts IX1 hown hK hw.1 hp0nw rfl 0 (by decide) L116 rfl dX11_shake_4 ?_
  refine lv_astore (lv' := [(4, .ref ap0nwtw), (0, .ref ap0), (1, .int xp1), (2, .int xp2), (3, .int xp3)]) hx hb dX11_shake_7 hl (by decide) rfl (fun ls hl => ?_)
  refine lv_aload hx hb dX11_shake_9 (lv_at hl 0 rfl) ?_
  refine lv_iload_n hx hb dX11_shake_11 rfl (lv_at hl 2 rfl) ?_
  refine hp_callpi (va_runV (As := [.int xp1]) (rest := []) ⟨hx, hb, hml, hown, hts⟩ (sX8_isPerson l D T ap0nwtw xp1 ip0nwtw) (cwV 1 hts gX11_shake_X8_isPerson rfl rfl rfl (by decide +kernel) ⟨Nat.le_of_ble_eq_true rfl, Nat.le_of_ble_eq_true rfl⟩) (hp_preV hG hw hp0nwtw rfl trivial) rfl rfl hl.1 rfl (lv_room (Nat.le_of_ble_eq_true rfl)) dX11_shake_12 ⟨Nat.zero_le _, Nat.zero_le _⟩) (fun x12 bx12 => ?_)
  obtain ⟨bx12, ix12_0⟩ := bx12
  have J36 : ∀ (H : Heap) (locs : List Loc), hp_w D T s H locs → ∀ (ls : Array Slot), lv_has ls 6 [] → WX11_shake p l e s m below meth c D T ap0 xp1 xp2 xp3 H locs (F0 m 36 ls []) := by
    intro H36 locs36 hw ls hl
    refine lv_sipush (v := (-1000)) hx hb dX11_shake_36 (by decide) ?_
    exact W.iret (v := (-1000)) hx hb hr (fun t ht hW => ⟨some (.int (-1000)), rfl, ⟨((-1000) : Int32), rfl, trivial⟩, by rw [ht]; exact hw.1, hw.2.F ht⟩) hw.2.2.2 dX11_shake_39
  refine lv_if_eq (tgt := 36) hx hb dX11_shake_15 (by decide) (fun c15 => ?_) (fun c15 => ?_)
  · have r15tp : iv x12 0 0 := (iv_both bx12 (iv_eq (show iv 0 0 0 from ⟨by decide, by decide⟩) c15)).mono (by decide) (by decide)
    exact J36 s.heap [] hw _ (lv_sub hl [] rfl)
  · have r15fp : iv x12 1 1 := (iv_ne_lo c15 bx12 rfl).mono (by decide) (by decide)
    have r15fpz : iv xp1 0 9 := (iv_both (iv_any xp1) (ix12_0 (iv_ne0 r15fp (by decide)))).mono (by decide) (by decide)
    refine lv_aload hx hb dX11_shake_18 (lv_at hl 0 rfl) ?_
    refine lv_iload_n hx hb dX11_shake_20 rfl (lv_at hl 3 rfl) ?_
    refine hp_callpi (va_runV (As := [.int xp2]) (rest := []) ⟨hx, hb, hml, hown, hts⟩ (sX8_isPerson l D T ap0nwtw xp2 ip0nwtw) (cwV 1 hts gX11_shake_X8_isPerson rfl rfl rfl (by decide +kernel) ⟨Nat.le_of_ble_eq_true rfl, Nat.le_of_ble_eq_true rfl⟩) (hp_preV hG hw hp0nwtw rfl trivial) rfl rfl hl.1 rfl (lv_room (Nat.le_of_ble_eq_true rfl)) dX11_shake_21 ⟨Nat.zero_le _, Nat.zero_le _⟩) (fun x21 bx21 => ?_)
    obtain ⟨bx21, ix21_0⟩ := bx21
    refine lv_if_eq (tgt := 36) hx hb dX11_shake_24 (by decide) (fun c24 => ?_) (fun c24 => ?_)
    · have r24tp : iv x21 0 0 := (iv_both bx21 (iv_eq (show iv 0 0 0 from ⟨by decide, by decide⟩) c24)).mono (by decide) (by decide)
      exact J36 s.heap [] hw _ (lv_sub hl [] rfl)
    · have r24fp : iv x21 1 1 := (iv_ne_lo c24 bx21 rfl).mono (by decide) (by decide)
      have r24fpz : iv xp2 0 9 := (iv_both (iv_any xp2) (ix21_0 (iv_ne0 r24fp (by decide)))).mono (by decide) (by decide)
      refine lv_aload hx hb dX11_shake_27 (lv_at hl 0 rfl) ?_
      refine lv_iload_n hx hb dX11_shake_29 rfl (lv_at hl 4 rfl) ?_
      refine hp_callpi (va_runV (As := [.int xp3]) (rest := []) ⟨hx, hb, hml, hown, hts⟩ (sX8_isHour l D T ap0nwtw xp3 ip0nwtw) (cwV 1 hts gX11_shake_X8_isHour rfl rfl rfl (by decide +kernel) ⟨Nat.le_of_ble_eq_true rfl, Nat.le_of_ble_eq_true rfl⟩) (hp_preV hG hw hp0nwtw rfl trivial) rfl rfl hl.1 rfl (lv_room (Nat.le_of_ble_eq_true rfl)) dX11_shake_30 ⟨Nat.zero_le _, Nat.zero_le _⟩) (fun x30 bx30 => ?_)
      obtain ⟨bx30, ix30_0⟩ := bx30
      refine lv_if_ne (tgt := 40) hx hb dX11_shake_33 (by decide) (fun c33 => ?_) (fun c33 => ?_)
      · have r33tp : iv x30 1 1 := (iv_ne_lo c33 bx30 rfl).mono (by decide) (by decide)
        have r33tpz : iv xp3 0 11 := (iv_both (iv_any xp3) (ix30_0 (iv_ne0 r33tp (by decide)))).mono (by decide) (by decide)
        refine lv_iload_n hx hb dX11_shake_40 rfl (lv_at hl 2 rfl) ?_
        refine lv_iload_n hx hb dX11_shake_41 rfl (lv_at hl 3 rfl) ?_
        have J56 : ∀ (H : Heap) (locs : List Loc), hp_w D T s H locs → ∀ (ls : Array Slot), lv_has ls 6 [] → WX11_shake p l e s m below meth c D T ap0 xp1 xp2 xp3 H locs (F0 m 56 ls []) := by
          intro H56 locs56 hw ls hl
          refine lv_sipush (v := (-1000)) hx hb dX11_shake_56 (by decide) ?_
          exact W.iret (v := (-1000)) hx hb hr (fun t ht hW => ⟨some (.int (-1000)), rfl, ⟨((-1000) : Int32), rfl, trivial⟩, by rw [ht]; exact hw.1, hw.2.F ht⟩) hw.2.2.2 dX11_shake_59
        refine lv_icmp_eq (tgt := 56) hx hb dX11_shake_42 (by decide) (fun c42 => ?_) (fun c42 => ?_)
        · exact J56 s.heap [] hw _ (lv_sub hl [] rfl)
        · refine lv_aload hx hb dX11_shake_45 (lv_at hl 0 rfl) ?_
          refine lv_iload_n hx hb dX11_shake_47 rfl (lv_at hl 2 rfl) ?_
          refine lv_iload_n hx hb dX11_shake_48 rfl (lv_at hl 3 rfl) ?_
          refine lv_iload_n hx hb dX11_shake_49 rfl (lv_at hl 4 rfl) ?_
          refine hp_callpi (va_runV (As := [.int xp1, .int xp2, .int xp3]) (rest := []) ⟨hx, hb, hml, hown, hts⟩ (sX8_areTogether l D T ap0nwtw xp1 xp2 xp3 ip0nwtw) (cwV 3 hts gX11_shake_X8_areTogether rfl rfl rfl (by decide +kernel) ⟨Nat.le_of_ble_eq_true rfl, Nat.le_of_ble_eq_true rfl⟩) (hp_preV hG hw hp0nwtw rfl trivial) rfl rfl hl.1 rfl (lv_room (Nat.le_of_ble_eq_true rfl)) dX11_shake_50 ⟨Nat.zero_le _, Nat.zero_le _⟩) (fun x50 bx50 => ?_)
          refine lv_if_ne (tgt := 60) hx hb dX11_shake_53 (by decide) (fun c53 => ?_) (fun c53 => ?_)
          · have r53tp : iv x50 1 1 := (iv_ne_lo c53 bx50 rfl).mono (by decide) (by decide)
            refine lv_aload hx hb dX11_shake_60 (lv_at hl 0 rfl) ?_
            refine lv_aload hx hb dX11_shake_62 (lv_at hl 0 rfl) ?_
            refine lv_iload_n hx hb dX11_shake_64 rfl (lv_at hl 2 rfl) ?_
            refine lv_iload_n hx hb dX11_shake_65 rfl (lv_at hl 4 rfl) ?_
            refine hp_callpi (va_runV (As := [.int xp1, .int xp3]) (rest := [.ref ap0nwtw]) ⟨hx, hb, hml, hown, hts⟩ (sX8_placeOf l D T ap0nwtw xp1 xp3 ip0nwtw) (cwV 2 hts gX11_shake_X8_placeOf rfl rfl rfl (by decide +kernel) ⟨Nat.le_of_ble_eq_true rfl, Nat.le_of_ble_eq_true rfl⟩) (hp_preV hG hw hp0nwtw rfl trivial) rfl rfl hl.1 rfl (lv_room (Nat.le_of_ble_eq_true rfl)) dX11_shake_66 ⟨Nat.zero_le _, Nat.zero_le _⟩) (fun x66 bx66 => ?_)
            refine lv_iload_n hx hb dX11_shake_69 rfl (lv_at hl 4 rfl) ?_
            refine hp_callpi (va_runV (As := [.int x66, .int xp3]) (rest := []) ⟨hx, hb, hml, hown, hts⟩ (sX8_those l D T ap0nwtw x66 xp3 ip0nwtw) (cwV 2 hts gX11_shake_X8_those rfl rfl rfl (by decide +kernel) ⟨Nat.le_of_ble_eq_true rfl, Nat.le_of_ble_eq_true rfl⟩) (hp_preV hG hw hp0nwtw rfl trivial) rfl rfl hl.1 rfl (lv_room (Nat.le_of_ble_eq_true rfl)) dX11_shake_70 ⟨Nat.zero_le _, Nat.zero_le _⟩) (fun x70 bx70 => ?_)
            refine hp_callpi (va_runS (As := [.int x70]) (rest := []) ⟨hx, hb, hml, hown, hts⟩ (sJ6_bitCount_0f7a4 l D T x70) (va_cwS 1 hts gX11_shake_J6_bitCount_0f7a4 rfl rfl rfl (by decide +kernel) ⟨Nat.le_of_ble_eq_true rfl, Nat.le_of_ble_eq_true rfl⟩) (hp_preS hG hw trivial) rfl rfl hl.1 rfl (lv_room (Nat.le_of_ble_eq_true rfl)) dX11_shake_73 ⟨Nat.zero_le _, Nat.zero_le _⟩) (fun x73 bx73 => ?_)
            refine lv_istore (lv' := [(5, .int x73), (4, .ref ap0nwtw), (0, .ref ap0), (1, .int xp1), (2, .int xp2), (3, .int xp3)]) hx hb dX11_shake_76 hl (by decide) rfl (fun ls hl => ?_)
            refine lv_aload_n hx hb dX11_shake_78 rfl (lv_at hl 2 rfl) ?_
            refine hp_caller (va_runV (As := []) (rest := []) ⟨hx, hb, hml, hown, hts⟩ (sX11_counting l D T ap0 Ru hRu ap0tp ap0tr ap0rr ap0rl ap0nw ap0im ap0tl ap0sk ap0iq ap0pa ap0sn ap0be hp0 ip0tp ip0tr ip0rr hp0rl pxp0 ip0nw pimp0 hp0im ip0tl ip0sk ip0iq ip0pa ip0sn ip0be) (cwV 0 hts gX11_shake_X11_counting rfl rfl rfl (by decide +kernel) ⟨Nat.le_of_ble_eq_true rfl, Nat.le_of_ble_eq_true rfl⟩) (hp_preV hG hw hp0 rfl trivial) rfl rfl hl.1 rfl (lv_room (Nat.le_of_ble_eq_true rfl)) dX11_shake_79 ⟨Nat.zero_le _, Nat.zero_le _⟩) hw (fun st79 t79 H79 locs79 eh79 eg79 hw => ?_)
            refine lv_aload hx hb dX11_shake_82 (lv_at hl 1 rfl) ?_
            refine lv_iload_n hx hb dX11_shake_84 rfl (lv_at hl 3 rfl) ?_
            refine lv_iload_n hx hb dX11_shake_85 rfl (lv_at hl 4 rfl) ?_
            refine va_mmin hx hb (by rw [hml]; exact hl.1.symm) hown Mmin178_1 Mmin178_2 Mmin178_3 Mmin178_4 (Nat.le_of_ble_eq_true rfl) (Nat.le_of_ble_eq_true rfl) (Nat.zero_le _) (Nat.zero_le _) dX11_shake_86 ?_
            refine lv_topi (fun x86 ex86 => ?_)
            have bx86 : iv x86 0 9 := iv_min r15fpz r24fpz ex86 (by decide)
            refine lv_iload_n hx hb dX11_shake_89 rfl (lv_at hl 3 rfl) ?_
            refine lv_iload_n hx hb dX11_shake_90 rfl (lv_at hl 4 rfl) ?_
            refine va_mmax hx hb (by rw [hml]; exact hl.1.symm) hown Mmax183_1 Mmax183_2 Mmax183_3 Mmax183_4 (Nat.le_of_ble_eq_true rfl) (Nat.le_of_ble_eq_true rfl) (Nat.zero_le _) (Nat.zero_le _) dX11_shake_91 ?_
            refine lv_topi (fun x91 ex91 => ?_)
            have bx91 : iv x91 0 9 := iv_max r15fpz r24fpz ex91 (by decide)
            refine lv_iload_n hx hb dX11_shake_94 rfl (lv_at hl 5 rfl) ?_
            refine lv_iload hx hb dX11_shake_95 (lv_at hl 0 rfl) ?_
            refine hp_callei (va_runV (As := [.ref ap0nwtw, .int x86, .int x91, .int xp3, .int x73]) (rest := []) ⟨hx, hb, hml, hown, hts⟩ (sX5_worthOf l D T ap0sk ap0nwtw x86 x91 xp3 x73 Ru hRu ip0sk ip0nwtw) (cwV 5 hts gX11_shake_X5_worthOf rfl rfl rfl (by decide +kernel) ⟨Nat.le_of_ble_eq_true rfl, Nat.le_of_ble_eq_true rfl⟩) (hp_preV hG hw hp0sk rfl trivial) rfl rfl hl.1 rfl (lv_room (Nat.le_of_ble_eq_true rfl)) dX11_shake_97 ⟨Nat.zero_le _, Nat.zero_le _⟩) hw (fun x97 st97 t97 H97 locs97 eh97 eg97 bx97 hw => ?_)
            exact W.iret (v := x97) hx hb hr (fun t ht hW => ⟨some (.int x97), rfl, ⟨x97, rfl, trivial⟩, by rw [ht]; exact hw.1, hw.2.F ht⟩) hw.2.2.2 dX11_shake_100
          · have r53fp : iv x50 0 0 := (iv_both bx50 (iv_eq (show iv 0 0 0 from ⟨by decide, by decide⟩) c53)).mono (by decide) (by decide)
            exact J56 s.heap [] hw _ (lv_sub hl [] rfl)
      · have r33fp : iv x30 0 0 := (iv_both bx30 (iv_eq (show iv 0 0 0 from ⟨by decide, by decide⟩) c33)).mono (by decide) (by decide)
        exact J36 s.heap [] hw _ (lv_sub hl [] rfl)
abbrev WX11_sum (p : Program) (l : Launch) (e : Env) (s : State) (m : MethodId) (below : List Frame) (meth : Method) (c : Code) (D : hp_D) (T : hp_T) (ap0 : Nat) (xp1 : Int32) (xp2 : Int32) (H : Heap) (locs : List Loc) (g : JFrame) : Prop := W p l e (headSpec wsX11_sum ({ frames := 5, cells := 0, slots := 0, locals := 125 })).room s m ([.ref ap0, .int xp1, .int xp2] : List Value).toArray below meth c H locs 0 0 (MQ below (hq_e D T (fun v _ _ => ∃ r : Int32, v = some (.int r) ∧ True)) ([.ref ap0, .int xp1, .int xp2] : List Value).toArray s 0 0 (hp_F T)) g
set_option maxHeartbeats 4000000 in
set_option maxRecDepth 100000 in
theorem sX11_sum (l : Launch) (D : hp_D) (T : hp_T) (ap0 : Nat) (xp1 : Int32) (xp2 : Int32) (Ru : Nat → Prop) (hRu : ∀ b, Ru b → isRule T b) (ap0tp ap0tr ap0rr ap0rl ap0nw ap0im ap0tl ap0sk ap0iq ap0pa ap0sn ap0be : Nat) (hp0 : T ap0 = some (.inr (11, [(rR ap0tp), (rR ap0tr), (rR ap0rr), (rR ap0rl), (rI 0 6), (rR ap0nw), (rR ap0im), (rR ap0tl), (rR ap0sk), (rR ap0iq), (rR ap0pa), (rR ap0sn), (rR ap0be)]))) (ip0tp : isTape T ap0tp) (ip0tr : isTownReader T ap0tr) (ip0rr : isRuleReader T ap0rr) (hp0rl : T ap0rl = some (.inl (5, 6, fun _ => rN Ru))) (pxp0 : Value → Prop) (ip0nw : isMemory T ap0nw pxp0) (pimp0 : Nat → Value → Prop) (hp0im : T ap0im = some (.inl (4, 4, pimp0))) (ip0tl : isTown T ap0tl) (ip0sk : isShaker T Ru ap0sk) (ip0iq : isWorlds T ap0iq) (ip0pa : isParity T ap0pa) (ip0sn : isShuns T ap0sn) (ip0be : isBest T ap0be) : Met l yX11_sum wsX11_sum ({ frames := 5, cells := 0, slots := 0, locals := 125 }) (hp_Pc D T [.ref ap0, .int xp1, .int xp2] (fun _ => True)) (hq_e D T (fun v _ _ => ∃ r : Int32, v = some (.int r) ∧ True)) 0 0 (hp_F T) := by
  obtain ⟨ap0tpbt, hp0tp, hp0tpbt⟩ := id ip0tp
  obtain ⟨ap0trtp, ap0trtw, hp0tr, ip0trtp, ip0trtw⟩ := id ip0tr
  obtain ⟨ap0trtpbt, hp0trtp, hp0trtpbt⟩ := id ip0trtp
  obtain ⟨ap0trtwkin, ap0trtwpl, ap0trtwcr, hp0trtw, hp0trtwkin, hp0trtwpl, hp0trtwcr⟩ := id ip0trtw
  obtain ⟨ap0rrtp, ap0rrstp, hp0rr, ip0rrtp, hp0rrstp⟩ := id ip0rr
  obtain ⟨ap0rrtpbt, hp0rrtp, hp0rrtpbt⟩ := id ip0rrtp
  obtain ⟨ap0nwtw, ap0nwtg, ap0nwth, ap0nwts, ap0nwpm, ap0nwak, ap0nwao, ap0nwah, ap0nwaw, hp0nw, ip0nwtw, hp0nwtg, hp0nwth, hp0nwts, hp0nwpm, hp0nwak, hp0nwao, hp0nwah, hp0nwaw⟩ := id ip0nw
  obtain ⟨ap0nwtwkin, ap0nwtwpl, ap0nwtwcr, hp0nwtw, hp0nwtwkin, hp0nwtwpl, hp0nwtwcr⟩ := id ip0nwtw
  obtain ⟨ap0tlkin, ap0tlpl, ap0tlcr, hp0tl, hp0tlkin, hp0tlpl, hp0tlcr⟩ := id ip0tl
  obtain ⟨ap0skwd, ap0sksk, ap0skth, hp0sk, hp0skwd, hp0sksk, hp0skth⟩ := id ip0sk
  obtain ⟨ap0iqfi, ap0iqwo, ap0iqsu, ap0iqsh, ap0iqme, ap0iqs1, ap0iqs2, hp0iq, hp0iqfi, hp0iqwo, hp0iqsu, hp0iqsh, hp0iqme, hp0iqs1, hp0iqs2⟩ := id ip0iq
  obtain ⟨ap0pabo, hp0pa, hp0pabo⟩ := id ip0pa
  obtain ⟨ap0snle, ap0sngr, ap0sndu, ap0snit, ap0snop, hp0sn, hp0snle, hp0sngr, hp0sndu, hp0snit, hp0snop⟩ := id ip0sn
  have hp0be : T ap0be = some (.inr (0, [(rI 0 1), rA, rA, rA])) := ip0be
  refine Met.ofW (cc := cX11_sum) (maxL := 3) (ret := (some .int)) (by decide) rfl ?_
  intro p e s m args below meth c s₁ B hml hv
  obtain ⟨rfl, hok, hG, hB⟩ := hv
  have hx := B.exec
  have hb := B.bytes
  have hr := B.returns
  have hts := atoms_spec (ws := wsX11_sum) B.pre
  have hown : s.vm.findClass RX11 = some m.cls := findClass_of_methodNamed B.named
  have hlocks := B.notSynchronized
  have hK := hG.1
  have hw : hp_w D T s s.heap [] := hp_w.rf hok
  have IX1 : ∀ w ∈ wsX10, w ∈ wsX11_sum := by decide +kernel
  have IX11 : ∀ w ∈ wsX110, w ∈ wsX11_sum := by decide +kernel
  have K194 := hts (.constant RX11 194 (-1000000)) (by decide +kernel)
  have L45 := hts (.fieldLink RX11 45 "PalmCensus" "now" "LPalmCensus$Memory;") (by decide +kernel)
  have L116 := hts (.fieldLink RX11 116 "PalmCensus$Memory" "town" "LPalmCensus$Town;") (by decide +kernel)
  have hl := lv_entry ([.ref ap0, .int xp1, .int xp2]) (n := 3) (Nat.le_of_ble_eq_true rfl)
  rw [lg_entry_eq]
  generalize (lg_sl ([.ref ap0, .int xp1, .int xp2]) ++ List.replicate (3 - (lg_sl ([.ref ap0, .int xp1, .int xp2])).length) Slot.unset).toArray = ls at hl ⊢
  have hl : lv_has ls 3 [(0, .ref ap0), (1, .int xp1), (2, .int xp2)] := hl
  show WX11_sum p l e s m below meth c D T ap0 xp1 xp2 s.heap [] (F0 m 0 ls [])
  refine lv_aload_n hx hb dX11_sum_0 rfl (lv_at hl 0 rfl) ?_
  refine lv_iload_n hx hb dX11_sum_1 rfl (lv_at hl 1 rfl) ?_
  refine lv_iload_n hx hb dX11_sum_2 rfl (lv_at hl 2 rfl) ?_
  refine hp_callpi (va_runV (As := [.int xp1, .int xp2]) (rest := []) ⟨hx, hb, hml, hown, hts⟩ (sX11_isSpot l D T ap0 xp1 xp2 Ru hRu ap0tp ap0tr ap0rr ap0rl ap0nw ap0im ap0tl ap0sk ap0iq ap0pa ap0sn ap0be hp0 ip0tp ip0tr ip0rr hp0rl pxp0 ip0nw pimp0 hp0im ip0tl ip0sk ip0iq ip0pa ip0sn ip0be) (cwV 2 hts gX11_sum_X11_isSpot rfl rfl rfl (by decide +kernel) ⟨Nat.le_of_ble_eq_true rfl, Nat.le_of_ble_eq_true rfl⟩) (hp_preV hG hw hp0 rfl trivial) rfl rfl hl.1 rfl (lv_room (Nat.le_of_ble_eq_true rfl)) dX11_sum_3 ⟨Nat.zero_le _, Nat.zero_le _⟩) (fun x3 bx3 => ?_)
  have J30 : ∀ (y30_s0 : Int32), ∀ (H : Heap) (locs : List Loc), hp_w D T s H locs → ∀ (ls : Array Slot), lv_has ls 3 [] → WX11_sum p l e s m below meth c D T ap0 xp1 xp2 H locs (F0 m 30 ls [.int y30_s0]) := by
    intro y30_s0 H30 locs30 hw ls hl
    exact W.iret (v := y30_s0) hx hb hr (fun t ht hW => ⟨some (.int y30_s0), rfl, ⟨y30_s0, rfl, trivial⟩, by rw [ht]; exact hw.1, hw.2.F ht⟩) hw.2.2.2 dX11_sum_30
  refine lv_if_eq (tgt := 28) hx hb dX11_sum_6 (by decide) (fun c6 => ?_) (fun c6 => ?_)
  · have r6tp : iv x3 0 0 := (iv_both bx3 (iv_eq (show iv 0 0 0 from ⟨by decide, by decide⟩) c6)).mono (by decide) (by decide)
    refine lv_ldc (v := (-1000000)) hx hb hown K194 dX11_sum_28 ?_
    exact J30 ((-1000000) : Int32) s.heap [] hw _ (lv_sub hl [] rfl)
  · have r6fp : iv x3 1 1 := (iv_ne_lo c6 bx3 rfl).mono (by decide) (by decide)
    refine lv_aload_n hx hb dX11_sum_9 rfl (lv_at hl 0 rfl) ?_
    refine hp_caller (va_runV (As := []) (rest := []) ⟨hx, hb, hml, hown, hts⟩ (sX11_counting l D T ap0 Ru hRu ap0tp ap0tr ap0rr ap0rl ap0nw ap0im ap0tl ap0sk ap0iq ap0pa ap0sn ap0be hp0 ip0tp ip0tr ip0rr hp0rl pxp0 ip0nw pimp0 hp0im ip0tl ip0sk ip0iq ip0pa ip0sn ip0be) (cwV 0 hts gX11_sum_X11_counting rfl rfl rfl (by decide +kernel) ⟨Nat.le_of_ble_eq_true rfl, Nat.le_of_ble_eq_true rfl⟩) (hp_preV hG hw hp0 rfl trivial) rfl rfl hl.1 rfl (lv_room (Nat.le_of_ble_eq_true rfl)) dX11_sum_10 ⟨Nat.zero_le _, Nat.zero_le _⟩) hw (fun st10 t10 H10 locs10 eh10 eg10 hw => ?_)
    refine lv_aload_n hx hb dX11_sum_13 rfl (lv_at hl 0 rfl) ?_
    refine hp_getr hx hb hts IX11 hown hK hw.1 hp0 rfl 5 (by decide) L45 rfl dX11_sum_14 ?_
    refine hp_getr hx hb hts IX1 hown hK hw.1 hp0nw rfl 0 (by decide) L116 rfl dX11_sum_17 ?_
    refine lv_iload_n hx hb dX11_sum_20 rfl (lv_at hl 1 rfl) ?_
    refine lv_iload_n hx hb dX11_sum_21 rfl (lv_at hl 2 rfl) ?_
    refine hp_callei (va_runV (As := [.ref ap0nwtw, .int xp1, .int xp2]) (rest := []) ⟨hx, hb, hml, hown, hts⟩ (sX5_sumOf l D T ap0sk ap0nwtw xp1 xp2 Ru hRu ip0sk ip0nwtw) (cwV 3 hts gX11_sum_X5_sumOf rfl rfl rfl (by decide +kernel) ⟨Nat.le_of_ble_eq_true rfl, Nat.le_of_ble_eq_true rfl⟩) (hp_preV hG hw hp0sk rfl trivial) rfl rfl hl.1 rfl (lv_room (Nat.le_of_ble_eq_true rfl)) dX11_sum_22 ⟨Nat.zero_le _, Nat.zero_le _⟩) hw (fun x22 st22 t22 H22 locs22 eh22 eg22 bx22 hw => ?_)
    refine lv_goto (tgt := 30) hx hb dX11_sum_25 (by decide) ?_
    exact J30 x22 H22 locs22 hw _ (lv_sub hl [] rfl)
abbrev WX11_heard (p : Program) (l : Launch) (e : Env) (s : State) (m : MethodId) (below : List Frame) (meth : Method) (c : Code) (D : hp_D) (T : hp_T) (ap0 : Nat) (xp1 : Int32) (xp2 : Int32) (H : Heap) (locs : List Loc) (g : JFrame) : Prop := W p l e (headSpec wsX11_heard ({ frames := 5, cells := 0, slots := 0, locals := 125 })).room s m ([.ref ap0, .int xp1, .int xp2] : List Value).toArray below meth c H locs 0 0 (MQ below (hq_e D T (fun v _ _ => ∃ r : Int32, v = some (.int r) ∧ True)) ([.ref ap0, .int xp1, .int xp2] : List Value).toArray s 0 0 (hp_F T)) g
set_option maxHeartbeats 4000000 in
set_option maxRecDepth 100000 in
theorem sX11_heard (l : Launch) (D : hp_D) (T : hp_T) (ap0 : Nat) (xp1 : Int32) (xp2 : Int32) (Ru : Nat → Prop) (hRu : ∀ b, Ru b → isRule T b) (ap0tp ap0tr ap0rr ap0rl ap0nw ap0im ap0tl ap0sk ap0iq ap0pa ap0sn ap0be : Nat) (hp0 : T ap0 = some (.inr (11, [(rR ap0tp), (rR ap0tr), (rR ap0rr), (rR ap0rl), (rI 0 6), (rR ap0nw), (rR ap0im), (rR ap0tl), (rR ap0sk), (rR ap0iq), (rR ap0pa), (rR ap0sn), (rR ap0be)]))) (ip0tp : isTape T ap0tp) (ip0tr : isTownReader T ap0tr) (ip0rr : isRuleReader T ap0rr) (hp0rl : T ap0rl = some (.inl (5, 6, fun _ => rN Ru))) (pxp0 : Value → Prop) (ip0nw : isMemory T ap0nw pxp0) (pimp0 : Nat → Value → Prop) (hp0im : T ap0im = some (.inl (4, 4, pimp0))) (ip0tl : isTown T ap0tl) (ip0sk : isShaker T Ru ap0sk) (ip0iq : isWorlds T ap0iq) (ip0pa : isParity T ap0pa) (ip0sn : isShuns T ap0sn) (ip0be : isBest T ap0be) : Met l yX11_heard wsX11_heard ({ frames := 5, cells := 0, slots := 0, locals := 125 }) (hp_Pc D T [.ref ap0, .int xp1, .int xp2] (fun _ => True)) (hq_e D T (fun v _ _ => ∃ r : Int32, v = some (.int r) ∧ True)) 0 0 (hp_F T) := by
  obtain ⟨ap0tpbt, hp0tp, hp0tpbt⟩ := id ip0tp
  obtain ⟨ap0trtp, ap0trtw, hp0tr, ip0trtp, ip0trtw⟩ := id ip0tr
  obtain ⟨ap0trtpbt, hp0trtp, hp0trtpbt⟩ := id ip0trtp
  obtain ⟨ap0trtwkin, ap0trtwpl, ap0trtwcr, hp0trtw, hp0trtwkin, hp0trtwpl, hp0trtwcr⟩ := id ip0trtw
  obtain ⟨ap0rrtp, ap0rrstp, hp0rr, ip0rrtp, hp0rrstp⟩ := id ip0rr
  obtain ⟨ap0rrtpbt, hp0rrtp, hp0rrtpbt⟩ := id ip0rrtp
  obtain ⟨ap0nwtw, ap0nwtg, ap0nwth, ap0nwts, ap0nwpm, ap0nwak, ap0nwao, ap0nwah, ap0nwaw, hp0nw, ip0nwtw, hp0nwtg, hp0nwth, hp0nwts, hp0nwpm, hp0nwak, hp0nwao, hp0nwah, hp0nwaw⟩ := id ip0nw
  obtain ⟨ap0nwtwkin, ap0nwtwpl, ap0nwtwcr, hp0nwtw, hp0nwtwkin, hp0nwtwpl, hp0nwtwcr⟩ := id ip0nwtw
  obtain ⟨ap0tlkin, ap0tlpl, ap0tlcr, hp0tl, hp0tlkin, hp0tlpl, hp0tlcr⟩ := id ip0tl
  obtain ⟨ap0skwd, ap0sksk, ap0skth, hp0sk, hp0skwd, hp0sksk, hp0skth⟩ := id ip0sk
  obtain ⟨ap0iqfi, ap0iqwo, ap0iqsu, ap0iqsh, ap0iqme, ap0iqs1, ap0iqs2, hp0iq, hp0iqfi, hp0iqwo, hp0iqsu, hp0iqsh, hp0iqme, hp0iqs1, hp0iqs2⟩ := id ip0iq
  obtain ⟨ap0pabo, hp0pa, hp0pabo⟩ := id ip0pa
  obtain ⟨ap0snle, ap0sngr, ap0sndu, ap0snit, ap0snop, hp0sn, hp0snle, hp0sngr, hp0sndu, hp0snit, hp0snop⟩ := id ip0sn
  have hp0be : T ap0be = some (.inr (0, [(rI 0 1), rA, rA, rA])) := ip0be
  refine Met.ofW (cc := cX11_heard) (maxL := 3) (ret := (some .int)) (by decide) rfl ?_
  intro p e s m args below meth c s₁ B hml hv
  obtain ⟨rfl, hok, hG, hB⟩ := hv
  have hx := B.exec
  have hb := B.bytes
  have hr := B.returns
  have hts := atoms_spec (ws := wsX11_heard) B.pre
  have hown : s.vm.findClass RX11 = some m.cls := findClass_of_methodNamed B.named
  have hlocks := B.notSynchronized
  have hK := hG.1
  have hw : hp_w D T s s.heap [] := hp_w.rf hok
  have IX1 : ∀ w ∈ wsX10, w ∈ wsX11_heard := by decide +kernel
  have IX11 : ∀ w ∈ wsX110, w ∈ wsX11_heard := by decide +kernel
  have IX8 : ∀ w ∈ wsX80, w ∈ wsX11_heard := by decide +kernel
  have K194 := hts (.constant RX11 194 (-1000000)) (by decide +kernel)
  have L45 := hts (.fieldLink RX11 45 "PalmCensus" "now" "LPalmCensus$Memory;") (by decide +kernel)
  have L116 := hts (.fieldLink RX11 116 "PalmCensus$Memory" "town" "LPalmCensus$Town;") (by decide +kernel)
  have L195 := hts (.fieldLink RX11 195 "PalmCensus$Town" "counters" "I") (by decide +kernel)
  have hl := lv_entry ([.ref ap0, .int xp1, .int xp2]) (n := 3) (Nat.le_of_ble_eq_true rfl)
  rw [lg_entry_eq]
  generalize (lg_sl ([.ref ap0, .int xp1, .int xp2]) ++ List.replicate (3 - (lg_sl ([.ref ap0, .int xp1, .int xp2])).length) Slot.unset).toArray = ls at hl ⊢
  have hl : lv_has ls 3 [(0, .ref ap0), (1, .int xp1), (2, .int xp2)] := hl
  show WX11_heard p l e s m below meth c D T ap0 xp1 xp2 s.heap [] (F0 m 0 ls [])
  refine lv_aload_n hx hb dX11_heard_0 rfl (lv_at hl 0 rfl) ?_
  refine lv_iload_n hx hb dX11_heard_1 rfl (lv_at hl 1 rfl) ?_
  refine lv_iload_n hx hb dX11_heard_2 rfl (lv_at hl 2 rfl) ?_
  refine hp_callpi (va_runV (As := [.int xp1, .int xp2]) (rest := []) ⟨hx, hb, hml, hown, hts⟩ (sX11_isSpot l D T ap0 xp1 xp2 Ru hRu ap0tp ap0tr ap0rr ap0rl ap0nw ap0im ap0tl ap0sk ap0iq ap0pa ap0sn ap0be hp0 ip0tp ip0tr ip0rr hp0rl pxp0 ip0nw pimp0 hp0im ip0tl ip0sk ip0iq ip0pa ip0sn ip0be) (cwV 2 hts gX11_heard_X11_isSpot rfl rfl rfl (by decide +kernel) ⟨Nat.le_of_ble_eq_true rfl, Nat.le_of_ble_eq_true rfl⟩) (hp_preV hG hw hp0 rfl trivial) rfl rfl hl.1 rfl (lv_room (Nat.le_of_ble_eq_true rfl)) dX11_heard_3 ⟨Nat.zero_le _, Nat.zero_le _⟩) (fun x3 bx3 => ?_)
  have J26 : ∀ (H : Heap) (locs : List Loc), hp_w D T s H locs → ∀ (ls : Array Slot), lv_has ls 3 [] → WX11_heard p l e s m below meth c D T ap0 xp1 xp2 H locs (F0 m 26 ls []) := by
    intro H26 locs26 hw ls hl
    refine lv_ldc (v := (-1000000)) hx hb hown K194 dX11_heard_26 ?_
    exact W.iret (v := (-1000000)) hx hb hr (fun t ht hW => ⟨some (.int (-1000000)), rfl, ⟨((-1000000) : Int32), rfl, trivial⟩, by rw [ht]; exact hw.1, hw.2.F ht⟩) hw.2.2.2 dX11_heard_28
  refine lv_if_eq (tgt := 26) hx hb dX11_heard_6 (by decide) (fun c6 => ?_) (fun c6 => ?_)
  · have r6tp : iv x3 0 0 := (iv_both bx3 (iv_eq (show iv 0 0 0 from ⟨by decide, by decide⟩) c6)).mono (by decide) (by decide)
    exact J26 s.heap [] hw _ (lv_sub hl [] rfl)
  · have r6fp : iv x3 1 1 := (iv_ne_lo c6 bx3 rfl).mono (by decide) (by decide)
    refine lv_aload_n hx hb dX11_heard_9 rfl (lv_at hl 0 rfl) ?_
    refine hp_getr hx hb hts IX11 hown hK hw.1 hp0 rfl 5 (by decide) L45 rfl dX11_heard_10 ?_
    refine hp_getr hx hb hts IX1 hown hK hw.1 hp0nw rfl 0 (by decide) L116 rfl dX11_heard_13 ?_
    refine hp_getA hx hb hts IX8 hown hK hw.1 hp0nwtw rfl 7 (by decide) L195 rfl dX11_heard_16 (fun x16 fx16 => ?_)
    refine lv_iload_n hx hb dX11_heard_19 rfl (lv_at hl 1 rfl) ?_
    refine lv_ishr hx hb dX11_heard_20 ?_
    refine lv_topi (fun x20 ex20 => ?_)
    refine lv_iconst (v := 1) hx hb dX11_heard_21 (by decide) ?_
    refine lv_iand hx hb dX11_heard_22 ?_
    refine lv_topi (fun x22 ex22 => ?_)
    have bx22 : iv x22 0 1 := iv_and_r (show iv 1 0 1 from ⟨by decide, by decide⟩) ex22
    refine lv_if_ne (tgt := 29) hx hb dX11_heard_23 (by decide) (fun c23 => ?_) (fun c23 => ?_)
    · have r23tp : iv x22 1 1 := (iv_ne_lo c23 bx22 rfl).mono (by decide) (by decide)
      refine lv_aload_n hx hb dX11_heard_29 rfl (lv_at hl 0 rfl) ?_
      refine hp_caller (va_runV (As := []) (rest := []) ⟨hx, hb, hml, hown, hts⟩ (sX11_counting l D T ap0 Ru hRu ap0tp ap0tr ap0rr ap0rl ap0nw ap0im ap0tl ap0sk ap0iq ap0pa ap0sn ap0be hp0 ip0tp ip0tr ip0rr hp0rl pxp0 ip0nw pimp0 hp0im ip0tl ip0sk ip0iq ip0pa ip0sn ip0be) (cwV 0 hts gX11_heard_X11_counting rfl rfl rfl (by decide +kernel) ⟨Nat.le_of_ble_eq_true rfl, Nat.le_of_ble_eq_true rfl⟩) (hp_preV hG hw hp0 rfl trivial) rfl rfl hl.1 rfl (lv_room (Nat.le_of_ble_eq_true rfl)) dX11_heard_30 ⟨Nat.zero_le _, Nat.zero_le _⟩) hw (fun st30 t30 H30 locs30 eh30 eg30 hw => ?_)
      refine lv_aload_n hx hb dX11_heard_33 rfl (lv_at hl 0 rfl) ?_
      refine hp_getr hx hb hts IX11 hown hK hw.1 hp0 rfl 5 (by decide) L45 rfl dX11_heard_34 ?_
      refine hp_getr hx hb hts IX1 hown hK hw.1 hp0nw rfl 0 (by decide) L116 rfl dX11_heard_37 ?_
      refine lv_iload_n hx hb dX11_heard_40 rfl (lv_at hl 1 rfl) ?_
      refine lv_iload_n hx hb dX11_heard_41 rfl (lv_at hl 2 rfl) ?_
      refine hp_callei (va_runV (As := [.ref ap0nwtw, .int xp1, .int xp2]) (rest := []) ⟨hx, hb, hml, hown, hts⟩ (sX5_sumOf l D T ap0sk ap0nwtw xp1 xp2 Ru hRu ip0sk ip0nwtw) (cwV 3 hts gX11_heard_X5_sumOf rfl rfl rfl (by decide +kernel) ⟨Nat.le_of_ble_eq_true rfl, Nat.le_of_ble_eq_true rfl⟩) (hp_preV hG hw hp0sk rfl trivial) rfl rfl hl.1 rfl (lv_room (Nat.le_of_ble_eq_true rfl)) dX11_heard_42 ⟨Nat.zero_le _, Nat.zero_le _⟩) hw (fun x42 st42 t42 H42 locs42 eh42 eg42 bx42 hw => ?_)
      exact W.iret (v := x42) hx hb hr (fun t ht hW => ⟨some (.int x42), rfl, ⟨x42, rfl, trivial⟩, by rw [ht]; exact hw.1, hw.2.F ht⟩) hw.2.2.2 dX11_heard_45
    · have r23fp : iv x22 0 0 := (iv_both bx22 (iv_eq (show iv 0 0 0 from ⟨by decide, by decide⟩) c23)).mono (by decide) (by decide)
      exact J26 s.heap [] hw _ (lv_sub hl [] rfl)
abbrev WX11_total (p : Program) (l : Launch) (e : Env) (s : State) (m : MethodId) (below : List Frame) (meth : Method) (c : Code) (D : hp_D) (T : hp_T) (ap0 : Nat) (H : Heap) (locs : List Loc) (g : JFrame) : Prop := W p l e (headSpec wsX11_total ({ frames := 7, cells := 0, slots := 0, locals := 173 })).room s m ([.ref ap0] : List Value).toArray below meth c H locs 0 0 (MQ below (hq_e D T (fun v _ _ => ∃ r : Int32, v = some (.int r) ∧ True)) ([.ref ap0] : List Value).toArray s 0 0 (hp_F T)) g
set_option maxHeartbeats 4000000 in
set_option maxRecDepth 100000 in
theorem sX11_total (l : Launch) (D : hp_D) (T : hp_T) (ap0 : Nat) (Ru : Nat → Prop) (hRu : ∀ b, Ru b → isRule T b) (ap0tp ap0tr ap0rr ap0rl ap0nw ap0im ap0tl ap0sk ap0iq ap0pa ap0sn ap0be : Nat) (hp0 : T ap0 = some (.inr (11, [(rR ap0tp), (rR ap0tr), (rR ap0rr), (rR ap0rl), (rI 0 6), (rR ap0nw), (rR ap0im), (rR ap0tl), (rR ap0sk), (rR ap0iq), (rR ap0pa), (rR ap0sn), (rR ap0be)]))) (ip0tp : isTape T ap0tp) (ip0tr : isTownReader T ap0tr) (ip0rr : isRuleReader T ap0rr) (hp0rl : T ap0rl = some (.inl (5, 6, fun _ => rN Ru))) (pxp0 : Value → Prop) (ip0nw : isMemory T ap0nw pxp0) (pimp0 : Nat → Value → Prop) (hp0im : T ap0im = some (.inl (4, 4, pimp0))) (ip0tl : isTown T ap0tl) (ip0sk : isShaker T Ru ap0sk) (ip0iq : isWorlds T ap0iq) (ip0pa : isParity T ap0pa) (ip0sn : isShuns T ap0sn) (ip0be : isBest T ap0be) : Met l yX11_total wsX11_total ({ frames := 7, cells := 0, slots := 0, locals := 173 }) (hp_Pc D T [.ref ap0] (fun _ => True)) (hq_e D T (fun v _ _ => ∃ r : Int32, v = some (.int r) ∧ True)) 0 0 (hp_F T) := by
  obtain ⟨ap0tpbt, hp0tp, hp0tpbt⟩ := id ip0tp
  obtain ⟨ap0trtp, ap0trtw, hp0tr, ip0trtp, ip0trtw⟩ := id ip0tr
  obtain ⟨ap0trtpbt, hp0trtp, hp0trtpbt⟩ := id ip0trtp
  obtain ⟨ap0trtwkin, ap0trtwpl, ap0trtwcr, hp0trtw, hp0trtwkin, hp0trtwpl, hp0trtwcr⟩ := id ip0trtw
  obtain ⟨ap0rrtp, ap0rrstp, hp0rr, ip0rrtp, hp0rrstp⟩ := id ip0rr
  obtain ⟨ap0rrtpbt, hp0rrtp, hp0rrtpbt⟩ := id ip0rrtp
  obtain ⟨ap0nwtw, ap0nwtg, ap0nwth, ap0nwts, ap0nwpm, ap0nwak, ap0nwao, ap0nwah, ap0nwaw, hp0nw, ip0nwtw, hp0nwtg, hp0nwth, hp0nwts, hp0nwpm, hp0nwak, hp0nwao, hp0nwah, hp0nwaw⟩ := id ip0nw
  obtain ⟨ap0nwtwkin, ap0nwtwpl, ap0nwtwcr, hp0nwtw, hp0nwtwkin, hp0nwtwpl, hp0nwtwcr⟩ := id ip0nwtw
  obtain ⟨ap0tlkin, ap0tlpl, ap0tlcr, hp0tl, hp0tlkin, hp0tlpl, hp0tlcr⟩ := id ip0tl
  obtain ⟨ap0skwd, ap0sksk, ap0skth, hp0sk, hp0skwd, hp0sksk, hp0skth⟩ := id ip0sk
  obtain ⟨ap0iqfi, ap0iqwo, ap0iqsu, ap0iqsh, ap0iqme, ap0iqs1, ap0iqs2, hp0iq, hp0iqfi, hp0iqwo, hp0iqsu, hp0iqsh, hp0iqme, hp0iqs1, hp0iqs2⟩ := id ip0iq
  obtain ⟨ap0pabo, hp0pa, hp0pabo⟩ := id ip0pa
  obtain ⟨ap0snle, ap0sngr, ap0sndu, ap0snit, ap0snop, hp0sn, hp0snle, hp0sngr, hp0sndu, hp0snit, hp0snop⟩ := id ip0sn
  have hp0be : T ap0be = some (.inr (0, [(rI 0 1), rA, rA, rA])) := ip0be
  refine Met.ofW (cc := cX11_total) (maxL := 1) (ret := (some .int)) (by decide) rfl ?_
  intro p e s m args below meth c s₁ B hml hv
  obtain ⟨rfl, hok, hG, hB⟩ := hv
  have hx := B.exec
  have hb := B.bytes
  have hr := B.returns
  have hts := atoms_spec (ws := wsX11_total) B.pre
  have hown : s.vm.findClass RX11 = some m.cls := findClass_of_methodNamed B.named
  have hlocks := B.notSynchronized
  have hK := hG.1
  have hw : hp_w D T s s.heap [] := hp_w.rf hok
  have IX1 : ∀ w ∈ wsX10, w ∈ wsX11_total := by decide +kernel
  have IX11 : ∀ w ∈ wsX110, w ∈ wsX11_total := by decide +kernel
  have L45 := hts (.fieldLink RX11 45 "PalmCensus" "now" "LPalmCensus$Memory;") (by decide +kernel)
  have L116 := hts (.fieldLink RX11 116 "PalmCensus$Memory" "town" "LPalmCensus$Town;") (by decide +kernel)
  have hl := lv_entry ([.ref ap0]) (n := 1) (Nat.le_of_ble_eq_true rfl)
  rw [lg_entry_eq]
  generalize (lg_sl ([.ref ap0]) ++ List.replicate (1 - (lg_sl ([.ref ap0])).length) Slot.unset).toArray = ls at hl ⊢
  have hl : lv_has ls 1 [(0, .ref ap0)] := hl
  show WX11_total p l e s m below meth c D T ap0 s.heap [] (F0 m 0 ls [])
  refine lv_aload_n hx hb dX11_total_0 rfl (lv_at hl 0 rfl) ?_
  refine hp_caller (va_runV (As := []) (rest := []) ⟨hx, hb, hml, hown, hts⟩ (sX11_counting l D T ap0 Ru hRu ap0tp ap0tr ap0rr ap0rl ap0nw ap0im ap0tl ap0sk ap0iq ap0pa ap0sn ap0be hp0 ip0tp ip0tr ip0rr hp0rl pxp0 ip0nw pimp0 hp0im ip0tl ip0sk ip0iq ip0pa ip0sn ip0be) (cwV 0 hts gX11_total_X11_counting rfl rfl rfl (by decide +kernel) ⟨Nat.le_of_ble_eq_true rfl, Nat.le_of_ble_eq_true rfl⟩) (hp_preV hG hw hp0 rfl trivial) rfl rfl hl.1 rfl (lv_room (Nat.le_of_ble_eq_true rfl)) dX11_total_1 ⟨Nat.zero_le _, Nat.zero_le _⟩) hw (fun st1 t1 H1 locs1 eh1 eg1 hw => ?_)
  refine lv_aload_n hx hb dX11_total_4 rfl (lv_at hl 0 rfl) ?_
  refine hp_getr hx hb hts IX11 hown hK hw.1 hp0 rfl 5 (by decide) L45 rfl dX11_total_5 ?_
  refine hp_getr hx hb hts IX1 hown hK hw.1 hp0nw rfl 0 (by decide) L116 rfl dX11_total_8 ?_
  refine hp_callei (va_runV (As := [.ref ap0nwtw]) (rest := []) ⟨hx, hb, hml, hown, hts⟩ (sX5_totalOf l D T ap0sk ap0nwtw Ru hRu ip0sk ip0nwtw) (cwV 1 hts gX11_total_X5_totalOf rfl rfl rfl (by decide +kernel) ⟨Nat.le_of_ble_eq_true rfl, Nat.le_of_ble_eq_true rfl⟩) (hp_preV hG hw hp0sk rfl trivial) rfl rfl hl.1 rfl (lv_room (Nat.le_of_ble_eq_true rfl)) dX11_total_11 ⟨Nat.zero_le _, Nat.zero_le _⟩) hw (fun x11 st11 t11 H11 locs11 eh11 eg11 bx11 hw => ?_)
  exact W.iret (v := x11) hx hb hr (fun t ht hW => ⟨some (.int x11), rfl, ⟨x11, rfl, trivial⟩, by rw [ht]; exact hw.1, hw.2.F ht⟩) hw.2.2.2 dX11_total_14
abbrev WX11_street (p : Program) (l : Launch) (e : Env) (s : State) (m : MethodId) (below : List Frame) (meth : Method) (c : Code) (D : hp_D) (T : hp_T) (ap0 : Nat) (xp1 : Int32) (xp2 : Int32) (xp3 : Int32) (H : Heap) (locs : List Loc) (g : JFrame) : Prop := W p l e (headSpec wsX11_street ({ frames := 6, cells := 0, slots := 0, locals := 152 })).room s m ([.ref ap0, .int xp1, .int xp2, .int xp3] : List Value).toArray below meth c H locs 0 0 (MQ below (hq_e D T (fun v _ _ => ∃ r : Int32, v = some (.int r) ∧ True)) ([.ref ap0, .int xp1, .int xp2, .int xp3] : List Value).toArray s 0 0 (hp_F T)) g
set_option maxHeartbeats 4000000 in
set_option maxRecDepth 100000 in
theorem sX11_street (l : Launch) (D : hp_D) (T : hp_T) (ap0 : Nat) (xp1 : Int32) (xp2 : Int32) (xp3 : Int32) (Ru : Nat → Prop) (hRu : ∀ b, Ru b → isRule T b) (ap0tp ap0tr ap0rr ap0rl ap0nw ap0im ap0tl ap0sk ap0iq ap0pa ap0sn ap0be : Nat) (hp0 : T ap0 = some (.inr (11, [(rR ap0tp), (rR ap0tr), (rR ap0rr), (rR ap0rl), (rI 0 6), (rR ap0nw), (rR ap0im), (rR ap0tl), (rR ap0sk), (rR ap0iq), (rR ap0pa), (rR ap0sn), (rR ap0be)]))) (ip0tp : isTape T ap0tp) (ip0tr : isTownReader T ap0tr) (ip0rr : isRuleReader T ap0rr) (hp0rl : T ap0rl = some (.inl (5, 6, fun _ => rN Ru))) (pxp0 : Value → Prop) (ip0nw : isMemory T ap0nw pxp0) (pimp0 : Nat → Value → Prop) (hp0im : T ap0im = some (.inl (4, 4, pimp0))) (ip0tl : isTown T ap0tl) (ip0sk : isShaker T Ru ap0sk) (ip0iq : isWorlds T ap0iq) (ip0pa : isParity T ap0pa) (ip0sn : isShuns T ap0sn) (ip0be : isBest T ap0be) : Met l yX11_street wsX11_street ({ frames := 6, cells := 0, slots := 0, locals := 152 }) (hp_Pc D T [.ref ap0, .int xp1, .int xp2, .int xp3] (fun _ => True)) (hq_e D T (fun v _ _ => ∃ r : Int32, v = some (.int r) ∧ True)) 0 0 (hp_F T) := by
  obtain ⟨ap0tpbt, hp0tp, hp0tpbt⟩ := id ip0tp
  obtain ⟨ap0trtp, ap0trtw, hp0tr, ip0trtp, ip0trtw⟩ := id ip0tr
  obtain ⟨ap0trtpbt, hp0trtp, hp0trtpbt⟩ := id ip0trtp
  obtain ⟨ap0trtwkin, ap0trtwpl, ap0trtwcr, hp0trtw, hp0trtwkin, hp0trtwpl, hp0trtwcr⟩ := id ip0trtw
  obtain ⟨ap0rrtp, ap0rrstp, hp0rr, ip0rrtp, hp0rrstp⟩ := id ip0rr
  obtain ⟨ap0rrtpbt, hp0rrtp, hp0rrtpbt⟩ := id ip0rrtp
  obtain ⟨ap0nwtw, ap0nwtg, ap0nwth, ap0nwts, ap0nwpm, ap0nwak, ap0nwao, ap0nwah, ap0nwaw, hp0nw, ip0nwtw, hp0nwtg, hp0nwth, hp0nwts, hp0nwpm, hp0nwak, hp0nwao, hp0nwah, hp0nwaw⟩ := id ip0nw
  obtain ⟨ap0nwtwkin, ap0nwtwpl, ap0nwtwcr, hp0nwtw, hp0nwtwkin, hp0nwtwpl, hp0nwtwcr⟩ := id ip0nwtw
  obtain ⟨ap0tlkin, ap0tlpl, ap0tlcr, hp0tl, hp0tlkin, hp0tlpl, hp0tlcr⟩ := id ip0tl
  obtain ⟨ap0skwd, ap0sksk, ap0skth, hp0sk, hp0skwd, hp0sksk, hp0skth⟩ := id ip0sk
  obtain ⟨ap0iqfi, ap0iqwo, ap0iqsu, ap0iqsh, ap0iqme, ap0iqs1, ap0iqs2, hp0iq, hp0iqfi, hp0iqwo, hp0iqsu, hp0iqsh, hp0iqme, hp0iqs1, hp0iqs2⟩ := id ip0iq
  obtain ⟨ap0pabo, hp0pa, hp0pabo⟩ := id ip0pa
  obtain ⟨ap0snle, ap0sngr, ap0sndu, ap0snit, ap0snop, hp0sn, hp0snle, hp0sngr, hp0sndu, hp0snit, hp0snop⟩ := id ip0sn
  have hp0be : T ap0be = some (.inr (0, [(rI 0 1), rA, rA, rA])) := ip0be
  refine Met.ofW (cc := cX11_street) (maxL := 5) (ret := (some .int)) (by decide) rfl ?_
  intro p e s m args below meth c s₁ B hml hv
  obtain ⟨rfl, hok, hG, hB⟩ := hv
  have hx := B.exec
  have hb := B.bytes
  have hr := B.returns
  have hts := atoms_spec (ws := wsX11_street) B.pre
  have hown : s.vm.findClass RX11 = some m.cls := findClass_of_methodNamed B.named
  have hlocks := B.notSynchronized
  have hK := hG.1
  have hw : hp_w D T s s.heap [] := hp_w.rf hok
  have IX1 : ∀ w ∈ wsX10, w ∈ wsX11_street := by decide +kernel
  have IX11 : ∀ w ∈ wsX110, w ∈ wsX11_street := by decide +kernel
  have IX8 : ∀ w ∈ wsX80, w ∈ wsX11_street := by decide +kernel
  have L45 := hts (.fieldLink RX11 45 "PalmCensus" "now" "LPalmCensus$Memory;") (by decide +kernel)
  have L116 := hts (.fieldLink RX11 116 "PalmCensus$Memory" "town" "LPalmCensus$Town;") (by decide +kernel)
  have K194 := hts (.constant RX11 194 (-1000000)) (by decide +kernel)
  have L202 := hts (.fieldLink RX11 202 "PalmCensus$Town" "gates" "I") (by decide +kernel)
  have hl := lv_entry ([.ref ap0, .int xp1, .int xp2, .int xp3]) (n := 5) (Nat.le_of_ble_eq_true rfl)
  rw [lg_entry_eq]
  generalize (lg_sl ([.ref ap0, .int xp1, .int xp2, .int xp3]) ++ List.replicate (5 - (lg_sl ([.ref ap0, .int xp1, .int xp2, .int xp3])).length) Slot.unset).toArray = ls at hl ⊢
  have hl : lv_has ls 5 [(0, .ref ap0), (1, .int xp1), (2, .int xp2), (3, .int xp3)] := hl
  show WX11_street p l e s m below meth c D T ap0 xp1 xp2 xp3 s.heap [] (F0 m 0 ls [])
  refine lv_aload_n hx hb dX11_street_0 rfl (lv_at hl 0 rfl) ?_
  refine hp_getr hx hb hts IX11 hown hK hw.1 hp0 rfl 5 (by decide) L45 rfl dX11_street_1 ?_
  refine hp_getr hx hb hts IX1 hown hK hw.1 hp0nw rfl 0 (by decide) L116 rfl dX11_street_4 ?_
  refine lv_astore (lv' := [(4, .ref ap0nwtw), (0, .ref ap0), (1, .int xp1), (2, .int xp2), (3, .int xp3)]) hx hb dX11_street_7 hl (by decide) rfl (fun ls hl => ?_)
  refine lv_iload_n hx hb dX11_street_9 rfl (lv_at hl 2 rfl) ?_
  have J47 : ∀ (H : Heap) (locs : List Loc), hp_w D T s H locs → ∀ (ls : Array Slot), lv_has ls 5 [] → WX11_street p l e s m below meth c D T ap0 xp1 xp2 xp3 H locs (F0 m 47 ls []) := by
    intro H47 locs47 hw ls hl
    refine lv_ldc (v := (-1000000)) hx hb hown K194 dX11_street_47 ?_
    exact W.iret (v := (-1000000)) hx hb hr (fun t ht hW => ⟨some (.int (-1000000)), rfl, ⟨((-1000000) : Int32), rfl, trivial⟩, by rw [ht]; exact hw.1, hw.2.F ht⟩) hw.2.2.2 dX11_street_49
  refine lv_if_lt (tgt := 47) hx hb dX11_street_10 (by decide) (fun c10 => ?_) (fun c10 => ?_)
  · have r10tp : iv xp1 (-2147483648) (-1) := (iv_lt_l c10 (iv_any xp1) (show iv 0 0 0 from ⟨by decide, by decide⟩)).mono (by decide) (by decide)
    exact J47 s.heap [] hw _ (lv_sub hl [] rfl)
  · have r10fq : iv xp1 0 2147483647 := (iv_le_r (iv_nlt c10) (show iv 0 0 0 from ⟨by decide, by decide⟩) (iv_any xp1)).mono (by decide) (by decide)
    refine lv_iload_n hx hb dX11_street_13 rfl (lv_at hl 2 rfl) ?_
    refine lv_iconst (v := 1) hx hb dX11_street_14 (by decide) ?_
    refine lv_aload hx hb dX11_street_15 (lv_at hl 0 rfl) ?_
    refine hp_geti hx hb hts IX8 hown hK hw.1 hp0nwtw rfl 0 (by decide) L202 rfl dX11_street_17 (fun x17 bx17 fx17 => ?_)
    refine lv_ishl hx hb dX11_street_20 ?_
    refine lv_topi (fun x20 ex20 => ?_)
    have bx20 : iv x20 1 64 := iv_shl 6 (show iv 1 1 1 from ⟨by decide, by decide⟩) bx17 ex20 (by decide)
    refine lv_icmp_ge (tgt := 47) hx hb dX11_street_21 (by decide) (fun c21 => ?_) (fun c21 => ?_)
    · have r21tq : iv xp1 1 2147483647 := (iv_le_r c21 bx20 r10fq).mono (by decide) (by decide)
      exact J47 s.heap [] hw _ (lv_sub hl [] rfl)
    · have r21fp : iv xp1 0 63 := (iv_lt_l (iv_nle c21) r10fq bx20).mono (by decide) (by decide)
      refine lv_aload hx hb dX11_street_24 (lv_at hl 0 rfl) ?_
      refine lv_iload_n hx hb dX11_street_26 rfl (lv_at hl 3 rfl) ?_
      refine hp_callpi (va_runV (As := [.int xp2]) (rest := []) ⟨hx, hb, hml, hown, hts⟩ (sX8_isHour l D T ap0nwtw xp2 ip0nwtw) (cwV 1 hts gX11_street_X8_isHour rfl rfl rfl (by decide +kernel) ⟨Nat.le_of_ble_eq_true rfl, Nat.le_of_ble_eq_true rfl⟩) (hp_preV hG hw hp0nwtw rfl trivial) rfl rfl hl.1 rfl (lv_room (Nat.le_of_ble_eq_true rfl)) dX11_street_27 ⟨Nat.zero_le _, Nat.zero_le _⟩) (fun x27 bx27 => ?_)
      obtain ⟨bx27, ix27_0⟩ := bx27
      refine lv_if_eq (tgt := 47) hx hb dX11_street_30 (by decide) (fun c30 => ?_) (fun c30 => ?_)
      · have r30tp : iv x27 0 0 := (iv_both bx27 (iv_eq (show iv 0 0 0 from ⟨by decide, by decide⟩) c30)).mono (by decide) (by decide)
        exact J47 s.heap [] hw _ (lv_sub hl [] rfl)
      · have r30fp : iv x27 1 1 := (iv_ne_lo c30 bx27 rfl).mono (by decide) (by decide)
        have r30fpz : iv xp2 0 11 := (iv_both (iv_any xp2) (ix27_0 (iv_ne0 r30fp (by decide)))).mono (by decide) (by decide)
        refine lv_aload hx hb dX11_street_33 (lv_at hl 0 rfl) ?_
        refine lv_iload_n hx hb dX11_street_35 rfl (lv_at hl 4 rfl) ?_
        refine hp_callpi (va_runV (As := [.int xp3]) (rest := []) ⟨hx, hb, hml, hown, hts⟩ (sX8_isHour l D T ap0nwtw xp3 ip0nwtw) (cwV 1 hts gX11_street_X8_isHour rfl rfl rfl (by decide +kernel) ⟨Nat.le_of_ble_eq_true rfl, Nat.le_of_ble_eq_true rfl⟩) (hp_preV hG hw hp0nwtw rfl trivial) rfl rfl hl.1 rfl (lv_room (Nat.le_of_ble_eq_true rfl)) dX11_street_36 ⟨Nat.zero_le _, Nat.zero_le _⟩) (fun x36 bx36 => ?_)
        obtain ⟨bx36, ix36_0⟩ := bx36
        refine lv_if_eq (tgt := 47) hx hb dX11_street_39 (by decide) (fun c39 => ?_) (fun c39 => ?_)
        · have r39tp : iv x36 0 0 := (iv_both bx36 (iv_eq (show iv 0 0 0 from ⟨by decide, by decide⟩) c39)).mono (by decide) (by decide)
          exact J47 s.heap [] hw _ (lv_sub hl [] rfl)
        · have r39fp : iv x36 1 1 := (iv_ne_lo c39 bx36 rfl).mono (by decide) (by decide)
          have r39fpz : iv xp3 0 11 := (iv_both (iv_any xp3) (ix36_0 (iv_ne0 r39fp (by decide)))).mono (by decide) (by decide)
          refine lv_iload_n hx hb dX11_street_42 rfl (lv_at hl 4 rfl) ?_
          refine lv_iload_n hx hb dX11_street_43 rfl (lv_at hl 3 rfl) ?_
          refine lv_icmp_ge (tgt := 50) hx hb dX11_street_44 (by decide) (fun c44 => ?_) (fun c44 => ?_)
          · refine lv_aload_n hx hb dX11_street_50 rfl (lv_at hl 1 rfl) ?_
            refine hp_caller (va_runV (As := []) (rest := []) ⟨hx, hb, hml, hown, hts⟩ (sX11_counting l D T ap0 Ru hRu ap0tp ap0tr ap0rr ap0rl ap0nw ap0im ap0tl ap0sk ap0iq ap0pa ap0sn ap0be hp0 ip0tp ip0tr ip0rr hp0rl pxp0 ip0nw pimp0 hp0im ip0tl ip0sk ip0iq ip0pa ip0sn ip0be) (cwV 0 hts gX11_street_X11_counting rfl rfl rfl (by decide +kernel) ⟨Nat.le_of_ble_eq_true rfl, Nat.le_of_ble_eq_true rfl⟩) (hp_preV hG hw hp0 rfl trivial) rfl rfl hl.1 rfl (lv_room (Nat.le_of_ble_eq_true rfl)) dX11_street_51 ⟨Nat.zero_le _, Nat.zero_le _⟩) hw (fun st51 t51 H51 locs51 eh51 eg51 hw => ?_)
            refine lv_aload hx hb dX11_street_54 (lv_at hl 0 rfl) ?_
            refine lv_iload_n hx hb dX11_street_56 rfl (lv_at hl 2 rfl) ?_
            refine lv_iload_n hx hb dX11_street_57 rfl (lv_at hl 3 rfl) ?_
            refine lv_iload_n hx hb dX11_street_58 rfl (lv_at hl 4 rfl) ?_
            refine hp_callei (va_runV (As := [.ref ap0nwtw, .int xp1, .int xp2, .int xp3]) (rest := []) ⟨hx, hb, hml, hown, hts⟩ (sX5_streetOf l D T ap0sk ap0nwtw xp1 xp2 xp3 Ru hRu ip0sk ip0nwtw (r39fpz.mono (by decide) (by decide))) (cwV 4 hts gX11_street_X5_streetOf rfl rfl rfl (by decide +kernel) ⟨Nat.le_of_ble_eq_true rfl, Nat.le_of_ble_eq_true rfl⟩) (hp_preV hG hw hp0sk rfl trivial) rfl rfl hl.1 rfl (lv_room (Nat.le_of_ble_eq_true rfl)) dX11_street_59 ⟨Nat.zero_le _, Nat.zero_le _⟩) hw (fun x59 st59 t59 H59 locs59 eh59 eg59 bx59 hw => ?_)
            exact W.iret (v := x59) hx hb hr (fun t ht hW => ⟨some (.int x59), rfl, ⟨x59, rfl, trivial⟩, by rw [ht]; exact hw.1, hw.2.F ht⟩) hw.2.2.2 dX11_street_62
          · have r44fp : iv xp3 0 10 := (iv_lt_l (iv_nle c44) r39fpz r30fpz).mono (by decide) (by decide)
            have r44fq : iv xp2 1 11 := (iv_lt_r (iv_nle c44) r39fpz r30fpz).mono (by decide) (by decide)
            exact J47 s.heap [] hw _ (lv_sub hl [] rfl)
abbrev WX11_busy (p : Program) (l : Launch) (e : Env) (s : State) (m : MethodId) (below : List Frame) (meth : Method) (c : Code) (D : hp_D) (T : hp_T) (ap0 : Nat) (xp1 : Int32) (H : Heap) (locs : List Loc) (g : JFrame) : Prop := W p l e (headSpec wsX11_busy ({ frames := 5, cells := 0, slots := 0, locals := 125 })).room s m ([.ref ap0, .int xp1] : List Value).toArray below meth c H locs 0 0 (MQ below (hq_e D T (fun v _ _ => ∃ r : Int32, v = some (.int r) ∧ True)) ([.ref ap0, .int xp1] : List Value).toArray s 0 0 (hp_F T)) g
set_option maxHeartbeats 4000000 in
set_option maxRecDepth 100000 in
theorem sX11_busy (l : Launch) (D : hp_D) (T : hp_T) (ap0 : Nat) (xp1 : Int32) (Ru : Nat → Prop) (hRu : ∀ b, Ru b → isRule T b) (ap0tp ap0tr ap0rr ap0rl ap0nw ap0im ap0tl ap0sk ap0iq ap0pa ap0sn ap0be : Nat) (hp0 : T ap0 = some (.inr (11, [(rR ap0tp), (rR ap0tr), (rR ap0rr), (rR ap0rl), (rI 0 6), (rR ap0nw), (rR ap0im), (rR ap0tl), (rR ap0sk), (rR ap0iq), (rR ap0pa), (rR ap0sn), (rR ap0be)]))) (ip0tp : isTape T ap0tp) (ip0tr : isTownReader T ap0tr) (ip0rr : isRuleReader T ap0rr) (hp0rl : T ap0rl = some (.inl (5, 6, fun _ => rN Ru))) (pxp0 : Value → Prop) (ip0nw : isMemory T ap0nw pxp0) (pimp0 : Nat → Value → Prop) (hp0im : T ap0im = some (.inl (4, 4, pimp0))) (ip0tl : isTown T ap0tl) (ip0sk : isShaker T Ru ap0sk) (ip0iq : isWorlds T ap0iq) (ip0pa : isParity T ap0pa) (ip0sn : isShuns T ap0sn) (ip0be : isBest T ap0be) : Met l yX11_busy wsX11_busy ({ frames := 5, cells := 0, slots := 0, locals := 125 }) (hp_Pc D T [.ref ap0, .int xp1] (fun _ => True)) (hq_e D T (fun v _ _ => ∃ r : Int32, v = some (.int r) ∧ True)) 0 0 (hp_F T) := by
  obtain ⟨ap0tpbt, hp0tp, hp0tpbt⟩ := id ip0tp
  obtain ⟨ap0trtp, ap0trtw, hp0tr, ip0trtp, ip0trtw⟩ := id ip0tr
  obtain ⟨ap0trtpbt, hp0trtp, hp0trtpbt⟩ := id ip0trtp
  obtain ⟨ap0trtwkin, ap0trtwpl, ap0trtwcr, hp0trtw, hp0trtwkin, hp0trtwpl, hp0trtwcr⟩ := id ip0trtw
  obtain ⟨ap0rrtp, ap0rrstp, hp0rr, ip0rrtp, hp0rrstp⟩ := id ip0rr
  obtain ⟨ap0rrtpbt, hp0rrtp, hp0rrtpbt⟩ := id ip0rrtp
  obtain ⟨ap0nwtw, ap0nwtg, ap0nwth, ap0nwts, ap0nwpm, ap0nwak, ap0nwao, ap0nwah, ap0nwaw, hp0nw, ip0nwtw, hp0nwtg, hp0nwth, hp0nwts, hp0nwpm, hp0nwak, hp0nwao, hp0nwah, hp0nwaw⟩ := id ip0nw
  obtain ⟨ap0nwtwkin, ap0nwtwpl, ap0nwtwcr, hp0nwtw, hp0nwtwkin, hp0nwtwpl, hp0nwtwcr⟩ := id ip0nwtw
  obtain ⟨ap0tlkin, ap0tlpl, ap0tlcr, hp0tl, hp0tlkin, hp0tlpl, hp0tlcr⟩ := id ip0tl
  obtain ⟨ap0skwd, ap0sksk, ap0skth, hp0sk, hp0skwd, hp0sksk, hp0skth⟩ := id ip0sk
  obtain ⟨ap0iqfi, ap0iqwo, ap0iqsu, ap0iqsh, ap0iqme, ap0iqs1, ap0iqs2, hp0iq, hp0iqfi, hp0iqwo, hp0iqsu, hp0iqsh, hp0iqme, hp0iqs1, hp0iqs2⟩ := id ip0iq
  obtain ⟨ap0pabo, hp0pa, hp0pabo⟩ := id ip0pa
  obtain ⟨ap0snle, ap0sngr, ap0sndu, ap0snit, ap0snop, hp0sn, hp0snle, hp0sngr, hp0sndu, hp0snit, hp0snop⟩ := id ip0sn
  have hp0be : T ap0be = some (.inr (0, [(rI 0 1), rA, rA, rA])) := ip0be
  refine Met.ofW (cc := cX11_busy) (maxL := 4) (ret := (some .int)) (by decide) rfl ?_
  intro p e s m args below meth c s₁ B hml hv
  obtain ⟨rfl, hok, hG, hB⟩ := hv
  have hx := B.exec
  have hb := B.bytes
  have hr := B.returns
  have hts := atoms_spec (ws := wsX11_busy) B.pre
  have hown : s.vm.findClass RX11 = some m.cls := findClass_of_methodNamed B.named
  have hlocks := B.notSynchronized
  have hK := hG.1
  have hw : hp_w D T s s.heap [] := hp_w.rf hok
  have IX0 : ∀ w ∈ wsX00, w ∈ wsX11_busy := by decide +kernel
  have IX1 : ∀ w ∈ wsX10, w ∈ wsX11_busy := by decide +kernel
  have IX11 : ∀ w ∈ wsX110, w ∈ wsX11_busy := by decide +kernel
  have IX8 : ∀ w ∈ wsX80, w ∈ wsX11_busy := by decide +kernel
  have L91 := hts (.fieldLink RX11 91 "PalmCensus" "best" "LPalmCensus$Best;") (by decide +kernel)
  have L45 := hts (.fieldLink RX11 45 "PalmCensus" "now" "LPalmCensus$Memory;") (by decide +kernel)
  have L116 := hts (.fieldLink RX11 116 "PalmCensus$Memory" "town" "LPalmCensus$Town;") (by decide +kernel)
  have L215 := hts (.fieldLink RX11 215 "PalmCensus$Town" "hours" "I") (by decide +kernel)
  have L225 := hts (.fieldLink RX11 225 "PalmCensus$Best" "hour" "I") (by decide +kernel)
  have L222 := hts (.fieldLink RX11 222 "PalmCensus$Best" "place" "I") (by decide +kernel)
  have L202 := hts (.fieldLink RX11 202 "PalmCensus$Town" "gates" "I") (by decide +kernel)
  have hl := lv_entry ([.ref ap0, .int xp1]) (n := 4) (Nat.le_of_ble_eq_true rfl)
  rw [lg_entry_eq]
  generalize (lg_sl ([.ref ap0, .int xp1]) ++ List.replicate (4 - (lg_sl ([.ref ap0, .int xp1])).length) Slot.unset).toArray = ls at hl ⊢
  have hl : lv_has ls 4 [(0, .ref ap0), (1, .int xp1)] := hl
  show WX11_busy p l e s m below meth c D T ap0 xp1 s.heap [] (F0 m 0 ls [])
  refine lv_iload_n hx hb dX11_busy_0 rfl (lv_at hl 1 rfl) ?_
  have J16 : ∀ (H : Heap) (locs : List Loc), hp_w D T s H locs → ∀ (ls : Array Slot), lv_has ls 4 [] → WX11_busy p l e s m below meth c D T ap0 xp1 H locs (F0 m 16 ls []) := by
    intro H16 locs16 hw ls hl
    refine lv_iconst (v := (-1)) hx hb dX11_busy_16 (by decide) ?_
    exact W.iret (v := (-1)) hx hb hr (fun t ht hW => ⟨some (.int (-1)), rfl, ⟨((-1) : Int32), rfl, trivial⟩, by rw [ht]; exact hw.1, hw.2.F ht⟩) hw.2.2.2 dX11_busy_17
  refine lv_if_lt (tgt := 16) hx hb dX11_busy_1 (by decide) (fun c1 => ?_) (fun c1 => ?_)
  · have r1tp : iv xp1 (-2147483648) (-1) := (iv_lt_l c1 (iv_any xp1) (show iv 0 0 0 from ⟨by decide, by decide⟩)).mono (by decide) (by decide)
    exact J16 s.heap [] hw _ (lv_sub hl [] rfl)
  · have r1fq : iv xp1 0 2147483647 := (iv_le_r (iv_nlt c1) (show iv 0 0 0 from ⟨by decide, by decide⟩) (iv_any xp1)).mono (by decide) (by decide)
    refine lv_iload_n hx hb dX11_busy_4 rfl (lv_at hl 1 rfl) ?_
    refine lv_iconst (v := 1) hx hb dX11_busy_5 (by decide) ?_
    refine lv_icmp_gt (tgt := 16) hx hb dX11_busy_6 (by decide) (fun c6 => ?_) (fun c6 => ?_)
    · have r6tq : iv xp1 2 2147483647 := (iv_lt_r c6 (show iv 1 1 1 from ⟨by decide, by decide⟩) r1fq).mono (by decide) (by decide)
      exact J16 s.heap [] hw _ (lv_sub hl [] rfl)
    · have r6fp : iv xp1 0 1 := (iv_le_l (iv_nlt c6) r1fq (show iv 1 1 1 from ⟨by decide, by decide⟩)).mono (by decide) (by decide)
      refine lv_aload_n hx hb dX11_busy_9 rfl (lv_at hl 0 rfl) ?_
      refine hp_callpi (va_runV (As := []) (rest := []) ⟨hx, hb, hml, hown, hts⟩ (sX11_hasTown l D T ap0 Ru hRu ap0tp ap0tr ap0rr ap0rl ap0nw ap0im ap0tl ap0sk ap0iq ap0pa ap0sn ap0be hp0 ip0tp ip0tr ip0rr hp0rl pxp0 ip0nw pimp0 hp0im ip0tl ip0sk ip0iq ip0pa ip0sn ip0be) (cwV 0 hts gX11_busy_X11_hasTown rfl rfl rfl (by decide +kernel) ⟨Nat.le_of_ble_eq_true rfl, Nat.le_of_ble_eq_true rfl⟩) (hp_preV hG hw hp0 rfl trivial) rfl rfl hl.1 rfl (lv_room (Nat.le_of_ble_eq_true rfl)) dX11_busy_10 ⟨Nat.zero_le _, Nat.zero_le _⟩) (fun x10 bx10 => ?_)
      refine lv_if_ne (tgt := 18) hx hb dX11_busy_13 (by decide) (fun c13 => ?_) (fun c13 => ?_)
      · have r13tp : iv x10 1 1 := (iv_ne_lo c13 bx10 rfl).mono (by decide) (by decide)
        refine lv_aload_n hx hb dX11_busy_18 rfl (lv_at hl 0 rfl) ?_
        refine hp_getr hx hb hts IX11 hown hK hw.1 hp0 rfl 12 (by decide) L91 rfl dX11_busy_19 ?_
        refine hp_callev (va_runV (As := []) (rest := []) ⟨hx, hb, hml, hown, hts⟩ (sX0_forget l D T ap0be ip0be) (cwV 0 hts gX11_busy_X0_forget rfl rfl rfl (by decide +kernel) ⟨Nat.le_of_ble_eq_true rfl, Nat.le_of_ble_eq_true rfl⟩) (hp_preV hG hw hp0be rfl trivial) rfl rfl hl.1 rfl (lv_room (Nat.le_of_ble_eq_true rfl)) dX11_busy_22 ⟨Nat.zero_le _, Nat.zero_le _⟩) hw (fun st22 t22 H22 locs22 eh22 eg22 bx22 hw => ?_)
        refine lv_iconst (v := 0) hx hb dX11_busy_25 (by decide) ?_
        refine lv_istore_n (lv' := [(2, .int 0), (0, .ref ap0), (1, .int xp1)]) hx hb dX11_busy_26 rfl hl (by decide) rfl (fun ls hl => ?_)
        have J27 : ∀ (n : Nat) (y27_l2 : Int32), (12 - y27_l2.toInt).toNat < n → iv xp1 0 1 → iv y27_l2 0 12 → ∀ (H : Heap) (locs : List Loc), hp_w D T s H locs → ∀ (ls : Array Slot), lv_has ls 4 [(0, .ref ap0), (1, .int xp1), (2, .int y27_l2)] → WX11_busy p l e s m below meth c D T ap0 xp1 H locs (F0 m 27 ls []) := by
          intro n
          induction n with
          | zero => intro y27_l2 hmu27 c27_xp1 c27_y27_l2 H27 locs27 hw ls hl; exact absurd hmu27 (Nat.not_lt_zero _)
          | succ n ih27 =>
            intro y27_l2 hmu27 c27_xp1 c27_y27_l2 H27 locs27 hw ls hl
            refine lv_iload_n hx hb dX11_busy_27 rfl (lv_at hl 2 rfl) ?_
            refine lv_aload_n hx hb dX11_busy_28 rfl (lv_at hl 0 rfl) ?_
            refine hp_getr hx hb hts IX11 hown hK hw.1 hp0 rfl 5 (by decide) L45 rfl dX11_busy_29 ?_
            refine hp_getr hx hb hts IX1 hown hK hw.1 hp0nw rfl 0 (by decide) L116 rfl dX11_busy_32 ?_
            refine hp_geti hx hb hts IX8 hown hK hw.1 hp0nwtw rfl 1 (by decide) L215 rfl dX11_busy_35 (fun x35 bx35 fx35 => ?_)
            refine lv_icmp_ge (tgt := 94) hx hb dX11_busy_38 (by decide) (fun c38 => ?_) (fun c38 => ?_)
            · refine lv_iload_n hx hb dX11_busy_94 rfl (lv_at hl 1 rfl) ?_
              have J115 : ∀ (y115_s0 : Int32), ∀ (H : Heap) (locs : List Loc), hp_w D T s H locs → ∀ (ls : Array Slot), lv_has ls 4 [] → WX11_busy p l e s m below meth c D T ap0 xp1 H locs (F0 m 115 ls [.int y115_s0]) := by
                intro y115_s0 H115 locs115 hw ls hl
                exact W.iret (v := y115_s0) hx hb hr (fun t ht hW => ⟨some (.int y115_s0), rfl, ⟨y115_s0, rfl, trivial⟩, by rw [ht]; exact hw.1, hw.2.F ht⟩) hw.2.2.2 dX11_busy_115
              refine lv_if_ne (tgt := 108) hx hb dX11_busy_95 (by decide) (fun c95 => ?_) (fun c95 => ?_)
              · have r95tp : iv xp1 1 1 := (iv_ne_lo c95 c27_xp1 rfl).mono (by decide) (by decide)
                refine lv_aload_n hx hb dX11_busy_108 rfl (lv_at hl 0 rfl) ?_
                refine hp_getr hx hb hts IX11 hown hK hw.1 hp0 rfl 12 (by decide) L91 rfl dX11_busy_109 ?_
                refine hp_getA hx hb hts IX0 hown hK hw.1 hp0be rfl 2 (by decide) L225 rfl dX11_busy_112 (fun x112 fx112 => ?_)
                exact J115 x112 H27 locs27 hw _ (lv_sub hl [] rfl)
              · have r95fp : iv xp1 0 0 := (iv_both c27_xp1 (iv_eq (show iv 0 0 0 from ⟨by decide, by decide⟩) c95)).mono (by decide) (by decide)
                refine lv_aload_n hx hb dX11_busy_98 rfl (lv_at hl 0 rfl) ?_
                refine hp_getr hx hb hts IX11 hown hK hw.1 hp0 rfl 12 (by decide) L91 rfl dX11_busy_99 ?_
                refine hp_getA hx hb hts IX0 hown hK hw.1 hp0be rfl 3 (by decide) L222 rfl dX11_busy_102 (fun x102 fx102 => ?_)
                refine lv_goto (tgt := 115) hx hb dX11_busy_105 (by decide) ?_
                exact J115 x102 H27 locs27 hw _ (lv_sub hl [] rfl)
            · have r38fp : iv y27_l2 0 11 := (iv_lt_l (iv_nle c38) c27_y27_l2 bx35).mono (by decide) (by decide)
              have r38fq : iv x35 1 12 := (iv_lt_r (iv_nle c38) c27_y27_l2 bx35).mono (by decide) (by decide)
              refine lv_iconst (v := 0) hx hb dX11_busy_41 (by decide) ?_
              refine lv_istore_n (lv' := [(3, .int 0), (0, .ref ap0), (1, .int xp1), (2, .int y27_l2)]) hx hb dX11_busy_42 rfl hl (by decide) rfl (fun ls hl => ?_)
              have J43 : ∀ (n : Nat) (y43_l3 : Int32), (6 - y43_l3.toInt).toNat < n → iv xp1 0 1 → iv y27_l2 0 11 → iv y43_l3 0 6 → ∀ (H : Heap) (locs : List Loc), hp_w D T s H locs → ∀ (ls : Array Slot), lv_has ls 4 [(0, .ref ap0), (1, .int xp1), (2, .int y27_l2), (3, .int y43_l3)] → WX11_busy p l e s m below meth c D T ap0 xp1 H locs (F0 m 43 ls []) := by
                intro n
                induction n with
                | zero => intro y43_l3 hmu43 c43_xp1 c43_y27_l2 c43_y43_l3 H43 locs43 hw ls hl; exact absurd hmu43 (Nat.not_lt_zero _)
                | succ n ih43 =>
                  intro y43_l3 hmu43 c43_xp1 c43_y27_l2 c43_y43_l3 H43 locs43 hw ls hl
                  refine lv_iload_n hx hb dX11_busy_43 rfl (lv_at hl 3 rfl) ?_
                  refine lv_aload_n hx hb dX11_busy_44 rfl (lv_at hl 0 rfl) ?_
                  refine hp_getr hx hb hts IX11 hown hK hw.1 hp0 rfl 5 (by decide) L45 rfl dX11_busy_45 ?_
                  refine hp_getr hx hb hts IX1 hown hK hw.1 hp0nw rfl 0 (by decide) L116 rfl dX11_busy_48 ?_
                  refine hp_geti hx hb hts IX8 hown hK hw.1 hp0nwtw rfl 0 (by decide) L202 rfl dX11_busy_51 (fun x51 bx51 fx51 => ?_)
                  refine lv_icmp_ge (tgt := 88) hx hb dX11_busy_54 (by decide) (fun c54 => ?_) (fun c54 => ?_)
                  · obtain ⟨x88, ex88⟩ : ∃ y : Int32, y = y27_l2 + 1 := ⟨_, rfl⟩
                    have bx88 : iv x88 1 12 := iv_add c43_y27_l2 (show iv 1 1 1 from ⟨by decide, by decide⟩) ex88 (by decide)
                    have qx88 := iv_add_eq c43_y27_l2 (show iv 1 1 1 from ⟨by decide, by decide⟩) ex88 (by decide)
                    refine lv_iinc (v := x88) (lv' := [(2, .int x88), (0, .ref ap0), (1, .int xp1), (3, .int y43_l3)]) hx hb dX11_busy_88 hl (k := 2) rfl (by rw [ex88]; rfl) (by decide) rfl (fun ls hl => ?_)
                    refine lv_goto (tgt := 27) hx hb dX11_busy_91 (by decide) ?_
                    exact ih27 x88 (mu_up 1 hmu27 (qx88) (by decide) (show iv x88 0 12 from (bx88.mono (by decide) (by decide))).2) c43_xp1 (bx88.mono (by decide) (by decide)) H43 locs43 hw _ (lv_sub hl [1, 2, 0] rfl)
                  · have r54fp : iv y43_l3 0 5 := (iv_lt_l (iv_nle c54) c43_y43_l3 bx51).mono (by decide) (by decide)
                    have r54fq : iv x51 1 6 := (iv_lt_r (iv_nle c54) c43_y43_l3 bx51).mono (by decide) (by decide)
                    refine lv_aload_n hx hb dX11_busy_57 rfl (lv_at hl 0 rfl) ?_
                    refine hp_getr hx hb hts IX11 hown hK hw.1 hp0 rfl 12 (by decide) L91 rfl dX11_busy_58 ?_
                    refine lv_aload_n hx hb dX11_busy_61 rfl (lv_at hl 0 rfl) ?_
                    refine hp_caller (va_runV (As := []) (rest := [.ref ap0be]) ⟨hx, hb, hml, hown, hts⟩ (sX11_counting l D T ap0 Ru hRu ap0tp ap0tr ap0rr ap0rl ap0nw ap0im ap0tl ap0sk ap0iq ap0pa ap0sn ap0be hp0 ip0tp ip0tr ip0rr hp0rl pxp0 ip0nw pimp0 hp0im ip0tl ip0sk ip0iq ip0pa ip0sn ip0be) (cwV 0 hts gX11_busy_X11_counting rfl rfl rfl (by decide +kernel) ⟨Nat.le_of_ble_eq_true rfl, Nat.le_of_ble_eq_true rfl⟩) (hp_preV hG hw hp0 rfl trivial) rfl rfl hl.1 rfl (lv_room (Nat.le_of_ble_eq_true rfl)) dX11_busy_62 ⟨Nat.zero_le _, Nat.zero_le _⟩) hw (fun st62 t62 H62 locs62 eh62 eg62 hw => ?_)
                    refine lv_aload_n hx hb dX11_busy_65 rfl (lv_at hl 0 rfl) ?_
                    refine hp_getr hx hb hts IX11 hown hK hw.1 hp0 rfl 5 (by decide) L45 rfl dX11_busy_66 ?_
                    refine hp_getr hx hb hts IX1 hown hK hw.1 hp0nw rfl 0 (by decide) L116 rfl dX11_busy_69 ?_
                    refine lv_iload_n hx hb dX11_busy_72 rfl (lv_at hl 3 rfl) ?_
                    refine lv_iload_n hx hb dX11_busy_73 rfl (lv_at hl 2 rfl) ?_
                    refine hp_callei (va_runV (As := [.ref ap0nwtw, .int y43_l3, .int y27_l2]) (rest := [.ref ap0be]) ⟨hx, hb, hml, hown, hts⟩ (sX5_sumOf l D T ap0sk ap0nwtw y43_l3 y27_l2 Ru hRu ip0sk ip0nwtw) (cwV 3 hts gX11_busy_X5_sumOf rfl rfl rfl (by decide +kernel) ⟨Nat.le_of_ble_eq_true rfl, Nat.le_of_ble_eq_true rfl⟩) (hp_preV hG hw hp0sk rfl trivial) rfl rfl hl.1 rfl (lv_room (Nat.le_of_ble_eq_true rfl)) dX11_busy_74 ⟨Nat.zero_le _, Nat.zero_le _⟩) hw (fun x74 st74 t74 H74 locs74 eh74 eg74 bx74 hw => ?_)
                    refine lv_iload_n hx hb dX11_busy_77 rfl (lv_at hl 2 rfl) ?_
                    refine lv_iload_n hx hb dX11_busy_78 rfl (lv_at hl 3 rfl) ?_
                    refine hp_callev (va_runV (As := [.int x74, .int y27_l2, .int y43_l3]) (rest := []) ⟨hx, hb, hml, hown, hts⟩ (sX0_offer l D T ap0be x74 y27_l2 y43_l3 ip0be) (cwV 3 hts gX11_busy_X0_offer rfl rfl rfl (by decide +kernel) ⟨Nat.le_of_ble_eq_true rfl, Nat.le_of_ble_eq_true rfl⟩) (hp_preV hG hw hp0be rfl trivial) rfl rfl hl.1 rfl (lv_room (Nat.le_of_ble_eq_true rfl)) dX11_busy_79 ⟨Nat.zero_le _, Nat.zero_le _⟩) hw (fun st79 t79 H79 locs79 eh79 eg79 bx79 hw => ?_)
                    obtain ⟨x82, ex82⟩ : ∃ y : Int32, y = y43_l3 + 1 := ⟨_, rfl⟩
                    have bx82 : iv x82 1 6 := iv_add r54fp (show iv 1 1 1 from ⟨by decide, by decide⟩) ex82 (by decide)
                    have qx82 := iv_add_eq r54fp (show iv 1 1 1 from ⟨by decide, by decide⟩) ex82 (by decide)
                    refine lv_iinc (v := x82) (lv' := [(3, .int x82), (0, .ref ap0), (1, .int xp1), (2, .int y27_l2)]) hx hb dX11_busy_82 hl (k := 3) rfl (by rw [ex82]; rfl) (by decide) rfl (fun ls hl => ?_)
                    refine lv_goto (tgt := 43) hx hb dX11_busy_85 (by decide) ?_
                    exact ih43 x82 (mu_up 1 hmu43 (qx82) (by decide) (show iv x82 0 6 from (bx82.mono (by decide) (by decide))).2) c43_xp1 c43_y27_l2 (bx82.mono (by decide) (by decide)) H79 locs79 hw _ (lv_sub hl [1, 2, 3, 0] rfl)
              exact J43 _ (0 : Int32) (Nat.lt_succ_self _) c27_xp1 r38fp (show iv 0 0 6 from ⟨by decide, by decide⟩) H27 locs27 hw _ (lv_sub hl [1, 2, 3, 0] rfl)
        exact J27 _ (0 : Int32) (Nat.lt_succ_self _) r6fp (show iv 0 0 12 from ⟨by decide, by decide⟩) H22 locs22 hw _ (lv_sub hl [1, 2, 0] rfl)
      · have r13fp : iv x10 0 0 := (iv_both bx10 (iv_eq (show iv 0 0 0 from ⟨by decide, by decide⟩) c13)).mono (by decide) (by decide)
        exact J16 s.heap [] hw _ (lv_sub hl [] rfl)
abbrev WX11_go (p : Program) (l : Launch) (e : Env) (s : State) (m : MethodId) (below : List Frame) (meth : Method) (c : Code) (D : hp_D) (T : hp_T) (ap0 : Nat) (xp1 : Int32) (xp2 : Int32) (xp3 : Int32) (H : Heap) (locs : List Loc) (g : JFrame) : Prop := W p l e (headSpec wsX11_go ({ frames := 7, cells := 0, slots := 0, locals := 173 })).room s m ([.ref ap0, .int xp1, .int xp2, .int xp3] : List Value).toArray below meth c H locs 0 0 (MQ below (hq_e D T (fun v _ _ => ∃ r : Int32, v = some (.int r) ∧ True)) ([.ref ap0, .int xp1, .int xp2, .int xp3] : List Value).toArray s 0 0 (hp_F T)) g
set_option maxHeartbeats 4000000 in
set_option maxRecDepth 100000 in
theorem sX11_go (l : Launch) (D : hp_D) (T : hp_T) (ap0 : Nat) (xp1 : Int32) (xp2 : Int32) (xp3 : Int32) (Ru : Nat → Prop) (hRu : ∀ b, Ru b → isRule T b) (ap0tp ap0tr ap0rr ap0rl ap0nw ap0im ap0tl ap0sk ap0iq ap0pa ap0sn ap0be : Nat) (hp0 : T ap0 = some (.inr (11, [(rR ap0tp), (rR ap0tr), (rR ap0rr), (rR ap0rl), (rI 0 6), (rR ap0nw), (rR ap0im), (rR ap0tl), (rR ap0sk), (rR ap0iq), (rR ap0pa), (rR ap0sn), (rR ap0be)]))) (ip0tp : isTape T ap0tp) (ip0tr : isTownReader T ap0tr) (ip0rr : isRuleReader T ap0rr) (hp0rl : T ap0rl = some (.inl (5, 6, fun _ => rN Ru))) (pxp0 : Value → Prop) (ip0nw : isMemory T ap0nw pxp0) (pimp0 : Nat → Value → Prop) (hp0im : T ap0im = some (.inl (4, 4, pimp0))) (ip0tl : isTown T ap0tl) (ip0sk : isShaker T Ru ap0sk) (ip0iq : isWorlds T ap0iq) (ip0pa : isParity T ap0pa) (ip0sn : isShuns T ap0sn) (ip0be : isBest T ap0be) : Met l yX11_go wsX11_go ({ frames := 7, cells := 0, slots := 0, locals := 173 }) (hp_Pc D T [.ref ap0, .int xp1, .int xp2, .int xp3] (fun _ => True)) (hq_e D T (fun v _ _ => ∃ r : Int32, v = some (.int r) ∧ True)) 0 0 (hp_F T) := by
  obtain ⟨ap0tpbt, hp0tp, hp0tpbt⟩ := id ip0tp
  obtain ⟨ap0trtp, ap0trtw, hp0tr, ip0trtp, ip0trtw⟩ := id ip0tr
  obtain ⟨ap0trtpbt, hp0trtp, hp0trtpbt⟩ := id ip0trtp
  obtain ⟨ap0trtwkin, ap0trtwpl, ap0trtwcr, hp0trtw, hp0trtwkin, hp0trtwpl, hp0trtwcr⟩ := id ip0trtw
  obtain ⟨ap0rrtp, ap0rrstp, hp0rr, ip0rrtp, hp0rrstp⟩ := id ip0rr
  obtain ⟨ap0rrtpbt, hp0rrtp, hp0rrtpbt⟩ := id ip0rrtp
  obtain ⟨ap0nwtw, ap0nwtg, ap0nwth, ap0nwts, ap0nwpm, ap0nwak, ap0nwao, ap0nwah, ap0nwaw, hp0nw, ip0nwtw, hp0nwtg, hp0nwth, hp0nwts, hp0nwpm, hp0nwak, hp0nwao, hp0nwah, hp0nwaw⟩ := id ip0nw
  obtain ⟨ap0nwtwkin, ap0nwtwpl, ap0nwtwcr, hp0nwtw, hp0nwtwkin, hp0nwtwpl, hp0nwtwcr⟩ := id ip0nwtw
  obtain ⟨ap0tlkin, ap0tlpl, ap0tlcr, hp0tl, hp0tlkin, hp0tlpl, hp0tlcr⟩ := id ip0tl
  obtain ⟨ap0skwd, ap0sksk, ap0skth, hp0sk, hp0skwd, hp0sksk, hp0skth⟩ := id ip0sk
  obtain ⟨ap0iqfi, ap0iqwo, ap0iqsu, ap0iqsh, ap0iqme, ap0iqs1, ap0iqs2, hp0iq, hp0iqfi, hp0iqwo, hp0iqsu, hp0iqsh, hp0iqme, hp0iqs1, hp0iqs2⟩ := id ip0iq
  obtain ⟨ap0pabo, hp0pa, hp0pabo⟩ := id ip0pa
  obtain ⟨ap0snle, ap0sngr, ap0sndu, ap0snit, ap0snop, hp0sn, hp0snle, hp0sngr, hp0sndu, hp0snit, hp0snop⟩ := id ip0sn
  have hp0be : T ap0be = some (.inr (0, [(rI 0 1), rA, rA, rA])) := ip0be
  refine Met.ofW (cc := cX11_go) (maxL := 6) (ret := (some .int)) (by decide) rfl ?_
  intro p e s m args below meth c s₁ B hml hv
  obtain ⟨rfl, hok, hG, hB⟩ := hv
  have hx := B.exec
  have hb := B.bytes
  have hr := B.returns
  have hts := atoms_spec (ws := wsX11_go) B.pre
  have hown : s.vm.findClass RX11 = some m.cls := findClass_of_methodNamed B.named
  have hlocks := B.notSynchronized
  have hK := hG.1
  have hw : hp_w D T s s.heap [] := hp_w.rf hok
  have IX1 : ∀ w ∈ wsX10, w ∈ wsX11_go := by decide +kernel
  have IX11 : ∀ w ∈ wsX110, w ∈ wsX11_go := by decide +kernel
  have L45 := hts (.fieldLink RX11 45 "PalmCensus" "now" "LPalmCensus$Memory;") (by decide +kernel)
  have L116 := hts (.fieldLink RX11 116 "PalmCensus$Memory" "town" "LPalmCensus$Town;") (by decide +kernel)
  have K194 := hts (.constant RX11 194 (-1000000)) (by decide +kernel)
  have hl := lv_entry ([.ref ap0, .int xp1, .int xp2, .int xp3]) (n := 6) (Nat.le_of_ble_eq_true rfl)
  rw [lg_entry_eq]
  generalize (lg_sl ([.ref ap0, .int xp1, .int xp2, .int xp3]) ++ List.replicate (6 - (lg_sl ([.ref ap0, .int xp1, .int xp2, .int xp3])).length) Slot.unset).toArray = ls at hl ⊢
  have hl : lv_has ls 6 [(0, .ref ap0), (1, .int xp1), (2, .int xp2), (3, .int xp3)] := hl
  show WX11_go p l e s m below meth c D T ap0 xp1 xp2 xp3 s.heap [] (F0 m 0 ls [])
  refine lv_aload_n hx hb dX11_go_0 rfl (lv_at hl 0 rfl) ?_
  refine hp_getr hx hb hts IX11 hown hK hw.1 hp0 rfl 5 (by decide) L45 rfl dX11_go_1 ?_
  refine hp_getr hx hb hts IX1 hown hK hw.1 hp0nw rfl 0 (by decide) L116 rfl dX11_go_4 ?_
  refine lv_astore (lv' := [(4, .ref ap0nwtw), (0, .ref ap0), (1, .int xp1), (2, .int xp2), (3, .int xp3)]) hx hb dX11_go_7 hl (by decide) rfl (fun ls hl => ?_)
  refine lv_aload hx hb dX11_go_9 (lv_at hl 0 rfl) ?_
  refine lv_iload_n hx hb dX11_go_11 rfl (lv_at hl 2 rfl) ?_
  refine hp_callpi (va_runV (As := [.int xp1]) (rest := []) ⟨hx, hb, hml, hown, hts⟩ (sX8_isPerson l D T ap0nwtw xp1 ip0nwtw) (cwV 1 hts gX11_go_X8_isPerson rfl rfl rfl (by decide +kernel) ⟨Nat.le_of_ble_eq_true rfl, Nat.le_of_ble_eq_true rfl⟩) (hp_preV hG hw hp0nwtw rfl trivial) rfl rfl hl.1 rfl (lv_room (Nat.le_of_ble_eq_true rfl)) dX11_go_12 ⟨Nat.zero_le _, Nat.zero_le _⟩) (fun x12 bx12 => ?_)
  obtain ⟨bx12, ix12_0⟩ := bx12
  have J36 : ∀ (H : Heap) (locs : List Loc), hp_w D T s H locs → ∀ (ls : Array Slot), lv_has ls 6 [] → WX11_go p l e s m below meth c D T ap0 xp1 xp2 xp3 H locs (F0 m 36 ls []) := by
    intro H36 locs36 hw ls hl
    refine lv_ldc (v := (-1000000)) hx hb hown K194 dX11_go_36 ?_
    exact W.iret (v := (-1000000)) hx hb hr (fun t ht hW => ⟨some (.int (-1000000)), rfl, ⟨((-1000000) : Int32), rfl, trivial⟩, by rw [ht]; exact hw.1, hw.2.F ht⟩) hw.2.2.2 dX11_go_38
  refine lv_if_eq (tgt := 36) hx hb dX11_go_15 (by decide) (fun c15 => ?_) (fun c15 => ?_)
  · have r15tp : iv x12 0 0 := (iv_both bx12 (iv_eq (show iv 0 0 0 from ⟨by decide, by decide⟩) c15)).mono (by decide) (by decide)
    exact J36 s.heap [] hw _ (lv_sub hl [] rfl)
  · have r15fp : iv x12 1 1 := (iv_ne_lo c15 bx12 rfl).mono (by decide) (by decide)
    have r15fpz : iv xp1 0 9 := (iv_both (iv_any xp1) (ix12_0 (iv_ne0 r15fp (by decide)))).mono (by decide) (by decide)
    refine lv_aload hx hb dX11_go_18 (lv_at hl 0 rfl) ?_
    refine lv_iload_n hx hb dX11_go_20 rfl (lv_at hl 3 rfl) ?_
    refine hp_callpi (va_runV (As := [.int xp2]) (rest := []) ⟨hx, hb, hml, hown, hts⟩ (sX8_isHour l D T ap0nwtw xp2 ip0nwtw) (cwV 1 hts gX11_go_X8_isHour rfl rfl rfl (by decide +kernel) ⟨Nat.le_of_ble_eq_true rfl, Nat.le_of_ble_eq_true rfl⟩) (hp_preV hG hw hp0nwtw rfl trivial) rfl rfl hl.1 rfl (lv_room (Nat.le_of_ble_eq_true rfl)) dX11_go_21 ⟨Nat.zero_le _, Nat.zero_le _⟩) (fun x21 bx21 => ?_)
    obtain ⟨bx21, ix21_0⟩ := bx21
    refine lv_if_eq (tgt := 36) hx hb dX11_go_24 (by decide) (fun c24 => ?_) (fun c24 => ?_)
    · have r24tp : iv x21 0 0 := (iv_both bx21 (iv_eq (show iv 0 0 0 from ⟨by decide, by decide⟩) c24)).mono (by decide) (by decide)
      exact J36 s.heap [] hw _ (lv_sub hl [] rfl)
    · have r24fp : iv x21 1 1 := (iv_ne_lo c24 bx21 rfl).mono (by decide) (by decide)
      have r24fpz : iv xp2 0 11 := (iv_both (iv_any xp2) (ix21_0 (iv_ne0 r24fp (by decide)))).mono (by decide) (by decide)
      refine lv_aload hx hb dX11_go_27 (lv_at hl 0 rfl) ?_
      refine lv_iload_n hx hb dX11_go_29 rfl (lv_at hl 4 rfl) ?_
      refine hp_callpi (va_runV (As := [.int xp3]) (rest := []) ⟨hx, hb, hml, hown, hts⟩ (sX8_isPlace l D T ap0nwtw xp3 ip0nwtw) (cwV 1 hts gX11_go_X8_isPlace rfl rfl rfl (by decide +kernel) ⟨Nat.le_of_ble_eq_true rfl, Nat.le_of_ble_eq_true rfl⟩) (hp_preV hG hw hp0nwtw rfl trivial) rfl rfl hl.1 rfl (lv_room (Nat.le_of_ble_eq_true rfl)) dX11_go_30 ⟨Nat.zero_le _, Nat.zero_le _⟩) (fun x30 bx30 => ?_)
      refine lv_if_ne (tgt := 39) hx hb dX11_go_33 (by decide) (fun c33 => ?_) (fun c33 => ?_)
      · have r33tp : iv x30 1 1 := (iv_ne_lo c33 bx30 rfl).mono (by decide) (by decide)
        refine lv_aload hx hb dX11_go_39 (lv_at hl 0 rfl) ?_
        refine lv_iload_n hx hb dX11_go_41 rfl (lv_at hl 2 rfl) ?_
        refine lv_iload_n hx hb dX11_go_42 rfl (lv_at hl 3 rfl) ?_
        refine hp_callpi (va_runV (As := [.int xp1, .int xp2]) (rest := []) ⟨hx, hb, hml, hown, hts⟩ (sX8_placeOf l D T ap0nwtw xp1 xp2 ip0nwtw) (cwV 2 hts gX11_go_X8_placeOf rfl rfl rfl (by decide +kernel) ⟨Nat.le_of_ble_eq_true rfl, Nat.le_of_ble_eq_true rfl⟩) (hp_preV hG hw hp0nwtw rfl trivial) rfl rfl hl.1 rfl (lv_room (Nat.le_of_ble_eq_true rfl)) dX11_go_43 ⟨Nat.zero_le _, Nat.zero_le _⟩) (fun x43 bx43 => ?_)
        refine lv_istore (lv' := [(5, .int x43), (4, .ref ap0nwtw), (0, .ref ap0), (1, .int xp1), (2, .int xp2), (3, .int xp3)]) hx hb dX11_go_46 hl (by decide) rfl (fun ls hl => ?_)
        refine lv_iload hx hb dX11_go_48 (lv_at hl 0 rfl) ?_
        refine lv_iload_n hx hb dX11_go_50 rfl (lv_at hl 5 rfl) ?_
        refine lv_icmp_ne (tgt := 57) hx hb dX11_go_51 (by decide) (fun c51 => ?_) (fun c51 => ?_)
        · refine lv_aload_n hx hb dX11_go_57 rfl (lv_at hl 2 rfl) ?_
          refine hp_getr hx hb hts IX11 hown hK hw.1 hp0 rfl 5 (by decide) L45 rfl dX11_go_58 ?_
          refine lv_iconst (v := 0) hx hb dX11_go_61 (by decide) ?_
          refine lv_iload_n hx hb dX11_go_62 rfl (lv_at hl 3 rfl) ?_
          refine lv_iload_n hx hb dX11_go_63 rfl (lv_at hl 4 rfl) ?_
          refine lv_iload hx hb dX11_go_64 (lv_at hl 0 rfl) ?_
          refine hp_callev (va_runV (As := [.int 0, .int xp1, .int xp2, .int x43]) (rest := []) ⟨hx, hb, hml, hown, hts⟩ (sX1_remember l D T ap0nw (0 : Int32) xp1 xp2 x43 pxp0 ip0nw) (cwV 4 hts gX11_go_X1_remember rfl rfl rfl (by decide +kernel) ⟨Nat.le_of_ble_eq_true rfl, Nat.le_of_ble_eq_true rfl⟩) (hp_preV hG hw hp0nw rfl trivial) rfl rfl hl.1 rfl (lv_room (Nat.le_of_ble_eq_true rfl)) dX11_go_66 ⟨Nat.zero_le _, Nat.zero_le _⟩) hw (fun st66 t66 H66 locs66 eh66 eg66 bx66 hw => ?_)
          refine lv_aload hx hb dX11_go_69 (lv_at hl 1 rfl) ?_
          refine lv_iload_n hx hb dX11_go_71 rfl (lv_at hl 3 rfl) ?_
          refine lv_iload_n hx hb dX11_go_72 rfl (lv_at hl 4 rfl) ?_
          refine lv_iload_n hx hb dX11_go_73 rfl (lv_at hl 5 rfl) ?_
          refine hp_callev (va_runV (As := [.int xp1, .int xp2, .int xp3]) (rest := []) ⟨hx, hb, hml, hown, hts⟩ (sX8_moveTo l D T ap0nwtw xp1 xp2 xp3 ip0nwtw) (cwV 3 hts gX11_go_X8_moveTo rfl rfl rfl (by decide +kernel) ⟨Nat.le_of_ble_eq_true rfl, Nat.le_of_ble_eq_true rfl⟩) (hp_preV hG hw hp0nwtw rfl trivial) rfl rfl hl.1 rfl (lv_room (Nat.le_of_ble_eq_true rfl)) dX11_go_74 ⟨Nat.zero_le _, Nat.zero_le _⟩) hw (fun st74 t74 H74 locs74 eh74 eg74 bx74 hw => ?_)
          obtain ⟨bx74, g74⟩ := bx74
          rw [eh74, eg74] at g74
          refine lv_aload_n hx hb dX11_go_77 rfl (lv_at hl 2 rfl) ?_
          refine hp_caller (va_runV (As := []) (rest := []) ⟨hx, hb, hml, hown, hts⟩ (sX11_counting l D T ap0 Ru hRu ap0tp ap0tr ap0rr ap0rl ap0nw ap0im ap0tl ap0sk ap0iq ap0pa ap0sn ap0be hp0 ip0tp ip0tr ip0rr hp0rl pxp0 ip0nw pimp0 hp0im ip0tl ip0sk ip0iq ip0pa ip0sn ip0be) (cwV 0 hts gX11_go_X11_counting rfl rfl rfl (by decide +kernel) ⟨Nat.le_of_ble_eq_true rfl, Nat.le_of_ble_eq_true rfl⟩) (hp_preV hG hw hp0 rfl trivial) rfl rfl hl.1 rfl (lv_room (Nat.le_of_ble_eq_true rfl)) dX11_go_78 ⟨Nat.zero_le _, Nat.zero_le _⟩) hw (fun st78 t78 H78 locs78 eh78 eg78 hw => ?_)
          refine lv_aload hx hb dX11_go_81 (lv_at hl 1 rfl) ?_
          refine hp_callei (va_runV (As := [.ref ap0nwtw]) (rest := []) ⟨hx, hb, hml, hown, hts⟩ (sX5_totalOf l D T ap0sk ap0nwtw Ru hRu ip0sk ip0nwtw) (cwV 1 hts gX11_go_X5_totalOf rfl rfl rfl (by decide +kernel) ⟨Nat.le_of_ble_eq_true rfl, Nat.le_of_ble_eq_true rfl⟩) (hp_preV hG hw hp0sk rfl trivial) rfl rfl hl.1 rfl (lv_room (Nat.le_of_ble_eq_true rfl)) dX11_go_83 ⟨Nat.zero_le _, Nat.zero_le _⟩) hw (fun x83 st83 t83 H83 locs83 eh83 eg83 bx83 hw => ?_)
          exact W.iret (v := x83) hx hb hr (fun t ht hW => ⟨some (.int x83), rfl, ⟨x83, rfl, trivial⟩, by rw [ht]; exact hw.1, hw.2.F ht⟩) hw.2.2.2 dX11_go_86
        · refine lv_ldc (v := (-1000000)) hx hb hown K194 dX11_go_54 ?_
          exact W.iret (v := (-1000000)) hx hb hr (fun t ht hW => ⟨some (.int (-1000000)), rfl, ⟨((-1000000) : Int32), rfl, trivial⟩, by rw [ht]; exact hw.1, hw.2.F ht⟩) hw.2.2.2 dX11_go_56
      · have r33fp : iv x30 0 0 := (iv_both bx30 (iv_eq (show iv 0 0 0 from ⟨by decide, by decide⟩) c33)).mono (by decide) (by decide)
        exact J36 s.heap [] hw _ (lv_sub hl [] rfl)
abbrev WX11_glove (p : Program) (l : Launch) (e : Env) (s : State) (m : MethodId) (below : List Frame) (meth : Method) (c : Code) (D : hp_D) (T : hp_T) (ap0 : Nat) (xp1 : Int32) (xp2 : Int32) (H : Heap) (locs : List Loc) (g : JFrame) : Prop := W p l e (headSpec wsX11_glove ({ frames := 3, cells := 0, slots := 0, locals := 83 })).room s m ([.ref ap0, .int xp1, .int xp2] : List Value).toArray below meth c H locs 0 0 (MQ below (hq_e D T (fun v _ _ => ∃ r : Int32, v = some (.int r) ∧ iv r 0 1)) ([.ref ap0, .int xp1, .int xp2] : List Value).toArray s 0 0 (hp_F T)) g
set_option maxHeartbeats 4000000 in
set_option maxRecDepth 100000 in
theorem sX11_glove (l : Launch) (D : hp_D) (T : hp_T) (ap0 : Nat) (xp1 : Int32) (xp2 : Int32) (Ru : Nat → Prop) (hRu : ∀ b, Ru b → isRule T b) (ap0tp ap0tr ap0rr ap0rl ap0nw ap0im ap0tl ap0sk ap0iq ap0pa ap0sn ap0be : Nat) (hp0 : T ap0 = some (.inr (11, [(rR ap0tp), (rR ap0tr), (rR ap0rr), (rR ap0rl), (rI 0 6), (rR ap0nw), (rR ap0im), (rR ap0tl), (rR ap0sk), (rR ap0iq), (rR ap0pa), (rR ap0sn), (rR ap0be)]))) (ip0tp : isTape T ap0tp) (ip0tr : isTownReader T ap0tr) (ip0rr : isRuleReader T ap0rr) (hp0rl : T ap0rl = some (.inl (5, 6, fun _ => rN Ru))) (pxp0 : Value → Prop) (ip0nw : isMemory T ap0nw pxp0) (pimp0 : Nat → Value → Prop) (hp0im : T ap0im = some (.inl (4, 4, pimp0))) (ip0tl : isTown T ap0tl) (ip0sk : isShaker T Ru ap0sk) (ip0iq : isWorlds T ap0iq) (ip0pa : isParity T ap0pa) (ip0sn : isShuns T ap0sn) (ip0be : isBest T ap0be) (bp2 : iv xp2 0 1) : Met l yX11_glove wsX11_glove ({ frames := 3, cells := 0, slots := 0, locals := 83 }) (hp_Pc D T [.ref ap0, .int xp1, .int xp2] (fun _ => True)) (hq_e D T (fun v _ _ => ∃ r : Int32, v = some (.int r) ∧ iv r 0 1)) 0 0 (hp_F T) := by
  obtain ⟨ap0tpbt, hp0tp, hp0tpbt⟩ := id ip0tp
  obtain ⟨ap0trtp, ap0trtw, hp0tr, ip0trtp, ip0trtw⟩ := id ip0tr
  obtain ⟨ap0trtpbt, hp0trtp, hp0trtpbt⟩ := id ip0trtp
  obtain ⟨ap0trtwkin, ap0trtwpl, ap0trtwcr, hp0trtw, hp0trtwkin, hp0trtwpl, hp0trtwcr⟩ := id ip0trtw
  obtain ⟨ap0rrtp, ap0rrstp, hp0rr, ip0rrtp, hp0rrstp⟩ := id ip0rr
  obtain ⟨ap0rrtpbt, hp0rrtp, hp0rrtpbt⟩ := id ip0rrtp
  obtain ⟨ap0nwtw, ap0nwtg, ap0nwth, ap0nwts, ap0nwpm, ap0nwak, ap0nwao, ap0nwah, ap0nwaw, hp0nw, ip0nwtw, hp0nwtg, hp0nwth, hp0nwts, hp0nwpm, hp0nwak, hp0nwao, hp0nwah, hp0nwaw⟩ := id ip0nw
  obtain ⟨ap0nwtwkin, ap0nwtwpl, ap0nwtwcr, hp0nwtw, hp0nwtwkin, hp0nwtwpl, hp0nwtwcr⟩ := id ip0nwtw
  obtain ⟨ap0tlkin, ap0tlpl, ap0tlcr, hp0tl, hp0tlkin, hp0tlpl, hp0tlcr⟩ := id ip0tl
  obtain ⟨ap0skwd, ap0sksk, ap0skth, hp0sk, hp0skwd, hp0sksk, hp0skth⟩ := id ip0sk
  obtain ⟨ap0iqfi, ap0iqwo, ap0iqsu, ap0iqsh, ap0iqme, ap0iqs1, ap0iqs2, hp0iq, hp0iqfi, hp0iqwo, hp0iqsu, hp0iqsh, hp0iqme, hp0iqs1, hp0iqs2⟩ := id ip0iq
  obtain ⟨ap0pabo, hp0pa, hp0pabo⟩ := id ip0pa
  obtain ⟨ap0snle, ap0sngr, ap0sndu, ap0snit, ap0snop, hp0sn, hp0snle, hp0sngr, hp0sndu, hp0snit, hp0snop⟩ := id ip0sn
  have hp0be : T ap0be = some (.inr (0, [(rI 0 1), rA, rA, rA])) := ip0be
  refine Met.ofW (cc := cX11_glove) (maxL := 5) (ret := (some .boolean)) (by decide) rfl ?_
  intro p e s m args below meth c s₁ B hml hv
  obtain ⟨rfl, hok, hG, hB⟩ := hv
  have hx := B.exec
  have hb := B.bytes
  have hr := B.returns
  have hts := atoms_spec (ws := wsX11_glove) B.pre
  have hown : s.vm.findClass RX11 = some m.cls := findClass_of_methodNamed B.named
  have hlocks := B.notSynchronized
  have hK := hG.1
  have hw : hp_w D T s s.heap [] := hp_w.rf hok
  have IX1 : ∀ w ∈ wsX10, w ∈ wsX11_glove := by decide +kernel
  have IX11 : ∀ w ∈ wsX110, w ∈ wsX11_glove := by decide +kernel
  have IX8 : ∀ w ∈ wsX80, w ∈ wsX11_glove := by decide +kernel
  have L45 := hts (.fieldLink RX11 45 "PalmCensus" "now" "LPalmCensus$Memory;") (by decide +kernel)
  have L116 := hts (.fieldLink RX11 116 "PalmCensus$Memory" "town" "LPalmCensus$Town;") (by decide +kernel)
  have L144 := hts (.fieldLink RX11 144 "PalmCensus$Town" "gloved" "I") (by decide +kernel)
  have hl := lv_entry ([.ref ap0, .int xp1, .int xp2]) (n := 5) (Nat.le_of_ble_eq_true rfl)
  rw [lg_entry_eq]
  generalize (lg_sl ([.ref ap0, .int xp1, .int xp2]) ++ List.replicate (5 - (lg_sl ([.ref ap0, .int xp1, .int xp2])).length) Slot.unset).toArray = ls at hl ⊢
  have hl : lv_has ls 5 [(0, .ref ap0), (1, .int xp1), (2, .int xp2)] := hl
  show WX11_glove p l e s m below meth c D T ap0 xp1 xp2 s.heap [] (F0 m 0 ls [])
  refine lv_aload_n hx hb dX11_glove_0 rfl (lv_at hl 0 rfl) ?_
  refine hp_getr hx hb hts IX11 hown hK hw.1 hp0 rfl 5 (by decide) L45 rfl dX11_glove_1 ?_
  refine hp_getr hx hb hts IX1 hown hK hw.1 hp0nw rfl 0 (by decide) L116 rfl dX11_glove_4 ?_
  refine lv_astore_n (lv' := [(3, .ref ap0nwtw), (0, .ref ap0), (1, .int xp1), (2, .int xp2)]) hx hb dX11_glove_7 rfl hl (by decide) rfl (fun ls hl => ?_)
  refine lv_iload_n hx hb dX11_glove_8 rfl (lv_at hl 3 rfl) ?_
  have J17 : ∀ (y17_s0 : Int32), iv y17_s0 0 1 → ∀ (H : Heap) (locs : List Loc), hp_w D T s H locs → ∀ (ls : Array Slot), lv_has ls 5 [(0, .ref ap0), (1, .int xp1), (3, .ref ap0nwtw)] → WX11_glove p l e s m below meth c D T ap0 xp1 xp2 H locs (F0 m 17 ls [.int y17_s0]) := by
    intro y17_s0 c17_y17_s0 H17 locs17 hw ls hl
    refine lv_istore (lv' := [(4, .int y17_s0), (0, .ref ap0), (1, .int xp1), (3, .ref ap0nwtw)]) hx hb dX11_glove_17 hl (by decide) rfl (fun ls hl => ?_)
    refine lv_aload_n hx hb dX11_glove_19 rfl (lv_at hl 3 rfl) ?_
    refine lv_iload_n hx hb dX11_glove_20 rfl (lv_at hl 2 rfl) ?_
    refine hp_callpi (va_runV (As := [.int xp1]) (rest := []) ⟨hx, hb, hml, hown, hts⟩ (sX8_isPerson l D T ap0nwtw xp1 ip0nwtw) (cwV 1 hts gX11_glove_X8_isPerson rfl rfl rfl (by decide +kernel) ⟨Nat.le_of_ble_eq_true rfl, Nat.le_of_ble_eq_true rfl⟩) (hp_preV hG hw hp0nwtw rfl trivial) rfl rfl hl.1 rfl (lv_room (Nat.le_of_ble_eq_true rfl)) dX11_glove_21 ⟨Nat.zero_le _, Nat.zero_le _⟩) (fun x21 bx21 => ?_)
    obtain ⟨bx21, ix21_0⟩ := bx21
    have J40 : ∀ (H : Heap) (locs : List Loc), hp_w D T s H locs → ∀ (ls : Array Slot), lv_has ls 5 [] → WX11_glove p l e s m below meth c D T ap0 xp1 xp2 H locs (F0 m 40 ls []) := by
      intro H40 locs40 hw ls hl
      refine lv_iconst (v := 0) hx hb dX11_glove_40 (by decide) ?_
      exact W.zret (v := 0) hx hb hr (iv_nz (show iv 0 0 1 from ⟨by decide, by decide⟩)) (fun t ht hW => ⟨some (.int 0), rfl, ⟨(0 : Int32), rfl, (show iv 0 0 1 from ⟨by decide, by decide⟩)⟩, by rw [ht]; exact hw.1, hw.2.F ht⟩) hw.2.2.2 dX11_glove_41
    refine lv_if_eq (tgt := 40) hx hb dX11_glove_24 (by decide) (fun c24 => ?_) (fun c24 => ?_)
    · have r24tp : iv x21 0 0 := (iv_both bx21 (iv_eq (show iv 0 0 0 from ⟨by decide, by decide⟩) c24)).mono (by decide) (by decide)
      exact J40 H17 locs17 hw _ (lv_sub hl [] rfl)
    · have r24fp : iv x21 1 1 := (iv_ne_lo c24 bx21 rfl).mono (by decide) (by decide)
      have r24fpz : iv xp1 0 9 := (iv_both (iv_any xp1) (ix21_0 (iv_ne0 r24fp (by decide)))).mono (by decide) (by decide)
      refine lv_aload_n hx hb dX11_glove_27 rfl (lv_at hl 3 rfl) ?_
      refine hp_getA hx hb hts IX8 hown hK hw.1 hp0nwtw rfl 5 (by decide) L144 rfl dX11_glove_28 (fun x28 fx28 => ?_)
      refine lv_iload_n hx hb dX11_glove_31 rfl (lv_at hl 2 rfl) ?_
      refine lv_ishr hx hb dX11_glove_32 ?_
      refine lv_topi (fun x32 ex32 => ?_)
      refine lv_iconst (v := 1) hx hb dX11_glove_33 (by decide) ?_
      refine lv_iand hx hb dX11_glove_34 ?_
      refine lv_topi (fun x34 ex34 => ?_)
      have bx34 : iv x34 0 1 := iv_and_r (show iv 1 0 1 from ⟨by decide, by decide⟩) ex34
      refine lv_iload hx hb dX11_glove_35 (lv_at hl 0 rfl) ?_
      refine lv_icmp_ne (tgt := 42) hx hb dX11_glove_37 (by decide) (fun c37 => ?_) (fun c37 => ?_)
      · refine lv_aload_n hx hb dX11_glove_42 rfl (lv_at hl 1 rfl) ?_
        refine hp_getr hx hb hts IX11 hown hK hw.1 hp0 rfl 5 (by decide) L45 rfl dX11_glove_43 ?_
        refine lv_iconst (v := 1) hx hb dX11_glove_46 (by decide) ?_
        refine lv_iload_n hx hb dX11_glove_47 rfl (lv_at hl 2 rfl) ?_
        refine lv_iconst (v := 0) hx hb dX11_glove_48 (by decide) ?_
        refine lv_iconst (v := 0) hx hb dX11_glove_49 (by decide) ?_
        refine hp_callev (va_runV (As := [.int 1, .int xp1, .int 0, .int 0]) (rest := []) ⟨hx, hb, hml, hown, hts⟩ (sX1_remember l D T ap0nw (1 : Int32) xp1 (0 : Int32) (0 : Int32) pxp0 ip0nw) (cwV 4 hts gX11_glove_X1_remember rfl rfl rfl (by decide +kernel) ⟨Nat.le_of_ble_eq_true rfl, Nat.le_of_ble_eq_true rfl⟩) (hp_preV hG hw hp0nw rfl trivial) rfl rfl hl.1 rfl (lv_room (Nat.le_of_ble_eq_true rfl)) dX11_glove_50 ⟨Nat.zero_le _, Nat.zero_le _⟩) hw (fun st50 t50 H50 locs50 eh50 eg50 bx50 hw => ?_)
        refine lv_aload_n hx hb dX11_glove_53 rfl (lv_at hl 3 rfl) ?_
        refine lv_dup hx hb dX11_glove_54 rfl ?_
        refine hp_getA hx hb hts IX8 hown hK hw.1 hp0nwtw rfl 5 (by decide) L144 rfl dX11_glove_55 (fun x55 fx55 => ?_)
        refine lv_iconst (v := 1) hx hb dX11_glove_58 (by decide) ?_
        refine lv_iload_n hx hb dX11_glove_59 rfl (lv_at hl 2 rfl) ?_
        refine lv_ishl hx hb dX11_glove_60 ?_
        refine lv_topi (fun x60 ex60 => ?_)
        have bx60 : iv x60 1 512 := iv_shl 9 (show iv 1 1 1 from ⟨by decide, by decide⟩) r24fpz ex60 (by decide)
        refine lv_ixor hx hb dX11_glove_61 ?_
        refine lv_topi (fun x61 ex61 => ?_)
        refine hp_put hx hb hts IX8 tyX8 tyX8_ok nmX8 hown hK hw hp0nwtw rfl 5 (by decide) L144 rfl rfl ⟨_, rfl⟩ rfl rfl dX11_glove_62 (fun H62 locs62 hw f62n g62 => ?_)
        refine lv_iconst (v := 1) hx hb dX11_glove_65 (by decide) ?_
        exact W.zret (v := 1) hx hb hr (iv_nz (show iv 1 0 1 from ⟨by decide, by decide⟩)) (fun t ht hW => ⟨some (.int 1), rfl, ⟨(1 : Int32), rfl, (show iv 1 0 1 from ⟨by decide, by decide⟩)⟩, by rw [ht]; exact hw.1, hw.2.F ht⟩) hw.2.2.2 dX11_glove_66
      · exact J40 H17 locs17 hw _ (lv_sub hl [] rfl)
  refine lv_if_eq (tgt := 16) hx hb dX11_glove_9 (by decide) (fun c9 => ?_) (fun c9 => ?_)
  · have r9tp : iv xp2 0 0 := (iv_both bp2 (iv_eq (show iv 0 0 0 from ⟨by decide, by decide⟩) c9)).mono (by decide) (by decide)
    refine lv_iconst (v := 0) hx hb dX11_glove_16 (by decide) ?_
    exact J17 (0 : Int32) (show iv 0 0 1 from ⟨by decide, by decide⟩) s.heap [] hw _ (lv_sub hl [1, 2, 0] rfl)
  · have r9fp : iv xp2 1 1 := (iv_ne_lo c9 bp2 rfl).mono (by decide) (by decide)
    refine lv_iconst (v := 1) hx hb dX11_glove_12 (by decide) ?_
    refine lv_goto (tgt := 17) hx hb dX11_glove_13 (by decide) ?_
    exact J17 (1 : Int32) (show iv 1 0 1 from ⟨by decide, by decide⟩) s.heap [] hw _ (lv_sub hl [1, 2, 0] rfl)
abbrev WX11_counter (p : Program) (l : Launch) (e : Env) (s : State) (m : MethodId) (below : List Frame) (meth : Method) (c : Code) (D : hp_D) (T : hp_T) (ap0 : Nat) (xp1 : Int32) (xp2 : Int32) (H : Heap) (locs : List Loc) (g : JFrame) : Prop := W p l e (headSpec wsX11_counter ({ frames := 3, cells := 0, slots := 0, locals := 83 })).room s m ([.ref ap0, .int xp1, .int xp2] : List Value).toArray below meth c H locs 0 0 (MQ below (hq_e D T (fun v _ _ => ∃ r : Int32, v = some (.int r) ∧ iv r 0 1)) ([.ref ap0, .int xp1, .int xp2] : List Value).toArray s 0 0 (hp_F T)) g
set_option maxHeartbeats 4000000 in
set_option maxRecDepth 100000 in
theorem sX11_counter (l : Launch) (D : hp_D) (T : hp_T) (ap0 : Nat) (xp1 : Int32) (xp2 : Int32) (Ru : Nat → Prop) (hRu : ∀ b, Ru b → isRule T b) (ap0tp ap0tr ap0rr ap0rl ap0nw ap0im ap0tl ap0sk ap0iq ap0pa ap0sn ap0be : Nat) (hp0 : T ap0 = some (.inr (11, [(rR ap0tp), (rR ap0tr), (rR ap0rr), (rR ap0rl), (rI 0 6), (rR ap0nw), (rR ap0im), (rR ap0tl), (rR ap0sk), (rR ap0iq), (rR ap0pa), (rR ap0sn), (rR ap0be)]))) (ip0tp : isTape T ap0tp) (ip0tr : isTownReader T ap0tr) (ip0rr : isRuleReader T ap0rr) (hp0rl : T ap0rl = some (.inl (5, 6, fun _ => rN Ru))) (pxp0 : Value → Prop) (ip0nw : isMemory T ap0nw pxp0) (pimp0 : Nat → Value → Prop) (hp0im : T ap0im = some (.inl (4, 4, pimp0))) (ip0tl : isTown T ap0tl) (ip0sk : isShaker T Ru ap0sk) (ip0iq : isWorlds T ap0iq) (ip0pa : isParity T ap0pa) (ip0sn : isShuns T ap0sn) (ip0be : isBest T ap0be) (bp2 : iv xp2 0 1) : Met l yX11_counter wsX11_counter ({ frames := 3, cells := 0, slots := 0, locals := 83 }) (hp_Pc D T [.ref ap0, .int xp1, .int xp2] (fun _ => True)) (hq_e D T (fun v _ _ => ∃ r : Int32, v = some (.int r) ∧ iv r 0 1)) 0 0 (hp_F T) := by
  obtain ⟨ap0tpbt, hp0tp, hp0tpbt⟩ := id ip0tp
  obtain ⟨ap0trtp, ap0trtw, hp0tr, ip0trtp, ip0trtw⟩ := id ip0tr
  obtain ⟨ap0trtpbt, hp0trtp, hp0trtpbt⟩ := id ip0trtp
  obtain ⟨ap0trtwkin, ap0trtwpl, ap0trtwcr, hp0trtw, hp0trtwkin, hp0trtwpl, hp0trtwcr⟩ := id ip0trtw
  obtain ⟨ap0rrtp, ap0rrstp, hp0rr, ip0rrtp, hp0rrstp⟩ := id ip0rr
  obtain ⟨ap0rrtpbt, hp0rrtp, hp0rrtpbt⟩ := id ip0rrtp
  obtain ⟨ap0nwtw, ap0nwtg, ap0nwth, ap0nwts, ap0nwpm, ap0nwak, ap0nwao, ap0nwah, ap0nwaw, hp0nw, ip0nwtw, hp0nwtg, hp0nwth, hp0nwts, hp0nwpm, hp0nwak, hp0nwao, hp0nwah, hp0nwaw⟩ := id ip0nw
  obtain ⟨ap0nwtwkin, ap0nwtwpl, ap0nwtwcr, hp0nwtw, hp0nwtwkin, hp0nwtwpl, hp0nwtwcr⟩ := id ip0nwtw
  obtain ⟨ap0tlkin, ap0tlpl, ap0tlcr, hp0tl, hp0tlkin, hp0tlpl, hp0tlcr⟩ := id ip0tl
  obtain ⟨ap0skwd, ap0sksk, ap0skth, hp0sk, hp0skwd, hp0sksk, hp0skth⟩ := id ip0sk
  obtain ⟨ap0iqfi, ap0iqwo, ap0iqsu, ap0iqsh, ap0iqme, ap0iqs1, ap0iqs2, hp0iq, hp0iqfi, hp0iqwo, hp0iqsu, hp0iqsh, hp0iqme, hp0iqs1, hp0iqs2⟩ := id ip0iq
  obtain ⟨ap0pabo, hp0pa, hp0pabo⟩ := id ip0pa
  obtain ⟨ap0snle, ap0sngr, ap0sndu, ap0snit, ap0snop, hp0sn, hp0snle, hp0sngr, hp0sndu, hp0snit, hp0snop⟩ := id ip0sn
  have hp0be : T ap0be = some (.inr (0, [(rI 0 1), rA, rA, rA])) := ip0be
  refine Met.ofW (cc := cX11_counter) (maxL := 5) (ret := (some .boolean)) (by decide) rfl ?_
  intro p e s m args below meth c s₁ B hml hv
  obtain ⟨rfl, hok, hG, hB⟩ := hv
  have hx := B.exec
  have hb := B.bytes
  have hr := B.returns
  have hts := atoms_spec (ws := wsX11_counter) B.pre
  have hown : s.vm.findClass RX11 = some m.cls := findClass_of_methodNamed B.named
  have hlocks := B.notSynchronized
  have hK := hG.1
  have hw : hp_w D T s s.heap [] := hp_w.rf hok
  have IX1 : ∀ w ∈ wsX10, w ∈ wsX11_counter := by decide +kernel
  have IX11 : ∀ w ∈ wsX110, w ∈ wsX11_counter := by decide +kernel
  have IX8 : ∀ w ∈ wsX80, w ∈ wsX11_counter := by decide +kernel
  have L45 := hts (.fieldLink RX11 45 "PalmCensus" "now" "LPalmCensus$Memory;") (by decide +kernel)
  have L116 := hts (.fieldLink RX11 116 "PalmCensus$Memory" "town" "LPalmCensus$Town;") (by decide +kernel)
  have L195 := hts (.fieldLink RX11 195 "PalmCensus$Town" "counters" "I") (by decide +kernel)
  have hl := lv_entry ([.ref ap0, .int xp1, .int xp2]) (n := 5) (Nat.le_of_ble_eq_true rfl)
  rw [lg_entry_eq]
  generalize (lg_sl ([.ref ap0, .int xp1, .int xp2]) ++ List.replicate (5 - (lg_sl ([.ref ap0, .int xp1, .int xp2])).length) Slot.unset).toArray = ls at hl ⊢
  have hl : lv_has ls 5 [(0, .ref ap0), (1, .int xp1), (2, .int xp2)] := hl
  show WX11_counter p l e s m below meth c D T ap0 xp1 xp2 s.heap [] (F0 m 0 ls [])
  refine lv_aload_n hx hb dX11_counter_0 rfl (lv_at hl 0 rfl) ?_
  refine hp_getr hx hb hts IX11 hown hK hw.1 hp0 rfl 5 (by decide) L45 rfl dX11_counter_1 ?_
  refine hp_getr hx hb hts IX1 hown hK hw.1 hp0nw rfl 0 (by decide) L116 rfl dX11_counter_4 ?_
  refine lv_astore_n (lv' := [(3, .ref ap0nwtw), (0, .ref ap0), (1, .int xp1), (2, .int xp2)]) hx hb dX11_counter_7 rfl hl (by decide) rfl (fun ls hl => ?_)
  refine lv_iload_n hx hb dX11_counter_8 rfl (lv_at hl 3 rfl) ?_
  have J17 : ∀ (y17_s0 : Int32), iv y17_s0 0 1 → ∀ (H : Heap) (locs : List Loc), hp_w D T s H locs → ∀ (ls : Array Slot), lv_has ls 5 [(0, .ref ap0), (1, .int xp1), (3, .ref ap0nwtw)] → WX11_counter p l e s m below meth c D T ap0 xp1 xp2 H locs (F0 m 17 ls [.int y17_s0]) := by
    intro y17_s0 c17_y17_s0 H17 locs17 hw ls hl
    refine lv_istore (lv' := [(4, .int y17_s0), (0, .ref ap0), (1, .int xp1), (3, .ref ap0nwtw)]) hx hb dX11_counter_17 hl (by decide) rfl (fun ls hl => ?_)
    refine lv_aload_n hx hb dX11_counter_19 rfl (lv_at hl 3 rfl) ?_
    refine lv_iload_n hx hb dX11_counter_20 rfl (lv_at hl 2 rfl) ?_
    refine hp_callpi (va_runV (As := [.int xp1]) (rest := []) ⟨hx, hb, hml, hown, hts⟩ (sX8_isGate l D T ap0nwtw xp1 ip0nwtw) (cwV 1 hts gX11_counter_X8_isGate rfl rfl rfl (by decide +kernel) ⟨Nat.le_of_ble_eq_true rfl, Nat.le_of_ble_eq_true rfl⟩) (hp_preV hG hw hp0nwtw rfl trivial) rfl rfl hl.1 rfl (lv_room (Nat.le_of_ble_eq_true rfl)) dX11_counter_21 ⟨Nat.zero_le _, Nat.zero_le _⟩) (fun x21 bx21 => ?_)
    obtain ⟨bx21, ix21_0⟩ := bx21
    have J40 : ∀ (H : Heap) (locs : List Loc), hp_w D T s H locs → ∀ (ls : Array Slot), lv_has ls 5 [] → WX11_counter p l e s m below meth c D T ap0 xp1 xp2 H locs (F0 m 40 ls []) := by
      intro H40 locs40 hw ls hl
      refine lv_iconst (v := 0) hx hb dX11_counter_40 (by decide) ?_
      exact W.zret (v := 0) hx hb hr (iv_nz (show iv 0 0 1 from ⟨by decide, by decide⟩)) (fun t ht hW => ⟨some (.int 0), rfl, ⟨(0 : Int32), rfl, (show iv 0 0 1 from ⟨by decide, by decide⟩)⟩, by rw [ht]; exact hw.1, hw.2.F ht⟩) hw.2.2.2 dX11_counter_41
    refine lv_if_eq (tgt := 40) hx hb dX11_counter_24 (by decide) (fun c24 => ?_) (fun c24 => ?_)
    · have r24tp : iv x21 0 0 := (iv_both bx21 (iv_eq (show iv 0 0 0 from ⟨by decide, by decide⟩) c24)).mono (by decide) (by decide)
      exact J40 H17 locs17 hw _ (lv_sub hl [] rfl)
    · have r24fp : iv x21 1 1 := (iv_ne_lo c24 bx21 rfl).mono (by decide) (by decide)
      have r24fpz : iv xp1 0 5 := (iv_both (iv_any xp1) (ix21_0 (iv_ne0 r24fp (by decide)))).mono (by decide) (by decide)
      refine lv_aload_n hx hb dX11_counter_27 rfl (lv_at hl 3 rfl) ?_
      refine hp_getA hx hb hts IX8 hown hK hw.1 hp0nwtw rfl 7 (by decide) L195 rfl dX11_counter_28 (fun x28 fx28 => ?_)
      refine lv_iload_n hx hb dX11_counter_31 rfl (lv_at hl 2 rfl) ?_
      refine lv_ishr hx hb dX11_counter_32 ?_
      refine lv_topi (fun x32 ex32 => ?_)
      refine lv_iconst (v := 1) hx hb dX11_counter_33 (by decide) ?_
      refine lv_iand hx hb dX11_counter_34 ?_
      refine lv_topi (fun x34 ex34 => ?_)
      have bx34 : iv x34 0 1 := iv_and_r (show iv 1 0 1 from ⟨by decide, by decide⟩) ex34
      refine lv_iload hx hb dX11_counter_35 (lv_at hl 0 rfl) ?_
      refine lv_icmp_ne (tgt := 42) hx hb dX11_counter_37 (by decide) (fun c37 => ?_) (fun c37 => ?_)
      · refine lv_aload_n hx hb dX11_counter_42 rfl (lv_at hl 1 rfl) ?_
        refine hp_getr hx hb hts IX11 hown hK hw.1 hp0 rfl 5 (by decide) L45 rfl dX11_counter_43 ?_
        refine lv_iconst (v := 2) hx hb dX11_counter_46 (by decide) ?_
        refine lv_iload_n hx hb dX11_counter_47 rfl (lv_at hl 2 rfl) ?_
        refine lv_iconst (v := 0) hx hb dX11_counter_48 (by decide) ?_
        refine lv_iconst (v := 0) hx hb dX11_counter_49 (by decide) ?_
        refine hp_callev (va_runV (As := [.int 2, .int xp1, .int 0, .int 0]) (rest := []) ⟨hx, hb, hml, hown, hts⟩ (sX1_remember l D T ap0nw (2 : Int32) xp1 (0 : Int32) (0 : Int32) pxp0 ip0nw) (cwV 4 hts gX11_counter_X1_remember rfl rfl rfl (by decide +kernel) ⟨Nat.le_of_ble_eq_true rfl, Nat.le_of_ble_eq_true rfl⟩) (hp_preV hG hw hp0nw rfl trivial) rfl rfl hl.1 rfl (lv_room (Nat.le_of_ble_eq_true rfl)) dX11_counter_50 ⟨Nat.zero_le _, Nat.zero_le _⟩) hw (fun st50 t50 H50 locs50 eh50 eg50 bx50 hw => ?_)
        refine lv_aload_n hx hb dX11_counter_53 rfl (lv_at hl 3 rfl) ?_
        refine lv_dup hx hb dX11_counter_54 rfl ?_
        refine hp_getA hx hb hts IX8 hown hK hw.1 hp0nwtw rfl 7 (by decide) L195 rfl dX11_counter_55 (fun x55 fx55 => ?_)
        refine lv_iconst (v := 1) hx hb dX11_counter_58 (by decide) ?_
        refine lv_iload_n hx hb dX11_counter_59 rfl (lv_at hl 2 rfl) ?_
        refine lv_ishl hx hb dX11_counter_60 ?_
        refine lv_topi (fun x60 ex60 => ?_)
        have bx60 : iv x60 1 32 := iv_shl 5 (show iv 1 1 1 from ⟨by decide, by decide⟩) r24fpz ex60 (by decide)
        refine lv_ixor hx hb dX11_counter_61 ?_
        refine lv_topi (fun x61 ex61 => ?_)
        refine hp_put hx hb hts IX8 tyX8 tyX8_ok nmX8 hown hK hw hp0nwtw rfl 7 (by decide) L195 rfl rfl ⟨_, rfl⟩ rfl rfl dX11_counter_62 (fun H62 locs62 hw f62n g62 => ?_)
        refine lv_iconst (v := 1) hx hb dX11_counter_65 (by decide) ?_
        exact W.zret (v := 1) hx hb hr (iv_nz (show iv 1 0 1 from ⟨by decide, by decide⟩)) (fun t ht hW => ⟨some (.int 1), rfl, ⟨(1 : Int32), rfl, (show iv 1 0 1 from ⟨by decide, by decide⟩)⟩, by rw [ht]; exact hw.1, hw.2.F ht⟩) hw.2.2.2 dX11_counter_66
      · exact J40 H17 locs17 hw _ (lv_sub hl [] rfl)
  refine lv_if_eq (tgt := 16) hx hb dX11_counter_9 (by decide) (fun c9 => ?_) (fun c9 => ?_)
  · have r9tp : iv xp2 0 0 := (iv_both bp2 (iv_eq (show iv 0 0 0 from ⟨by decide, by decide⟩) c9)).mono (by decide) (by decide)
    refine lv_iconst (v := 0) hx hb dX11_counter_16 (by decide) ?_
    exact J17 (0 : Int32) (show iv 0 0 1 from ⟨by decide, by decide⟩) s.heap [] hw _ (lv_sub hl [1, 2, 0] rfl)
  · have r9fp : iv xp2 1 1 := (iv_ne_lo c9 bp2 rfl).mono (by decide) (by decide)
    refine lv_iconst (v := 1) hx hb dX11_counter_12 (by decide) ?_
    refine lv_goto (tgt := 17) hx hb dX11_counter_13 (by decide) ?_
    exact J17 (1 : Int32) (show iv 1 0 1 from ⟨by decide, by decide⟩) s.heap [] hw _ (lv_sub hl [1, 2, 0] rfl)
abbrev WX11_night (p : Program) (l : Launch) (e : Env) (s : State) (m : MethodId) (below : List Frame) (meth : Method) (c : Code) (D : hp_D) (T : hp_T) (ap0 : Nat) (H : Heap) (locs : List Loc) (g : JFrame) : Prop := W p l e (headSpec wsX11_night ({ frames := 3, cells := 0, slots := 0, locals := 83 })).room s m ([.ref ap0] : List Value).toArray below meth c H locs 0 0 (MQ below (hq_e D T (fun v _ _ => ∃ r : Int32, v = some (.int r) ∧ True)) ([.ref ap0] : List Value).toArray s 0 0 (hp_F T)) g
set_option maxHeartbeats 4000000 in
set_option maxRecDepth 100000 in
theorem sX11_night (l : Launch) (D : hp_D) (T : hp_T) (ap0 : Nat) (Ru : Nat → Prop) (hRu : ∀ b, Ru b → isRule T b) (ap0tp ap0tr ap0rr ap0rl ap0nw ap0im ap0tl ap0sk ap0iq ap0pa ap0sn ap0be : Nat) (hp0 : T ap0 = some (.inr (11, [(rR ap0tp), (rR ap0tr), (rR ap0rr), (rR ap0rl), (rI 0 6), (rR ap0nw), (rR ap0im), (rR ap0tl), (rR ap0sk), (rR ap0iq), (rR ap0pa), (rR ap0sn), (rR ap0be)]))) (ip0tp : isTape T ap0tp) (ip0tr : isTownReader T ap0tr) (ip0rr : isRuleReader T ap0rr) (hp0rl : T ap0rl = some (.inl (5, 6, fun _ => rN Ru))) (pxp0 : Value → Prop) (ip0nw : isMemory T ap0nw pxp0) (pimp0 : Nat → Value → Prop) (hp0im : T ap0im = some (.inl (4, 4, pimp0))) (ip0tl : isTown T ap0tl) (ip0sk : isShaker T Ru ap0sk) (ip0iq : isWorlds T ap0iq) (ip0pa : isParity T ap0pa) (ip0sn : isShuns T ap0sn) (ip0be : isBest T ap0be) : Met l yX11_night wsX11_night ({ frames := 3, cells := 0, slots := 0, locals := 83 }) (hp_Pc D T [.ref ap0] (fun _ => True)) (hq_e D T (fun v _ _ => ∃ r : Int32, v = some (.int r) ∧ True)) 0 0 (hp_F T) := by
  obtain ⟨ap0tpbt, hp0tp, hp0tpbt⟩ := id ip0tp
  obtain ⟨ap0trtp, ap0trtw, hp0tr, ip0trtp, ip0trtw⟩ := id ip0tr
  obtain ⟨ap0trtpbt, hp0trtp, hp0trtpbt⟩ := id ip0trtp
  obtain ⟨ap0trtwkin, ap0trtwpl, ap0trtwcr, hp0trtw, hp0trtwkin, hp0trtwpl, hp0trtwcr⟩ := id ip0trtw
  obtain ⟨ap0rrtp, ap0rrstp, hp0rr, ip0rrtp, hp0rrstp⟩ := id ip0rr
  obtain ⟨ap0rrtpbt, hp0rrtp, hp0rrtpbt⟩ := id ip0rrtp
  obtain ⟨ap0nwtw, ap0nwtg, ap0nwth, ap0nwts, ap0nwpm, ap0nwak, ap0nwao, ap0nwah, ap0nwaw, hp0nw, ip0nwtw, hp0nwtg, hp0nwth, hp0nwts, hp0nwpm, hp0nwak, hp0nwao, hp0nwah, hp0nwaw⟩ := id ip0nw
  obtain ⟨ap0nwtwkin, ap0nwtwpl, ap0nwtwcr, hp0nwtw, hp0nwtwkin, hp0nwtwpl, hp0nwtwcr⟩ := id ip0nwtw
  obtain ⟨ap0tlkin, ap0tlpl, ap0tlcr, hp0tl, hp0tlkin, hp0tlpl, hp0tlcr⟩ := id ip0tl
  obtain ⟨ap0skwd, ap0sksk, ap0skth, hp0sk, hp0skwd, hp0sksk, hp0skth⟩ := id ip0sk
  obtain ⟨ap0iqfi, ap0iqwo, ap0iqsu, ap0iqsh, ap0iqme, ap0iqs1, ap0iqs2, hp0iq, hp0iqfi, hp0iqwo, hp0iqsu, hp0iqsh, hp0iqme, hp0iqs1, hp0iqs2⟩ := id ip0iq
  obtain ⟨ap0pabo, hp0pa, hp0pabo⟩ := id ip0pa
  obtain ⟨ap0snle, ap0sngr, ap0sndu, ap0snit, ap0snop, hp0sn, hp0snle, hp0sngr, hp0sndu, hp0snit, hp0snop⟩ := id ip0sn
  have hp0be : T ap0be = some (.inr (0, [(rI 0 1), rA, rA, rA])) := ip0be
  refine Met.ofW (cc := cX11_night) (maxL := 1) (ret := (some .int)) (by decide) rfl ?_
  intro p e s m args below meth c s₁ B hml hv
  obtain ⟨rfl, hok, hG, hB⟩ := hv
  have hx := B.exec
  have hb := B.bytes
  have hr := B.returns
  have hts := atoms_spec (ws := wsX11_night) B.pre
  have hown : s.vm.findClass RX11 = some m.cls := findClass_of_methodNamed B.named
  have hlocks := B.notSynchronized
  have hK := hG.1
  have hw : hp_w D T s s.heap [] := hp_w.rf hok
  have IX1 : ∀ w ∈ wsX10, w ∈ wsX11_night := by decide +kernel
  have IX11 : ∀ w ∈ wsX110, w ∈ wsX11_night := by decide +kernel
  have IX8 : ∀ w ∈ wsX80, w ∈ wsX11_night := by decide +kernel
  have L45 := hts (.fieldLink RX11 45 "PalmCensus" "now" "LPalmCensus$Memory;") (by decide +kernel)
  have L116 := hts (.fieldLink RX11 116 "PalmCensus$Memory" "town" "LPalmCensus$Town;") (by decide +kernel)
  have L241 := hts (.fieldLink RX11 241 "PalmCensus$Town" "day" "I") (by decide +kernel)
  have hl := lv_entry ([.ref ap0]) (n := 1) (Nat.le_of_ble_eq_true rfl)
  rw [lg_entry_eq]
  generalize (lg_sl ([.ref ap0]) ++ List.replicate (1 - (lg_sl ([.ref ap0])).length) Slot.unset).toArray = ls at hl ⊢
  have hl : lv_has ls 1 [(0, .ref ap0)] := hl
  show WX11_night p l e s m below meth c D T ap0 s.heap [] (F0 m 0 ls [])
  refine lv_aload_n hx hb dX11_night_0 rfl (lv_at hl 0 rfl) ?_
  refine hp_callpi (va_runV (As := []) (rest := []) ⟨hx, hb, hml, hown, hts⟩ (sX11_hasTown l D T ap0 Ru hRu ap0tp ap0tr ap0rr ap0rl ap0nw ap0im ap0tl ap0sk ap0iq ap0pa ap0sn ap0be hp0 ip0tp ip0tr ip0rr hp0rl pxp0 ip0nw pimp0 hp0im ip0tl ip0sk ip0iq ip0pa ip0sn ip0be) (cwV 0 hts gX11_night_X11_hasTown rfl rfl rfl (by decide +kernel) ⟨Nat.le_of_ble_eq_true rfl, Nat.le_of_ble_eq_true rfl⟩) (hp_preV hG hw hp0 rfl trivial) rfl rfl hl.1 rfl (lv_room (Nat.le_of_ble_eq_true rfl)) dX11_night_1 ⟨Nat.zero_le _, Nat.zero_le _⟩) (fun x1 bx1 => ?_)
  have J23 : ∀ (H : Heap) (locs : List Loc), hp_w D T s H locs → ∀ (ls : Array Slot), lv_has ls 1 [] → WX11_night p l e s m below meth c D T ap0 H locs (F0 m 23 ls []) := by
    intro H23 locs23 hw ls hl
    refine lv_iconst (v := (-1)) hx hb dX11_night_23 (by decide) ?_
    exact W.iret (v := (-1)) hx hb hr (fun t ht hW => ⟨some (.int (-1)), rfl, ⟨((-1) : Int32), rfl, trivial⟩, by rw [ht]; exact hw.1, hw.2.F ht⟩) hw.2.2.2 dX11_night_24
  refine lv_if_eq (tgt := 23) hx hb dX11_night_4 (by decide) (fun c4 => ?_) (fun c4 => ?_)
  · have r4tp : iv x1 0 0 := (iv_both bx1 (iv_eq (show iv 0 0 0 from ⟨by decide, by decide⟩) c4)).mono (by decide) (by decide)
    exact J23 s.heap [] hw _ (lv_sub hl [] rfl)
  · have r4fp : iv x1 1 1 := (iv_ne_lo c4 bx1 rfl).mono (by decide) (by decide)
    refine lv_aload_n hx hb dX11_night_7 rfl (lv_at hl 0 rfl) ?_
    refine hp_getr hx hb hts IX11 hown hK hw.1 hp0 rfl 5 (by decide) L45 rfl dX11_night_8 ?_
    refine hp_getr hx hb hts IX1 hown hK hw.1 hp0nw rfl 0 (by decide) L116 rfl dX11_night_11 ?_
    refine hp_getA hx hb hts IX8 hown hK hw.1 hp0nwtw rfl 3 (by decide) L241 rfl dX11_night_14 (fun x14 fx14 => ?_)
    refine lv_sipush (v := 9999) hx hb dX11_night_17 (by decide) ?_
    refine lv_icmp_lt (tgt := 25) hx hb dX11_night_20 (by decide) (fun c20 => ?_) (fun c20 => ?_)
    · have r20tp : iv x14 (-2147483648) 9998 := (iv_lt_l c20 (iv_any x14) (show iv 9999 9999 9999 from ⟨by decide, by decide⟩)).mono (by decide) (by decide)
      refine lv_aload_n hx hb dX11_night_25 rfl (lv_at hl 0 rfl) ?_
      refine hp_getr hx hb hts IX11 hown hK hw.1 hp0 rfl 5 (by decide) L45 rfl dX11_night_26 ?_
      refine lv_iconst (v := 3) hx hb dX11_night_29 (by decide) ?_
      refine lv_iconst (v := 0) hx hb dX11_night_30 (by decide) ?_
      refine lv_iconst (v := 0) hx hb dX11_night_31 (by decide) ?_
      refine lv_iconst (v := 0) hx hb dX11_night_32 (by decide) ?_
      refine hp_callev (va_runV (As := [.int 3, .int 0, .int 0, .int 0]) (rest := []) ⟨hx, hb, hml, hown, hts⟩ (sX1_remember l D T ap0nw (3 : Int32) (0 : Int32) (0 : Int32) (0 : Int32) pxp0 ip0nw) (cwV 4 hts gX11_night_X1_remember rfl rfl rfl (by decide +kernel) ⟨Nat.le_of_ble_eq_true rfl, Nat.le_of_ble_eq_true rfl⟩) (hp_preV hG hw hp0nw rfl trivial) rfl rfl hl.1 rfl (lv_room (Nat.le_of_ble_eq_true rfl)) dX11_night_33 ⟨Nat.zero_le _, Nat.zero_le _⟩) hw (fun st33 t33 H33 locs33 eh33 eg33 bx33 hw => ?_)
      refine lv_aload_n hx hb dX11_night_36 rfl (lv_at hl 0 rfl) ?_
      refine hp_getr hx hb hts IX11 hown hK hw.1 hp0 rfl 5 (by decide) L45 rfl dX11_night_37 ?_
      refine hp_getr hx hb hts IX1 hown hK hw.1 hp0nw rfl 0 (by decide) L116 rfl dX11_night_40 ?_
      refine lv_dup hx hb dX11_night_43 rfl ?_
      refine hp_getA hx hb hts IX8 hown hK hw.1 hp0nwtw rfl 3 (by decide) L241 rfl dX11_night_44 (fun x44 fx44 => ?_)
      refine lv_iconst (v := 1) hx hb dX11_night_47 (by decide) ?_
      refine lv_iadd hx hb dX11_night_48 ?_
      refine lv_topi (fun x48 ex48 => ?_)
      refine hp_put hx hb hts IX8 tyX8 tyX8_ok nmX8 hown hK hw hp0nwtw rfl 3 (by decide) L241 rfl rfl ⟨_, rfl⟩ rfl rfl dX11_night_49 (fun H49 locs49 hw f49n g49 => ?_)
      refine lv_aload_n hx hb dX11_night_52 rfl (lv_at hl 0 rfl) ?_
      refine hp_getr hx hb hts IX11 hown hK hw.1 hp0 rfl 5 (by decide) L45 rfl dX11_night_53 ?_
      refine hp_getr hx hb hts IX1 hown hK hw.1 hp0nw rfl 0 (by decide) L116 rfl dX11_night_56 ?_
      refine hp_getf hx hb hts IX8 hown hK f49n rfl (by decide) L241 dX11_night_59 ?_
      exact W.iret (v := x48) hx hb hr (fun t ht hW => ⟨some (.int x48), rfl, ⟨x48, rfl, trivial⟩, by rw [ht]; exact hw.1, hw.2.F ht⟩) hw.2.2.2 dX11_night_62
    · have r20fq : iv x14 9999 2147483647 := (iv_le_r (iv_nlt c20) (show iv 9999 9999 9999 from ⟨by decide, by decide⟩) (iv_any x14)).mono (by decide) (by decide)
      exact J23 s.heap [] hw _ (lv_sub hl [] rfl)
abbrev WX11_undo (p : Program) (l : Launch) (e : Env) (s : State) (m : MethodId) (below : List Frame) (meth : Method) (c : Code) (D : hp_D) (T : hp_T) (ap0 : Nat) (H : Heap) (locs : List Loc) (g : JFrame) : Prop := W p l e (headSpec wsX11_undo ({ frames := 4, cells := 0, slots := 0, locals := 87 })).room s m ([.ref ap0] : List Value).toArray below meth c H locs 0 0 (MQ below (hq_e D T (fun v _ _ => ∃ r : Int32, v = some (.int r) ∧ True)) ([.ref ap0] : List Value).toArray s 0 0 (hp_F T)) g
set_option maxHeartbeats 4000000 in
set_option maxRecDepth 100000 in
theorem sX11_undo (l : Launch) (D : hp_D) (T : hp_T) (ap0 : Nat) (Ru : Nat → Prop) (hRu : ∀ b, Ru b → isRule T b) (ap0tp ap0tr ap0rr ap0rl ap0nw ap0im ap0tl ap0sk ap0iq ap0pa ap0sn ap0be : Nat) (hp0 : T ap0 = some (.inr (11, [(rR ap0tp), (rR ap0tr), (rR ap0rr), (rR ap0rl), (rI 0 6), (rR ap0nw), (rR ap0im), (rR ap0tl), (rR ap0sk), (rR ap0iq), (rR ap0pa), (rR ap0sn), (rR ap0be)]))) (ip0tp : isTape T ap0tp) (ip0tr : isTownReader T ap0tr) (ip0rr : isRuleReader T ap0rr) (hp0rl : T ap0rl = some (.inl (5, 6, fun _ => rN Ru))) (pxp0 : Value → Prop) (ip0nw : isMemory T ap0nw pxp0) (pimp0 : Nat → Value → Prop) (hp0im : T ap0im = some (.inl (4, 4, pimp0))) (ip0tl : isTown T ap0tl) (ip0sk : isShaker T Ru ap0sk) (ip0iq : isWorlds T ap0iq) (ip0pa : isParity T ap0pa) (ip0sn : isShuns T ap0sn) (ip0be : isBest T ap0be) : Met l yX11_undo wsX11_undo ({ frames := 4, cells := 0, slots := 0, locals := 87 }) (hp_Pc D T [.ref ap0] (fun _ => True)) (hq_e D T (fun v _ _ => ∃ r : Int32, v = some (.int r) ∧ True)) 0 0 (hp_F T) := by
  obtain ⟨ap0tpbt, hp0tp, hp0tpbt⟩ := id ip0tp
  obtain ⟨ap0trtp, ap0trtw, hp0tr, ip0trtp, ip0trtw⟩ := id ip0tr
  obtain ⟨ap0trtpbt, hp0trtp, hp0trtpbt⟩ := id ip0trtp
  obtain ⟨ap0trtwkin, ap0trtwpl, ap0trtwcr, hp0trtw, hp0trtwkin, hp0trtwpl, hp0trtwcr⟩ := id ip0trtw
  obtain ⟨ap0rrtp, ap0rrstp, hp0rr, ip0rrtp, hp0rrstp⟩ := id ip0rr
  obtain ⟨ap0rrtpbt, hp0rrtp, hp0rrtpbt⟩ := id ip0rrtp
  obtain ⟨ap0nwtw, ap0nwtg, ap0nwth, ap0nwts, ap0nwpm, ap0nwak, ap0nwao, ap0nwah, ap0nwaw, hp0nw, ip0nwtw, hp0nwtg, hp0nwth, hp0nwts, hp0nwpm, hp0nwak, hp0nwao, hp0nwah, hp0nwaw⟩ := id ip0nw
  obtain ⟨ap0nwtwkin, ap0nwtwpl, ap0nwtwcr, hp0nwtw, hp0nwtwkin, hp0nwtwpl, hp0nwtwcr⟩ := id ip0nwtw
  obtain ⟨ap0tlkin, ap0tlpl, ap0tlcr, hp0tl, hp0tlkin, hp0tlpl, hp0tlcr⟩ := id ip0tl
  obtain ⟨ap0skwd, ap0sksk, ap0skth, hp0sk, hp0skwd, hp0sksk, hp0skth⟩ := id ip0sk
  obtain ⟨ap0iqfi, ap0iqwo, ap0iqsu, ap0iqsh, ap0iqme, ap0iqs1, ap0iqs2, hp0iq, hp0iqfi, hp0iqwo, hp0iqsu, hp0iqsh, hp0iqme, hp0iqs1, hp0iqs2⟩ := id ip0iq
  obtain ⟨ap0pabo, hp0pa, hp0pabo⟩ := id ip0pa
  obtain ⟨ap0snle, ap0sngr, ap0sndu, ap0snit, ap0snop, hp0sn, hp0snle, hp0sngr, hp0sndu, hp0snit, hp0snop⟩ := id ip0sn
  have hp0be : T ap0be = some (.inr (0, [(rI 0 1), rA, rA, rA])) := ip0be
  refine Met.ofW (cc := cX11_undo) (maxL := 1) (ret := (some .int)) (by decide) rfl ?_
  intro p e s m args below meth c s₁ B hml hv
  obtain ⟨rfl, hok, hG, hB⟩ := hv
  have hx := B.exec
  have hb := B.bytes
  have hr := B.returns
  have hts := atoms_spec (ws := wsX11_undo) B.pre
  have hown : s.vm.findClass RX11 = some m.cls := findClass_of_methodNamed B.named
  have hlocks := B.notSynchronized
  have hK := hG.1
  have hw : hp_w D T s s.heap [] := hp_w.rf hok
  have IX1 : ∀ w ∈ wsX10, w ∈ wsX11_undo := by decide +kernel
  have IX11 : ∀ w ∈ wsX110, w ∈ wsX11_undo := by decide +kernel
  have L45 := hts (.fieldLink RX11 45 "PalmCensus" "now" "LPalmCensus$Memory;") (by decide +kernel)
  have L247 := hts (.fieldLink RX11 247 "PalmCensus$Memory" "acts" "I") (by decide +kernel)
  have hl := lv_entry ([.ref ap0]) (n := 1) (Nat.le_of_ble_eq_true rfl)
  rw [lg_entry_eq]
  generalize (lg_sl ([.ref ap0]) ++ List.replicate (1 - (lg_sl ([.ref ap0])).length) Slot.unset).toArray = ls at hl ⊢
  have hl : lv_has ls 1 [(0, .ref ap0)] := hl
  show WX11_undo p l e s m below meth c D T ap0 s.heap [] (F0 m 0 ls [])
  refine lv_aload_n hx hb dX11_undo_0 rfl (lv_at hl 0 rfl) ?_
  refine hp_getr hx hb hts IX11 hown hK hw.1 hp0 rfl 5 (by decide) L45 rfl dX11_undo_1 ?_
  refine hp_callei (va_runV (As := []) (rest := []) ⟨hx, hb, hml, hown, hts⟩ (sX1_takeBack l D T ap0nw pxp0 ip0nw) (cwV 0 hts gX11_undo_X1_takeBack rfl rfl rfl (by decide +kernel) ⟨Nat.le_of_ble_eq_true rfl, Nat.le_of_ble_eq_true rfl⟩) (hp_preV hG hw hp0nw rfl trivial) rfl rfl hl.1 rfl (lv_room (Nat.le_of_ble_eq_true rfl)) dX11_undo_4 ⟨Nat.zero_le _, Nat.zero_le _⟩) hw (fun x4 st4 t4 H4 locs4 eh4 eg4 bx4 hw => ?_)
  have J22 : ∀ (y22_s0 : Int32), iv y22_s0 (-2) 20 → ∀ (H : Heap) (locs : List Loc), hp_w D T s H locs → ∀ (ls : Array Slot), lv_has ls 1 [] → WX11_undo p l e s m below meth c D T ap0 H locs (F0 m 22 ls [.int y22_s0]) := by
    intro y22_s0 c22_y22_s0 H22 locs22 hw ls hl
    exact W.iret (v := y22_s0) hx hb hr (fun t ht hW => ⟨some (.int y22_s0), rfl, ⟨y22_s0, rfl, trivial⟩, by rw [ht]; exact hw.1, hw.2.F ht⟩) hw.2.2.2 dX11_undo_22
  refine lv_if_eq (tgt := 20) hx hb dX11_undo_7 (by decide) (fun c7 => ?_) (fun c7 => ?_)
  · have r7tp : iv x4 0 0 := (iv_both bx4 (iv_eq (show iv 0 0 0 from ⟨by decide, by decide⟩) c7)).mono (by decide) (by decide)
    refine lv_bipush (v := (-2)) hx hb dX11_undo_20 (by decide) ?_
    exact J22 ((-2) : Int32) (show iv (-2) (-2) 20 from ⟨by decide, by decide⟩) H4 locs4 hw _ (lv_sub hl [] rfl)
  · have r7fp : iv x4 1 1 := (iv_ne_lo c7 bx4 rfl).mono (by decide) (by decide)
    refine lv_aload_n hx hb dX11_undo_10 rfl (lv_at hl 0 rfl) ?_
    refine hp_getr hx hb hts IX11 hown hK hw.1 hp0 rfl 5 (by decide) L45 rfl dX11_undo_11 ?_
    refine hp_geti hx hb hts IX1 hown hK hw.1 hp0nw rfl 8 (by decide) L247 rfl dX11_undo_14 (fun x14 bx14 fx14 => ?_)
    refine lv_goto (tgt := 22) hx hb dX11_undo_17 (by decide) ?_
    exact J22 x14 (bx14.mono (by decide) (by decide)) H4 locs4 hw _ (lv_sub hl [] rfl)
abbrev WX11_told (p : Program) (l : Launch) (e : Env) (s : State) (m : MethodId) (below : List Frame) (meth : Method) (c : Code) (D : hp_D) (T : hp_T) (ap0 : Nat) (xp1 : Int32) (xp2 : Int32) (xp3 : Int32) (H : Heap) (locs : List Loc) (g : JFrame) : Prop := W p l e (headSpec wsX11_told ({ frames := 2, cells := 0, slots := 0, locals := 43 })).room s m ([.ref ap0, .int xp1, .int xp2, .int xp3] : List Value).toArray below meth c H locs 0 0 (MQ below (hq_e D T (fun v _ _ => ∃ r : Int32, v = some (.int r) ∧ True)) ([.ref ap0, .int xp1, .int xp2, .int xp3] : List Value).toArray s 0 0 (hp_F T)) g
set_option maxHeartbeats 4000000 in
set_option maxRecDepth 100000 in
theorem sX11_told (l : Launch) (D : hp_D) (T : hp_T) (ap0 : Nat) (xp1 : Int32) (xp2 : Int32) (xp3 : Int32) (Ru : Nat → Prop) (hRu : ∀ b, Ru b → isRule T b) (ap0tp ap0tr ap0rr ap0rl ap0nw ap0im ap0tl ap0sk ap0iq ap0pa ap0sn ap0be : Nat) (hp0 : T ap0 = some (.inr (11, [(rR ap0tp), (rR ap0tr), (rR ap0rr), (rR ap0rl), (rI 0 6), (rR ap0nw), (rR ap0im), (rR ap0tl), (rR ap0sk), (rR ap0iq), (rR ap0pa), (rR ap0sn), (rR ap0be)]))) (ip0tp : isTape T ap0tp) (ip0tr : isTownReader T ap0tr) (ip0rr : isRuleReader T ap0rr) (hp0rl : T ap0rl = some (.inl (5, 6, fun _ => rN Ru))) (pxp0 : Value → Prop) (ip0nw : isMemory T ap0nw pxp0) (pimp0 : Nat → Value → Prop) (hp0im : T ap0im = some (.inl (4, 4, pimp0))) (ip0tl : isTown T ap0tl) (ip0sk : isShaker T Ru ap0sk) (ip0iq : isWorlds T ap0iq) (ip0pa : isParity T ap0pa) (ip0sn : isShuns T ap0sn) (ip0be : isBest T ap0be) : Met l yX11_told wsX11_told ({ frames := 2, cells := 0, slots := 0, locals := 43 }) (hp_Pc D T [.ref ap0, .int xp1, .int xp2, .int xp3] (fun _ => True)) (hq_e D T (fun v _ _ => ∃ r : Int32, v = some (.int r) ∧ True)) 0 0 (hp_F T) := by
  obtain ⟨ap0tpbt, hp0tp, hp0tpbt⟩ := id ip0tp
  obtain ⟨ap0trtp, ap0trtw, hp0tr, ip0trtp, ip0trtw⟩ := id ip0tr
  obtain ⟨ap0trtpbt, hp0trtp, hp0trtpbt⟩ := id ip0trtp
  obtain ⟨ap0trtwkin, ap0trtwpl, ap0trtwcr, hp0trtw, hp0trtwkin, hp0trtwpl, hp0trtwcr⟩ := id ip0trtw
  obtain ⟨ap0rrtp, ap0rrstp, hp0rr, ip0rrtp, hp0rrstp⟩ := id ip0rr
  obtain ⟨ap0rrtpbt, hp0rrtp, hp0rrtpbt⟩ := id ip0rrtp
  obtain ⟨ap0nwtw, ap0nwtg, ap0nwth, ap0nwts, ap0nwpm, ap0nwak, ap0nwao, ap0nwah, ap0nwaw, hp0nw, ip0nwtw, hp0nwtg, hp0nwth, hp0nwts, hp0nwpm, hp0nwak, hp0nwao, hp0nwah, hp0nwaw⟩ := id ip0nw
  obtain ⟨ap0nwtwkin, ap0nwtwpl, ap0nwtwcr, hp0nwtw, hp0nwtwkin, hp0nwtwpl, hp0nwtwcr⟩ := id ip0nwtw
  obtain ⟨ap0tlkin, ap0tlpl, ap0tlcr, hp0tl, hp0tlkin, hp0tlpl, hp0tlcr⟩ := id ip0tl
  obtain ⟨ap0skwd, ap0sksk, ap0skth, hp0sk, hp0skwd, hp0sksk, hp0skth⟩ := id ip0sk
  obtain ⟨ap0iqfi, ap0iqwo, ap0iqsu, ap0iqsh, ap0iqme, ap0iqs1, ap0iqs2, hp0iq, hp0iqfi, hp0iqwo, hp0iqsu, hp0iqsh, hp0iqme, hp0iqs1, hp0iqs2⟩ := id ip0iq
  obtain ⟨ap0pabo, hp0pa, hp0pabo⟩ := id ip0pa
  obtain ⟨ap0snle, ap0sngr, ap0sndu, ap0snit, ap0snop, hp0sn, hp0snle, hp0sngr, hp0sndu, hp0snit, hp0snop⟩ := id ip0sn
  have hp0be : T ap0be = some (.inr (0, [(rI 0 1), rA, rA, rA])) := ip0be
  refine Met.ofW (cc := cX11_told) (maxL := 4) (ret := (some .int)) (by decide) rfl ?_
  intro p e s m args below meth c s₁ B hml hv
  obtain ⟨rfl, hok, hG, hB⟩ := hv
  have hx := B.exec
  have hb := B.bytes
  have hr := B.returns
  have hts := atoms_spec (ws := wsX11_told) B.pre
  have hown : s.vm.findClass RX11 = some m.cls := findClass_of_methodNamed B.named
  have hlocks := B.notSynchronized
  have hK := hG.1
  have hw : hp_w D T s s.heap [] := hp_w.rf hok
  have IX1 : ∀ w ∈ wsX10, w ∈ wsX11_told := by decide +kernel
  have IX11 : ∀ w ∈ wsX110, w ∈ wsX11_told := by decide +kernel
  have K253 := hts (.constant RX11 253 (-100000)) (by decide +kernel)
  have K254 := hts (.constant RX11 254 100000) (by decide +kernel)
  have L45 := hts (.fieldLink RX11 45 "PalmCensus" "now" "LPalmCensus$Memory;") (by decide +kernel)
  have L250 := hts (.fieldLink RX11 250 "PalmCensus$Memory" "toldCount" "I") (by decide +kernel)
  have L255 := hts (.fieldLink RX11 255 "PalmCensus$Memory" "toldGate" "[I") (by decide +kernel)
  have L258 := hts (.fieldLink RX11 258 "PalmCensus$Memory" "toldHour" "[I") (by decide +kernel)
  have L261 := hts (.fieldLink RX11 261 "PalmCensus$Memory" "toldSum" "[I") (by decide +kernel)
  have hl := lv_entry ([.ref ap0, .int xp1, .int xp2, .int xp3]) (n := 4) (Nat.le_of_ble_eq_true rfl)
  rw [lg_entry_eq]
  generalize (lg_sl ([.ref ap0, .int xp1, .int xp2, .int xp3]) ++ List.replicate (4 - (lg_sl ([.ref ap0, .int xp1, .int xp2, .int xp3])).length) Slot.unset).toArray = ls at hl ⊢
  have hl : lv_has ls 4 [(0, .ref ap0), (1, .int xp1), (2, .int xp2), (3, .int xp3)] := hl
  show WX11_told p l e s m below meth c D T ap0 xp1 xp2 xp3 s.heap [] (F0 m 0 ls [])
  obtain ⟨x9000op0nw_3, bx9000op0nw_3, fx9000op0nw_3⟩ := hp_opI hw.1 hp0nw 3 rfl
  refine lv_iload_n hx hb dX11_told_0 rfl (lv_at hl 1 rfl) ?_
  refine lv_iconst (v := (-1)) hx hb dX11_told_1 (by decide) ?_
  refine lv_icmp_ne (tgt := 15) hx hb dX11_told_2 (by decide) (fun c2 => ?_) (fun c2 => ?_)
  · refine lv_aload_n hx hb dX11_told_15 rfl (lv_at hl 0 rfl) ?_
    refine lv_iload_n hx hb dX11_told_16 rfl (lv_at hl 1 rfl) ?_
    refine lv_iload_n hx hb dX11_told_17 rfl (lv_at hl 2 rfl) ?_
    refine hp_callpi (va_runV (As := [.int xp1, .int xp2]) (rest := []) ⟨hx, hb, hml, hown, hts⟩ (sX11_isSpot l D T ap0 xp1 xp2 Ru hRu ap0tp ap0tr ap0rr ap0rl ap0nw ap0im ap0tl ap0sk ap0iq ap0pa ap0sn ap0be hp0 ip0tp ip0tr ip0rr hp0rl pxp0 ip0nw pimp0 hp0im ip0tl ip0sk ip0iq ip0pa ip0sn ip0be) (cwV 2 hts gX11_told_X11_isSpot rfl rfl rfl (by decide +kernel) ⟨Nat.le_of_ble_eq_true rfl, Nat.le_of_ble_eq_true rfl⟩) (hp_preV hG hw hp0 rfl trivial) rfl rfl hl.1 rfl (lv_room (Nat.le_of_ble_eq_true rfl)) dX11_told_18 ⟨Nat.zero_le _, Nat.zero_le _⟩) (fun x18 bx18 => ?_)
    have J48 : iv x9000op0nw_3 0 10 → ∀ (H : Heap) (locs : List Loc), hp_w D T s H locs → hp_f D H ap0nw 1 3 (.int x9000op0nw_3) → ∀ (ls : Array Slot), lv_has ls 4 [] → WX11_told p l e s m below meth c D T ap0 xp1 xp2 xp3 H locs (F0 m 48 ls []) := by
      intro c48_x9000op0nw_3 H48 locs48 hw f_p0nw_3 ls hl
      refine lv_bipush (v := (-2)) hx hb dX11_told_48 (by decide) ?_
      exact W.iret (v := (-2)) hx hb hr (fun t ht hW => ⟨some (.int (-2)), rfl, ⟨((-2) : Int32), rfl, trivial⟩, by rw [ht]; exact hw.1, hw.2.F ht⟩) hw.2.2.2 dX11_told_50
    refine lv_if_eq (tgt := 48) hx hb dX11_told_21 (by decide) (fun c21 => ?_) (fun c21 => ?_)
    · have r21tp : iv x18 0 0 := (iv_both bx18 (iv_eq (show iv 0 0 0 from ⟨by decide, by decide⟩) c21)).mono (by decide) (by decide)
      exact J48 bx9000op0nw_3 s.heap [] hw fx9000op0nw_3 _ (lv_sub hl [] rfl)
    · have r21fp : iv x18 1 1 := (iv_ne_lo c21 bx18 rfl).mono (by decide) (by decide)
      refine lv_iload_n hx hb dX11_told_24 rfl (lv_at hl 3 rfl) ?_
      refine lv_ldc (v := (-100000)) hx hb hown K253 dX11_told_25 ?_
      refine lv_icmp_lt (tgt := 48) hx hb dX11_told_27 (by decide) (fun c27 => ?_) (fun c27 => ?_)
      · have r27tp : iv xp3 (-2147483648) (-100001) := (iv_lt_l c27 (iv_any xp3) (show iv (-100000) (-100000) (-100000) from ⟨by decide, by decide⟩)).mono (by decide) (by decide)
        exact J48 bx9000op0nw_3 s.heap [] hw fx9000op0nw_3 _ (lv_sub hl [] rfl)
      · have r27fq : iv xp3 (-100000) 2147483647 := (iv_le_r (iv_nlt c27) (show iv (-100000) (-100000) (-100000) from ⟨by decide, by decide⟩) (iv_any xp3)).mono (by decide) (by decide)
        refine lv_iload_n hx hb dX11_told_30 rfl (lv_at hl 3 rfl) ?_
        refine lv_ldc (v := 100000) hx hb hown K254 dX11_told_31 ?_
        refine lv_icmp_gt (tgt := 48) hx hb dX11_told_33 (by decide) (fun c33 => ?_) (fun c33 => ?_)
        · have r33tq : iv xp3 100001 2147483647 := (iv_lt_r c33 (show iv 100000 100000 100000 from ⟨by decide, by decide⟩) r27fq).mono (by decide) (by decide)
          exact J48 bx9000op0nw_3 s.heap [] hw fx9000op0nw_3 _ (lv_sub hl [] rfl)
        · have r33fp : iv xp3 (-100000) 100000 := (iv_le_l (iv_nlt c33) r27fq (show iv 100000 100000 100000 from ⟨by decide, by decide⟩)).mono (by decide) (by decide)
          refine lv_aload_n hx hb dX11_told_36 rfl (lv_at hl 0 rfl) ?_
          refine hp_getr hx hb hts IX11 hown hK hw.1 hp0 rfl 5 (by decide) L45 rfl dX11_told_37 ?_
          refine hp_getf hx hb hts IX1 hown hK fx9000op0nw_3 rfl (by decide) L250 dX11_told_40 ?_
          refine lv_bipush (v := 10) hx hb dX11_told_43 (by decide) ?_
          refine lv_icmp_lt (tgt := 51) hx hb dX11_told_45 (by decide) (fun c45 => ?_) (fun c45 => ?_)
          · have r45tp : iv x9000op0nw_3 0 9 := (iv_lt_l c45 bx9000op0nw_3 (show iv 10 10 10 from ⟨by decide, by decide⟩)).mono (by decide) (by decide)
            refine lv_aload_n hx hb dX11_told_51 rfl (lv_at hl 0 rfl) ?_
            refine hp_getr hx hb hts IX11 hown hK hw.1 hp0 rfl 5 (by decide) L45 rfl dX11_told_52 ?_
            refine hp_getr hx hb hts IX1 hown hK hw.1 hp0nw rfl 4 (by decide) L255 rfl dX11_told_55 ?_
            refine lv_aload_n hx hb dX11_told_58 rfl (lv_at hl 0 rfl) ?_
            refine hp_getr hx hb hts IX11 hown hK hw.1 hp0 rfl 5 (by decide) L45 rfl dX11_told_59 ?_
            refine hp_getf hx hb hts IX1 hown hK fx9000op0nw_3 rfl (by decide) L250 dX11_told_62 ?_
            refine lv_iload_n hx hb dX11_told_65 rfl (lv_at hl 1 rfl) ?_
            refine hp_iast hx hb hK hw hp0nwtg (vp_iv r45tp (by decide)) ⟨_, rfl⟩ dX11_told_66 (fun H66 locs66 hw g66 => ?_)
            have f_p0nw_3 := g66 _ _ _ _ fx9000op0nw_3
            refine lv_aload_n hx hb dX11_told_67 rfl (lv_at hl 0 rfl) ?_
            refine hp_getr hx hb hts IX11 hown hK hw.1 hp0 rfl 5 (by decide) L45 rfl dX11_told_68 ?_
            refine hp_getr hx hb hts IX1 hown hK hw.1 hp0nw rfl 5 (by decide) L258 rfl dX11_told_71 ?_
            refine lv_aload_n hx hb dX11_told_74 rfl (lv_at hl 0 rfl) ?_
            refine hp_getr hx hb hts IX11 hown hK hw.1 hp0 rfl 5 (by decide) L45 rfl dX11_told_75 ?_
            refine hp_getf hx hb hts IX1 hown hK f_p0nw_3 rfl (by decide) L250 dX11_told_78 ?_
            refine lv_iload_n hx hb dX11_told_81 rfl (lv_at hl 2 rfl) ?_
            refine hp_iast hx hb hK hw hp0nwth (vp_iv r45tp (by decide)) ⟨_, rfl⟩ dX11_told_82 (fun H82 locs82 hw g82 => ?_)
            have f_p0nw_3 := g82 _ _ _ _ f_p0nw_3
            refine lv_aload_n hx hb dX11_told_83 rfl (lv_at hl 0 rfl) ?_
            refine hp_getr hx hb hts IX11 hown hK hw.1 hp0 rfl 5 (by decide) L45 rfl dX11_told_84 ?_
            refine hp_getr hx hb hts IX1 hown hK hw.1 hp0nw rfl 6 (by decide) L261 rfl dX11_told_87 ?_
            refine lv_aload_n hx hb dX11_told_90 rfl (lv_at hl 0 rfl) ?_
            refine hp_getr hx hb hts IX11 hown hK hw.1 hp0 rfl 5 (by decide) L45 rfl dX11_told_91 ?_
            refine hp_getf hx hb hts IX1 hown hK f_p0nw_3 rfl (by decide) L250 dX11_told_94 ?_
            refine lv_iload_n hx hb dX11_told_97 rfl (lv_at hl 3 rfl) ?_
            refine hp_iast hx hb hK hw hp0nwts (vp_iv r45tp (by decide)) ⟨_, rfl⟩ dX11_told_98 (fun H98 locs98 hw g98 => ?_)
            have f_p0nw_3 := g98 _ _ _ _ f_p0nw_3
            refine lv_aload_n hx hb dX11_told_99 rfl (lv_at hl 0 rfl) ?_
            refine hp_getr hx hb hts IX11 hown hK hw.1 hp0 rfl 5 (by decide) L45 rfl dX11_told_100 ?_
            refine lv_dup hx hb dX11_told_103 rfl ?_
            refine hp_getf hx hb hts IX1 hown hK f_p0nw_3 rfl (by decide) L250 dX11_told_104 ?_
            refine lv_iconst (v := 1) hx hb dX11_told_107 (by decide) ?_
            refine lv_iadd hx hb dX11_told_108 ?_
            refine lv_topi (fun x108 ex108 => ?_)
            have bx108 : iv x108 1 10 := iv_add r45tp (show iv 1 1 1 from ⟨by decide, by decide⟩) ex108 (by decide)
            have qx108 := iv_add_eq r45tp (show iv 1 1 1 from ⟨by decide, by decide⟩) ex108 (by decide)
            refine hp_put hx hb hts IX1 tyX1 tyX1_ok nmX1 hown hK hw hp0nw rfl 3 (by decide) L250 rfl rfl ⟨_, rfl, (bx108.mono (by decide) (by decide))⟩ rfl rfl dX11_told_109 (fun H109 locs109 hw f109n g109 => ?_)
            refine lv_aload_n hx hb dX11_told_112 rfl (lv_at hl 0 rfl) ?_
            refine hp_getr hx hb hts IX11 hown hK hw.1 hp0 rfl 5 (by decide) L45 rfl dX11_told_113 ?_
            refine hp_getf hx hb hts IX1 hown hK f109n rfl (by decide) L250 dX11_told_116 ?_
            exact W.iret (v := x108) hx hb hr (fun t ht hW => ⟨some (.int x108), rfl, ⟨x108, rfl, trivial⟩, by rw [ht]; exact hw.1, hw.2.F ht⟩) hw.2.2.2 dX11_told_119
          · have r45fq : iv x9000op0nw_3 10 10 := (iv_le_r (iv_nlt c45) (show iv 10 10 10 from ⟨by decide, by decide⟩) bx9000op0nw_3).mono (by decide) (by decide)
            exact J48 (r45fq.mono (by decide) (by decide)) s.heap [] hw fx9000op0nw_3 _ (lv_sub hl [] rfl)
  · have r2fp : iv xp1 (-1) (-1) := (iv_both (iv_any xp1) (iv_eq (show iv (-1) (-1) (-1) from ⟨by decide, by decide⟩) c2)).mono (by decide) (by decide)
    refine lv_aload_n hx hb dX11_told_5 rfl (lv_at hl 0 rfl) ?_
    refine hp_getr hx hb hts IX11 hown hK hw.1 hp0 rfl 5 (by decide) L45 rfl dX11_told_6 ?_
    refine lv_iconst (v := 0) hx hb dX11_told_9 (by decide) ?_
    refine hp_put hx hb hts IX1 tyX1 tyX1_ok nmX1 hown hK hw hp0nw rfl 3 (by decide) L250 rfl rfl ⟨_, rfl, (show iv 0 0 10 from ⟨by decide, by decide⟩)⟩ rfl rfl dX11_told_10 (fun H10 locs10 hw f10n g10 => ?_)
    refine lv_iconst (v := 0) hx hb dX11_told_13 (by decide) ?_
    exact W.iret (v := 0) hx hb hr (fun t ht hW => ⟨some (.int 0), rfl, ⟨(0 : Int32), rfl, trivial⟩, by rw [ht]; exact hw.1, hw.2.F ht⟩) hw.2.2.2 dX11_told_14
abbrev WX11_worlds (p : Program) (l : Launch) (e : Env) (s : State) (m : MethodId) (below : List Frame) (meth : Method) (c : Code) (D : hp_D) (T : hp_T) (ap0 : Nat) (xp1 : Int32) (H : Heap) (locs : List Loc) (g : JFrame) : Prop := W p l e (headSpec wsX11_worlds ({ frames := 7, cells := 0, slots := 0, locals := 181 })).room s m ([.ref ap0, .int xp1] : List Value).toArray below meth c H locs 0 0 (MQ below (hq_e D T (fun v _ _ => ∃ r : Int32, v = some (.int r) ∧ True)) ([.ref ap0, .int xp1] : List Value).toArray s 0 0 (hp_F T)) g
set_option maxHeartbeats 4000000 in
set_option maxRecDepth 100000 in
theorem sX11_worlds (l : Launch) (D : hp_D) (T : hp_T) (ap0 : Nat) (xp1 : Int32) (Ru : Nat → Prop) (hRu : ∀ b, Ru b → isRule T b) (ap0tp ap0tr ap0rr ap0rl ap0nw ap0im ap0tl ap0sk ap0iq ap0pa ap0sn ap0be : Nat) (hp0 : T ap0 = some (.inr (11, [(rR ap0tp), (rR ap0tr), (rR ap0rr), (rR ap0rl), (rI 0 6), (rR ap0nw), (rR ap0im), (rR ap0tl), (rR ap0sk), (rR ap0iq), (rR ap0pa), (rR ap0sn), (rR ap0be)]))) (ip0tp : isTape T ap0tp) (ip0tr : isTownReader T ap0tr) (ip0rr : isRuleReader T ap0rr) (hp0rl : T ap0rl = some (.inl (5, 6, fun _ => rN Ru))) (pxp0 : Value → Prop) (ip0nw : isMemory T ap0nw pxp0) (pimp0 : Nat → Value → Prop) (hp0im : T ap0im = some (.inl (4, 4, pimp0))) (ip0tl : isTown T ap0tl) (ip0sk : isShaker T Ru ap0sk) (ip0iq : isWorlds T ap0iq) (ip0pa : isParity T ap0pa) (ip0sn : isShuns T ap0sn) (ip0be : isBest T ap0be) : Met l yX11_worlds wsX11_worlds ({ frames := 7, cells := 0, slots := 0, locals := 181 }) (hp_Pc D T [.ref ap0, .int xp1] (fun _ => True)) (hq_e D T (fun v _ _ => ∃ r : Int32, v = some (.int r) ∧ True)) 0 0 (hp_F T) := by
  obtain ⟨ap0tpbt, hp0tp, hp0tpbt⟩ := id ip0tp
  obtain ⟨ap0trtp, ap0trtw, hp0tr, ip0trtp, ip0trtw⟩ := id ip0tr
  obtain ⟨ap0trtpbt, hp0trtp, hp0trtpbt⟩ := id ip0trtp
  obtain ⟨ap0trtwkin, ap0trtwpl, ap0trtwcr, hp0trtw, hp0trtwkin, hp0trtwpl, hp0trtwcr⟩ := id ip0trtw
  obtain ⟨ap0rrtp, ap0rrstp, hp0rr, ip0rrtp, hp0rrstp⟩ := id ip0rr
  obtain ⟨ap0rrtpbt, hp0rrtp, hp0rrtpbt⟩ := id ip0rrtp
  obtain ⟨ap0nwtw, ap0nwtg, ap0nwth, ap0nwts, ap0nwpm, ap0nwak, ap0nwao, ap0nwah, ap0nwaw, hp0nw, ip0nwtw, hp0nwtg, hp0nwth, hp0nwts, hp0nwpm, hp0nwak, hp0nwao, hp0nwah, hp0nwaw⟩ := id ip0nw
  obtain ⟨ap0nwtwkin, ap0nwtwpl, ap0nwtwcr, hp0nwtw, hp0nwtwkin, hp0nwtwpl, hp0nwtwcr⟩ := id ip0nwtw
  obtain ⟨ap0tlkin, ap0tlpl, ap0tlcr, hp0tl, hp0tlkin, hp0tlpl, hp0tlcr⟩ := id ip0tl
  obtain ⟨ap0skwd, ap0sksk, ap0skth, hp0sk, hp0skwd, hp0sksk, hp0skth⟩ := id ip0sk
  obtain ⟨ap0iqfi, ap0iqwo, ap0iqsu, ap0iqsh, ap0iqme, ap0iqs1, ap0iqs2, hp0iq, hp0iqfi, hp0iqwo, hp0iqsu, hp0iqsh, hp0iqme, hp0iqs1, hp0iqs2⟩ := id ip0iq
  obtain ⟨ap0pabo, hp0pa, hp0pabo⟩ := id ip0pa
  obtain ⟨ap0snle, ap0sngr, ap0sndu, ap0snit, ap0snop, hp0sn, hp0snle, hp0sngr, hp0sndu, hp0snit, hp0snop⟩ := id ip0sn
  have hp0be : T ap0be = some (.inr (0, [(rI 0 1), rA, rA, rA])) := ip0be
  refine Met.ofW (cc := cX11_worlds) (maxL := 2) (ret := (some .int)) (by decide) rfl ?_
  intro p e s m args below meth c s₁ B hml hv
  obtain ⟨rfl, hok, hG, hB⟩ := hv
  have hx := B.exec
  have hb := B.bytes
  have hr := B.returns
  have hts := atoms_spec (ws := wsX11_worlds) B.pre
  have hown : s.vm.findClass RX11 = some m.cls := findClass_of_methodNamed B.named
  have hlocks := B.notSynchronized
  have hK := hG.1
  have hw : hp_w D T s s.heap [] := hp_w.rf hok
  have IX10 : ∀ w ∈ wsX100, w ∈ wsX11_worlds := by decide +kernel
  have IX11 : ∀ w ∈ wsX110, w ∈ wsX11_worlds := by decide +kernel
  have L70 := hts (.fieldLink RX11 70 "PalmCensus" "inquiry" "LPalmCensus$Worlds;") (by decide +kernel)
  have L45 := hts (.fieldLink RX11 45 "PalmCensus" "now" "LPalmCensus$Memory;") (by decide +kernel)
  have L268 := hts (.fieldLink RX11 268 "PalmCensus$Worlds" "fitting" "I") (by decide +kernel)
  have L280 := hts (.fieldLink RX11 280 "PalmCensus$Worlds" "inNone" "I") (by decide +kernel)
  have L271 := hts (.fieldLink RX11 271 "PalmCensus$Worlds" "fewest" "I") (by decide +kernel)
  have L274 := hts (.fieldLink RX11 274 "PalmCensus$Worlds" "most" "I") (by decide +kernel)
  have L277 := hts (.fieldLink RX11 277 "PalmCensus$Worlds" "inEach" "I") (by decide +kernel)
  have hl := lv_entry ([.ref ap0, .int xp1]) (n := 2) (Nat.le_of_ble_eq_true rfl)
  rw [lg_entry_eq]
  generalize (lg_sl ([.ref ap0, .int xp1]) ++ List.replicate (2 - (lg_sl ([.ref ap0, .int xp1])).length) Slot.unset).toArray = ls at hl ⊢
  have hl : lv_has ls 2 [(0, .ref ap0), (1, .int xp1)] := hl
  show WX11_worlds p l e s m below meth c D T ap0 xp1 s.heap [] (F0 m 0 ls [])
  refine lv_iload_n hx hb dX11_worlds_0 rfl (lv_at hl 1 rfl) ?_
  have J16 : ∀ (H : Heap) (locs : List Loc), hp_w D T s H locs → ∀ (ls : Array Slot), lv_has ls 2 [] → WX11_worlds p l e s m below meth c D T ap0 xp1 H locs (F0 m 16 ls []) := by
    intro H16 locs16 hw ls hl
    refine lv_iconst (v := (-1)) hx hb dX11_worlds_16 (by decide) ?_
    exact W.iret (v := (-1)) hx hb hr (fun t ht hW => ⟨some (.int (-1)), rfl, ⟨((-1) : Int32), rfl, trivial⟩, by rw [ht]; exact hw.1, hw.2.F ht⟩) hw.2.2.2 dX11_worlds_17
  refine lv_if_lt (tgt := 16) hx hb dX11_worlds_1 (by decide) (fun c1 => ?_) (fun c1 => ?_)
  · have r1tp : iv xp1 (-2147483648) (-1) := (iv_lt_l c1 (iv_any xp1) (show iv 0 0 0 from ⟨by decide, by decide⟩)).mono (by decide) (by decide)
    exact J16 s.heap [] hw _ (lv_sub hl [] rfl)
  · have r1fq : iv xp1 0 2147483647 := (iv_le_r (iv_nlt c1) (show iv 0 0 0 from ⟨by decide, by decide⟩) (iv_any xp1)).mono (by decide) (by decide)
    refine lv_iload_n hx hb dX11_worlds_4 rfl (lv_at hl 1 rfl) ?_
    refine lv_iconst (v := 4) hx hb dX11_worlds_5 (by decide) ?_
    refine lv_icmp_gt (tgt := 16) hx hb dX11_worlds_6 (by decide) (fun c6 => ?_) (fun c6 => ?_)
    · have r6tq : iv xp1 5 2147483647 := (iv_lt_r c6 (show iv 4 4 4 from ⟨by decide, by decide⟩) r1fq).mono (by decide) (by decide)
      exact J16 s.heap [] hw _ (lv_sub hl [] rfl)
    · have r6fp : iv xp1 0 4 := (iv_le_l (iv_nlt c6) r1fq (show iv 4 4 4 from ⟨by decide, by decide⟩)).mono (by decide) (by decide)
      refine lv_aload_n hx hb dX11_worlds_9 rfl (lv_at hl 0 rfl) ?_
      refine hp_callpi (va_runV (As := []) (rest := []) ⟨hx, hb, hml, hown, hts⟩ (sX11_hasTown l D T ap0 Ru hRu ap0tp ap0tr ap0rr ap0rl ap0nw ap0im ap0tl ap0sk ap0iq ap0pa ap0sn ap0be hp0 ip0tp ip0tr ip0rr hp0rl pxp0 ip0nw pimp0 hp0im ip0tl ip0sk ip0iq ip0pa ip0sn ip0be) (cwV 0 hts gX11_worlds_X11_hasTown rfl rfl rfl (by decide +kernel) ⟨Nat.le_of_ble_eq_true rfl, Nat.le_of_ble_eq_true rfl⟩) (hp_preV hG hw hp0 rfl trivial) rfl rfl hl.1 rfl (lv_room (Nat.le_of_ble_eq_true rfl)) dX11_worlds_10 ⟨Nat.zero_le _, Nat.zero_le _⟩) (fun x10 bx10 => ?_)
      refine lv_if_ne (tgt := 18) hx hb dX11_worlds_13 (by decide) (fun c13 => ?_) (fun c13 => ?_)
      · have r13tp : iv x10 1 1 := (iv_ne_lo c13 bx10 rfl).mono (by decide) (by decide)
        refine lv_aload_n hx hb dX11_worlds_18 rfl (lv_at hl 0 rfl) ?_
        refine hp_getr hx hb hts IX11 hown hK hw.1 hp0 rfl 9 (by decide) L70 rfl dX11_worlds_19 ?_
        refine lv_aload_n hx hb dX11_worlds_22 rfl (lv_at hl 0 rfl) ?_
        refine hp_caller (va_runV (As := []) (rest := [.ref ap0iq]) ⟨hx, hb, hml, hown, hts⟩ (sX11_counting l D T ap0 Ru hRu ap0tp ap0tr ap0rr ap0rl ap0nw ap0im ap0tl ap0sk ap0iq ap0pa ap0sn ap0be hp0 ip0tp ip0tr ip0rr hp0rl pxp0 ip0nw pimp0 hp0im ip0tl ip0sk ip0iq ip0pa ip0sn ip0be) (cwV 0 hts gX11_worlds_X11_counting rfl rfl rfl (by decide +kernel) ⟨Nat.le_of_ble_eq_true rfl, Nat.le_of_ble_eq_true rfl⟩) (hp_preV hG hw hp0 rfl trivial) rfl rfl hl.1 rfl (lv_room (Nat.le_of_ble_eq_true rfl)) dX11_worlds_23 ⟨Nat.zero_le _, Nat.zero_le _⟩) hw (fun st23 t23 H23 locs23 eh23 eg23 hw => ?_)
        refine lv_aload_n hx hb dX11_worlds_26 rfl (lv_at hl 0 rfl) ?_
        refine hp_getr hx hb hts IX11 hown hK hw.1 hp0 rfl 5 (by decide) L45 rfl dX11_worlds_27 ?_
        refine hp_callev (va_runV (As := [.ref ap0sk, .ref ap0nw]) (rest := []) ⟨hx, hb, hml, hown, hts⟩ (sX10_findFitting l D T ap0iq ap0sk ap0nw Ru hRu ip0iq ip0sk pxp0 ip0nw) (cwV 2 hts gX11_worlds_X10_findFitting rfl rfl rfl (by decide +kernel) ⟨Nat.le_of_ble_eq_true rfl, Nat.le_of_ble_eq_true rfl⟩) (hp_preV hG hw hp0iq rfl trivial) rfl rfl hl.1 rfl (lv_room (Nat.le_of_ble_eq_true rfl)) dX11_worlds_30 ⟨Nat.zero_le _, Nat.zero_le _⟩) hw (fun st30 t30 H30 locs30 eh30 eg30 bx30 hw => ?_)
        refine lv_iload_n hx hb dX11_worlds_33 rfl (lv_at hl 1 rfl) ?_
        have i34 := r6fp
        unfold iv at i34
        rcases (show (xp1.toInt < 0 ∨ 3 < xp1.toInt) ∨ xp1.toInt = 0 ∨ xp1.toInt = 1 ∨ xp1.toInt = 2 ∨ xp1.toInt = 3 from by omega) with s34 | s34 | s34 | s34 | s34
        · refine lv_tableOut (tgt := 140) hx hb dX11_worlds_34 s34 (by decide) ?_
          have r34d : iv xp1 4 4 := ⟨by omega, by omega⟩
          refine lv_aload_n hx hb dX11_worlds_140 rfl (lv_at hl 0 rfl) ?_
          refine hp_getr hx hb hts IX11 hown hK hw.1 hp0 rfl 9 (by decide) L70 rfl dX11_worlds_141 ?_
          refine hp_getA hx hb hts IX10 hown hK hw.1 hp0iq rfl 0 (by decide) L268 rfl dX11_worlds_144 (fun x144 fx144 => ?_)
          have J161 : ∀ (y161_s0 : Int32), ∀ (H : Heap) (locs : List Loc), hp_w D T s H locs → ∀ (ls : Array Slot), lv_has ls 2 [] → WX11_worlds p l e s m below meth c D T ap0 xp1 H locs (F0 m 161 ls [.int y161_s0]) := by
            intro y161_s0 H161 locs161 hw ls hl
            exact W.iret (v := y161_s0) hx hb hr (fun t ht hW => ⟨some (.int y161_s0), rfl, ⟨y161_s0, rfl, trivial⟩, by rw [ht]; exact hw.1, hw.2.F ht⟩) hw.2.2.2 dX11_worlds_161
          refine lv_if_ne (tgt := 154) hx hb dX11_worlds_147 (by decide) (fun c147 => ?_) (fun c147 => ?_)
          · refine lv_aload_n hx hb dX11_worlds_154 rfl (lv_at hl 0 rfl) ?_
            refine hp_getr hx hb hts IX11 hown hK hw.1 hp0 rfl 9 (by decide) L70 rfl dX11_worlds_155 ?_
            refine hp_getA hx hb hts IX10 hown hK hw.1 hp0iq rfl 4 (by decide) L280 rfl dX11_worlds_158 (fun x158 fx158 => ?_)
            exact J161 x158 H30 locs30 hw _ (lv_sub hl [] rfl)
          · have r147fp : iv x144 0 0 := (iv_both (iv_any x144) (iv_eq (show iv 0 0 0 from ⟨by decide, by decide⟩) c147)).mono (by decide) (by decide)
            refine lv_iconst (v := 0) hx hb dX11_worlds_150 (by decide) ?_
            refine lv_goto (tgt := 161) hx hb dX11_worlds_151 (by decide) ?_
            exact J161 (0 : Int32) H30 locs30 hw _ (lv_sub hl [] rfl)
        · refine lv_tableIn (off := 30) (tgt := 64) hx hb dX11_worlds_34 (by omega) (by omega) (by rw [s34]; rfl) (by decide) ?_
          have r34k : iv xp1 0 0 := ⟨by omega, by omega⟩
          refine lv_aload_n hx hb dX11_worlds_64 rfl (lv_at hl 0 rfl) ?_
          refine hp_getr hx hb hts IX11 hown hK hw.1 hp0 rfl 9 (by decide) L70 rfl dX11_worlds_65 ?_
          refine hp_getA hx hb hts IX10 hown hK hw.1 hp0iq rfl 0 (by decide) L268 rfl dX11_worlds_68 (fun x68 fx68 => ?_)
          exact W.iret (v := x68) hx hb hr (fun t ht hW => ⟨some (.int x68), rfl, ⟨x68, rfl, trivial⟩, by rw [ht]; exact hw.1, hw.2.F ht⟩) hw.2.2.2 dX11_worlds_71
        · refine lv_tableIn (off := 38) (tgt := 72) hx hb dX11_worlds_34 (by omega) (by omega) (by rw [s34]; rfl) (by decide) ?_
          have r34k : iv xp1 1 1 := ⟨by omega, by omega⟩
          refine lv_aload_n hx hb dX11_worlds_72 rfl (lv_at hl 0 rfl) ?_
          refine hp_getr hx hb hts IX11 hown hK hw.1 hp0 rfl 9 (by decide) L70 rfl dX11_worlds_73 ?_
          refine hp_getA hx hb hts IX10 hown hK hw.1 hp0iq rfl 0 (by decide) L268 rfl dX11_worlds_76 (fun x76 fx76 => ?_)
          have J94 : ∀ (y94_s0 : Int32), ∀ (H : Heap) (locs : List Loc), hp_w D T s H locs → ∀ (ls : Array Slot), lv_has ls 2 [] → WX11_worlds p l e s m below meth c D T ap0 xp1 H locs (F0 m 94 ls [.int y94_s0]) := by
            intro y94_s0 H94 locs94 hw ls hl
            exact W.iret (v := y94_s0) hx hb hr (fun t ht hW => ⟨some (.int y94_s0), rfl, ⟨y94_s0, rfl, trivial⟩, by rw [ht]; exact hw.1, hw.2.F ht⟩) hw.2.2.2 dX11_worlds_94
          refine lv_if_ne (tgt := 87) hx hb dX11_worlds_79 (by decide) (fun c79 => ?_) (fun c79 => ?_)
          · refine lv_aload_n hx hb dX11_worlds_87 rfl (lv_at hl 0 rfl) ?_
            refine hp_getr hx hb hts IX11 hown hK hw.1 hp0 rfl 9 (by decide) L70 rfl dX11_worlds_88 ?_
            refine hp_getA hx hb hts IX10 hown hK hw.1 hp0iq rfl 1 (by decide) L271 rfl dX11_worlds_91 (fun x91 fx91 => ?_)
            exact J94 x91 H30 locs30 hw _ (lv_sub hl [] rfl)
          · have r79fp : iv x76 0 0 := (iv_both (iv_any x76) (iv_eq (show iv 0 0 0 from ⟨by decide, by decide⟩) c79)).mono (by decide) (by decide)
            refine lv_bipush (v := (-2)) hx hb dX11_worlds_82 (by decide) ?_
            refine lv_goto (tgt := 94) hx hb dX11_worlds_84 (by decide) ?_
            exact J94 ((-2) : Int32) H30 locs30 hw _ (lv_sub hl [] rfl)
        · refine lv_tableIn (off := 61) (tgt := 95) hx hb dX11_worlds_34 (by omega) (by omega) (by rw [s34]; rfl) (by decide) ?_
          have r34k : iv xp1 2 2 := ⟨by omega, by omega⟩
          refine lv_aload_n hx hb dX11_worlds_95 rfl (lv_at hl 0 rfl) ?_
          refine hp_getr hx hb hts IX11 hown hK hw.1 hp0 rfl 9 (by decide) L70 rfl dX11_worlds_96 ?_
          refine hp_getA hx hb hts IX10 hown hK hw.1 hp0iq rfl 0 (by decide) L268 rfl dX11_worlds_99 (fun x99 fx99 => ?_)
          have J117 : ∀ (y117_s0 : Int32), ∀ (H : Heap) (locs : List Loc), hp_w D T s H locs → ∀ (ls : Array Slot), lv_has ls 2 [] → WX11_worlds p l e s m below meth c D T ap0 xp1 H locs (F0 m 117 ls [.int y117_s0]) := by
            intro y117_s0 H117 locs117 hw ls hl
            exact W.iret (v := y117_s0) hx hb hr (fun t ht hW => ⟨some (.int y117_s0), rfl, ⟨y117_s0, rfl, trivial⟩, by rw [ht]; exact hw.1, hw.2.F ht⟩) hw.2.2.2 dX11_worlds_117
          refine lv_if_ne (tgt := 110) hx hb dX11_worlds_102 (by decide) (fun c102 => ?_) (fun c102 => ?_)
          · refine lv_aload_n hx hb dX11_worlds_110 rfl (lv_at hl 0 rfl) ?_
            refine hp_getr hx hb hts IX11 hown hK hw.1 hp0 rfl 9 (by decide) L70 rfl dX11_worlds_111 ?_
            refine hp_getA hx hb hts IX10 hown hK hw.1 hp0iq rfl 2 (by decide) L274 rfl dX11_worlds_114 (fun x114 fx114 => ?_)
            exact J117 x114 H30 locs30 hw _ (lv_sub hl [] rfl)
          · have r102fp : iv x99 0 0 := (iv_both (iv_any x99) (iv_eq (show iv 0 0 0 from ⟨by decide, by decide⟩) c102)).mono (by decide) (by decide)
            refine lv_bipush (v := (-2)) hx hb dX11_worlds_105 (by decide) ?_
            refine lv_goto (tgt := 117) hx hb dX11_worlds_107 (by decide) ?_
            exact J117 ((-2) : Int32) H30 locs30 hw _ (lv_sub hl [] rfl)
        · refine lv_tableIn (off := 84) (tgt := 118) hx hb dX11_worlds_34 (by omega) (by omega) (by rw [s34]; rfl) (by decide) ?_
          have r34k : iv xp1 3 3 := ⟨by omega, by omega⟩
          refine lv_aload_n hx hb dX11_worlds_118 rfl (lv_at hl 0 rfl) ?_
          refine hp_getr hx hb hts IX11 hown hK hw.1 hp0 rfl 9 (by decide) L70 rfl dX11_worlds_119 ?_
          refine hp_getA hx hb hts IX10 hown hK hw.1 hp0iq rfl 0 (by decide) L268 rfl dX11_worlds_122 (fun x122 fx122 => ?_)
          have J139 : ∀ (y139_s0 : Int32), ∀ (H : Heap) (locs : List Loc), hp_w D T s H locs → ∀ (ls : Array Slot), lv_has ls 2 [] → WX11_worlds p l e s m below meth c D T ap0 xp1 H locs (F0 m 139 ls [.int y139_s0]) := by
            intro y139_s0 H139 locs139 hw ls hl
            exact W.iret (v := y139_s0) hx hb hr (fun t ht hW => ⟨some (.int y139_s0), rfl, ⟨y139_s0, rfl, trivial⟩, by rw [ht]; exact hw.1, hw.2.F ht⟩) hw.2.2.2 dX11_worlds_139
          refine lv_if_ne (tgt := 132) hx hb dX11_worlds_125 (by decide) (fun c125 => ?_) (fun c125 => ?_)
          · refine lv_aload_n hx hb dX11_worlds_132 rfl (lv_at hl 0 rfl) ?_
            refine hp_getr hx hb hts IX11 hown hK hw.1 hp0 rfl 9 (by decide) L70 rfl dX11_worlds_133 ?_
            refine hp_getA hx hb hts IX10 hown hK hw.1 hp0iq rfl 3 (by decide) L277 rfl dX11_worlds_136 (fun x136 fx136 => ?_)
            exact J139 x136 H30 locs30 hw _ (lv_sub hl [] rfl)
          · have r125fp : iv x122 0 0 := (iv_both (iv_any x122) (iv_eq (show iv 0 0 0 from ⟨by decide, by decide⟩) c125)).mono (by decide) (by decide)
            refine lv_iconst (v := 0) hx hb dX11_worlds_128 (by decide) ?_
            refine lv_goto (tgt := 139) hx hb dX11_worlds_129 (by decide) ?_
            exact J139 (0 : Int32) H30 locs30 hw _ (lv_sub hl [] rfl)
      · have r13fp : iv x10 0 0 := (iv_both bx10 (iv_eq (show iv 0 0 0 from ⟨by decide, by decide⟩) c13)).mono (by decide) (by decide)
        exact J16 s.heap [] hw _ (lv_sub hl [] rfl)
abbrev WX11_ask (p : Program) (l : Launch) (e : Env) (s : State) (m : MethodId) (below : List Frame) (meth : Method) (c : Code) (D : hp_D) (T : hp_T) (ap0 : Nat) (xp1 : Int32) (H : Heap) (locs : List Loc) (g : JFrame) : Prop := W p l e (headSpec wsX11_ask ({ frames := 8, cells := 0, slots := 0, locals := 208 })).room s m ([.ref ap0, .int xp1] : List Value).toArray below meth c H locs 0 0 (MQ below (hq_e D T (fun v _ _ => ∃ r : Int32, v = some (.int r) ∧ True)) ([.ref ap0, .int xp1] : List Value).toArray s 0 0 (hp_F T)) g
set_option maxHeartbeats 4000000 in
set_option maxRecDepth 100000 in
theorem sX11_ask (l : Launch) (D : hp_D) (T : hp_T) (ap0 : Nat) (xp1 : Int32) (Ru : Nat → Prop) (hRu : ∀ b, Ru b → isRule T b) (ap0tp ap0tr ap0rr ap0rl ap0nw ap0im ap0tl ap0sk ap0iq ap0pa ap0sn ap0be : Nat) (hp0 : T ap0 = some (.inr (11, [(rR ap0tp), (rR ap0tr), (rR ap0rr), (rR ap0rl), (rI 0 6), (rR ap0nw), (rR ap0im), (rR ap0tl), (rR ap0sk), (rR ap0iq), (rR ap0pa), (rR ap0sn), (rR ap0be)]))) (ip0tp : isTape T ap0tp) (ip0tr : isTownReader T ap0tr) (ip0rr : isRuleReader T ap0rr) (hp0rl : T ap0rl = some (.inl (5, 6, fun _ => rN Ru))) (pxp0 : Value → Prop) (ip0nw : isMemory T ap0nw pxp0) (pimp0 : Nat → Value → Prop) (hp0im : T ap0im = some (.inl (4, 4, pimp0))) (ip0tl : isTown T ap0tl) (ip0sk : isShaker T Ru ap0sk) (ip0iq : isWorlds T ap0iq) (ip0pa : isParity T ap0pa) (ip0sn : isShuns T ap0sn) (ip0be : isBest T ap0be) : Met l yX11_ask wsX11_ask ({ frames := 8, cells := 0, slots := 0, locals := 208 }) (hp_Pc D T [.ref ap0, .int xp1] (fun _ => True)) (hq_e D T (fun v _ _ => ∃ r : Int32, v = some (.int r) ∧ True)) 0 0 (hp_F T) := by
  obtain ⟨ap0tpbt, hp0tp, hp0tpbt⟩ := id ip0tp
  obtain ⟨ap0trtp, ap0trtw, hp0tr, ip0trtp, ip0trtw⟩ := id ip0tr
  obtain ⟨ap0trtpbt, hp0trtp, hp0trtpbt⟩ := id ip0trtp
  obtain ⟨ap0trtwkin, ap0trtwpl, ap0trtwcr, hp0trtw, hp0trtwkin, hp0trtwpl, hp0trtwcr⟩ := id ip0trtw
  obtain ⟨ap0rrtp, ap0rrstp, hp0rr, ip0rrtp, hp0rrstp⟩ := id ip0rr
  obtain ⟨ap0rrtpbt, hp0rrtp, hp0rrtpbt⟩ := id ip0rrtp
  obtain ⟨ap0nwtw, ap0nwtg, ap0nwth, ap0nwts, ap0nwpm, ap0nwak, ap0nwao, ap0nwah, ap0nwaw, hp0nw, ip0nwtw, hp0nwtg, hp0nwth, hp0nwts, hp0nwpm, hp0nwak, hp0nwao, hp0nwah, hp0nwaw⟩ := id ip0nw
  obtain ⟨ap0nwtwkin, ap0nwtwpl, ap0nwtwcr, hp0nwtw, hp0nwtwkin, hp0nwtwpl, hp0nwtwcr⟩ := id ip0nwtw
  obtain ⟨ap0tlkin, ap0tlpl, ap0tlcr, hp0tl, hp0tlkin, hp0tlpl, hp0tlcr⟩ := id ip0tl
  obtain ⟨ap0skwd, ap0sksk, ap0skth, hp0sk, hp0skwd, hp0sksk, hp0skth⟩ := id ip0sk
  obtain ⟨ap0iqfi, ap0iqwo, ap0iqsu, ap0iqsh, ap0iqme, ap0iqs1, ap0iqs2, hp0iq, hp0iqfi, hp0iqwo, hp0iqsu, hp0iqsh, hp0iqme, hp0iqs1, hp0iqs2⟩ := id ip0iq
  obtain ⟨ap0pabo, hp0pa, hp0pabo⟩ := id ip0pa
  obtain ⟨ap0snle, ap0sngr, ap0sndu, ap0snit, ap0snop, hp0sn, hp0snle, hp0sngr, hp0sndu, hp0snit, hp0snop⟩ := id ip0sn
  have hp0be : T ap0be = some (.inr (0, [(rI 0 1), rA, rA, rA])) := ip0be
  refine Met.ofW (cc := cX11_ask) (maxL := 2) (ret := (some .int)) (by decide) rfl ?_
  intro p e s m args below meth c s₁ B hml hv
  obtain ⟨rfl, hok, hG, hB⟩ := hv
  have hx := B.exec
  have hb := B.bytes
  have hr := B.returns
  have hts := atoms_spec (ws := wsX11_ask) B.pre
  have hown : s.vm.findClass RX11 = some m.cls := findClass_of_methodNamed B.named
  have hlocks := B.notSynchronized
  have hK := hG.1
  have hw : hp_w D T s s.heap [] := hp_w.rf hok
  have IX0 : ∀ w ∈ wsX00, w ∈ wsX11_ask := by decide +kernel
  have IX1 : ∀ w ∈ wsX10, w ∈ wsX11_ask := by decide +kernel
  have IX10 : ∀ w ∈ wsX100, w ∈ wsX11_ask := by decide +kernel
  have IX11 : ∀ w ∈ wsX110, w ∈ wsX11_ask := by decide +kernel
  have L70 := hts (.fieldLink RX11 70 "PalmCensus" "inquiry" "LPalmCensus$Worlds;") (by decide +kernel)
  have L45 := hts (.fieldLink RX11 45 "PalmCensus" "now" "LPalmCensus$Memory;") (by decide +kernel)
  have L268 := hts (.fieldLink RX11 268 "PalmCensus$Worlds" "fitting" "I") (by decide +kernel)
  have L116 := hts (.fieldLink RX11 116 "PalmCensus$Memory" "town" "LPalmCensus$Town;") (by decide +kernel)
  have L91 := hts (.fieldLink RX11 91 "PalmCensus" "best" "LPalmCensus$Best;") (by decide +kernel)
  have L287 := hts (.fieldLink RX11 287 "PalmCensus$Best" "value" "I") (by decide +kernel)
  have L222 := hts (.fieldLink RX11 222 "PalmCensus$Best" "place" "I") (by decide +kernel)
  have L225 := hts (.fieldLink RX11 225 "PalmCensus$Best" "hour" "I") (by decide +kernel)
  have hl := lv_entry ([.ref ap0, .int xp1]) (n := 2) (Nat.le_of_ble_eq_true rfl)
  rw [lg_entry_eq]
  generalize (lg_sl ([.ref ap0, .int xp1]) ++ List.replicate (2 - (lg_sl ([.ref ap0, .int xp1])).length) Slot.unset).toArray = ls at hl ⊢
  have hl : lv_has ls 2 [(0, .ref ap0), (1, .int xp1)] := hl
  show WX11_ask p l e s m below meth c D T ap0 xp1 s.heap [] (F0 m 0 ls [])
  refine lv_iload_n hx hb dX11_ask_0 rfl (lv_at hl 1 rfl) ?_
  have J16 : ∀ (H : Heap) (locs : List Loc), hp_w D T s H locs → ∀ (ls : Array Slot), lv_has ls 2 [] → WX11_ask p l e s m below meth c D T ap0 xp1 H locs (F0 m 16 ls []) := by
    intro H16 locs16 hw ls hl
    refine lv_iconst (v := (-1)) hx hb dX11_ask_16 (by decide) ?_
    exact W.iret (v := (-1)) hx hb hr (fun t ht hW => ⟨some (.int (-1)), rfl, ⟨((-1) : Int32), rfl, trivial⟩, by rw [ht]; exact hw.1, hw.2.F ht⟩) hw.2.2.2 dX11_ask_17
  refine lv_if_lt (tgt := 16) hx hb dX11_ask_1 (by decide) (fun c1 => ?_) (fun c1 => ?_)
  · have r1tp : iv xp1 (-2147483648) (-1) := (iv_lt_l c1 (iv_any xp1) (show iv 0 0 0 from ⟨by decide, by decide⟩)).mono (by decide) (by decide)
    exact J16 s.heap [] hw _ (lv_sub hl [] rfl)
  · have r1fq : iv xp1 0 2147483647 := (iv_le_r (iv_nlt c1) (show iv 0 0 0 from ⟨by decide, by decide⟩) (iv_any xp1)).mono (by decide) (by decide)
    refine lv_iload_n hx hb dX11_ask_4 rfl (lv_at hl 1 rfl) ?_
    refine lv_iconst (v := 2) hx hb dX11_ask_5 (by decide) ?_
    refine lv_icmp_gt (tgt := 16) hx hb dX11_ask_6 (by decide) (fun c6 => ?_) (fun c6 => ?_)
    · have r6tq : iv xp1 3 2147483647 := (iv_lt_r c6 (show iv 2 2 2 from ⟨by decide, by decide⟩) r1fq).mono (by decide) (by decide)
      exact J16 s.heap [] hw _ (lv_sub hl [] rfl)
    · have r6fp : iv xp1 0 2 := (iv_le_l (iv_nlt c6) r1fq (show iv 2 2 2 from ⟨by decide, by decide⟩)).mono (by decide) (by decide)
      refine lv_aload_n hx hb dX11_ask_9 rfl (lv_at hl 0 rfl) ?_
      refine hp_callpi (va_runV (As := []) (rest := []) ⟨hx, hb, hml, hown, hts⟩ (sX11_hasTown l D T ap0 Ru hRu ap0tp ap0tr ap0rr ap0rl ap0nw ap0im ap0tl ap0sk ap0iq ap0pa ap0sn ap0be hp0 ip0tp ip0tr ip0rr hp0rl pxp0 ip0nw pimp0 hp0im ip0tl ip0sk ip0iq ip0pa ip0sn ip0be) (cwV 0 hts gX11_ask_X11_hasTown rfl rfl rfl (by decide +kernel) ⟨Nat.le_of_ble_eq_true rfl, Nat.le_of_ble_eq_true rfl⟩) (hp_preV hG hw hp0 rfl trivial) rfl rfl hl.1 rfl (lv_room (Nat.le_of_ble_eq_true rfl)) dX11_ask_10 ⟨Nat.zero_le _, Nat.zero_le _⟩) (fun x10 bx10 => ?_)
      refine lv_if_ne (tgt := 18) hx hb dX11_ask_13 (by decide) (fun c13 => ?_) (fun c13 => ?_)
      · have r13tp : iv x10 1 1 := (iv_ne_lo c13 bx10 rfl).mono (by decide) (by decide)
        refine lv_aload_n hx hb dX11_ask_18 rfl (lv_at hl 0 rfl) ?_
        refine hp_getr hx hb hts IX11 hown hK hw.1 hp0 rfl 9 (by decide) L70 rfl dX11_ask_19 ?_
        refine lv_aload_n hx hb dX11_ask_22 rfl (lv_at hl 0 rfl) ?_
        refine hp_caller (va_runV (As := []) (rest := [.ref ap0iq]) ⟨hx, hb, hml, hown, hts⟩ (sX11_counting l D T ap0 Ru hRu ap0tp ap0tr ap0rr ap0rl ap0nw ap0im ap0tl ap0sk ap0iq ap0pa ap0sn ap0be hp0 ip0tp ip0tr ip0rr hp0rl pxp0 ip0nw pimp0 hp0im ip0tl ip0sk ip0iq ip0pa ip0sn ip0be) (cwV 0 hts gX11_ask_X11_counting rfl rfl rfl (by decide +kernel) ⟨Nat.le_of_ble_eq_true rfl, Nat.le_of_ble_eq_true rfl⟩) (hp_preV hG hw hp0 rfl trivial) rfl rfl hl.1 rfl (lv_room (Nat.le_of_ble_eq_true rfl)) dX11_ask_23 ⟨Nat.zero_le _, Nat.zero_le _⟩) hw (fun st23 t23 H23 locs23 eh23 eg23 hw => ?_)
        refine lv_aload_n hx hb dX11_ask_26 rfl (lv_at hl 0 rfl) ?_
        refine hp_getr hx hb hts IX11 hown hK hw.1 hp0 rfl 5 (by decide) L45 rfl dX11_ask_27 ?_
        refine hp_callev (va_runV (As := [.ref ap0sk, .ref ap0nw]) (rest := []) ⟨hx, hb, hml, hown, hts⟩ (sX10_findFitting l D T ap0iq ap0sk ap0nw Ru hRu ip0iq ip0sk pxp0 ip0nw) (cwV 2 hts gX11_ask_X10_findFitting rfl rfl rfl (by decide +kernel) ⟨Nat.le_of_ble_eq_true rfl, Nat.le_of_ble_eq_true rfl⟩) (hp_preV hG hw hp0iq rfl trivial) rfl rfl hl.1 rfl (lv_room (Nat.le_of_ble_eq_true rfl)) dX11_ask_30 ⟨Nat.zero_le _, Nat.zero_le _⟩) hw (fun st30 t30 H30 locs30 eh30 eg30 bx30 hw => ?_)
        refine lv_aload_n hx hb dX11_ask_33 rfl (lv_at hl 0 rfl) ?_
        refine hp_getr hx hb hts IX11 hown hK hw.1 hp0 rfl 9 (by decide) L70 rfl dX11_ask_34 ?_
        refine hp_getA hx hb hts IX10 hown hK hw.1 hp0iq rfl 0 (by decide) L268 rfl dX11_ask_37 (fun x37 fx37 => ?_)
        refine lv_if_ne (tgt := 46) hx hb dX11_ask_40 (by decide) (fun c40 => ?_) (fun c40 => ?_)
        · refine lv_aload_n hx hb dX11_ask_46 rfl (lv_at hl 0 rfl) ?_
          refine hp_getr hx hb hts IX11 hown hK hw.1 hp0 rfl 9 (by decide) L70 rfl dX11_ask_47 ?_
          refine lv_aload_n hx hb dX11_ask_50 rfl (lv_at hl 0 rfl) ?_
          refine hp_caller (va_runV (As := []) (rest := [.ref ap0iq]) ⟨hx, hb, hml, hown, hts⟩ (sX11_counting l D T ap0 Ru hRu ap0tp ap0tr ap0rr ap0rl ap0nw ap0im ap0tl ap0sk ap0iq ap0pa ap0sn ap0be hp0 ip0tp ip0tr ip0rr hp0rl pxp0 ip0nw pimp0 hp0im ip0tl ip0sk ip0iq ip0pa ip0sn ip0be) (cwV 0 hts gX11_ask_X11_counting rfl rfl rfl (by decide +kernel) ⟨Nat.le_of_ble_eq_true rfl, Nat.le_of_ble_eq_true rfl⟩) (hp_preV hG hw hp0 rfl trivial) rfl rfl hl.1 rfl (lv_room (Nat.le_of_ble_eq_true rfl)) dX11_ask_51 ⟨Nat.zero_le _, Nat.zero_le _⟩) hw (fun st51 t51 H51 locs51 eh51 eg51 hw => ?_)
          refine lv_aload_n hx hb dX11_ask_54 rfl (lv_at hl 0 rfl) ?_
          refine hp_getr hx hb hts IX11 hown hK hw.1 hp0 rfl 5 (by decide) L45 rfl dX11_ask_55 ?_
          refine hp_getr hx hb hts IX1 hown hK hw.1 hp0nw rfl 0 (by decide) L116 rfl dX11_ask_58 ?_
          refine lv_aload_n hx hb dX11_ask_61 rfl (lv_at hl 0 rfl) ?_
          refine hp_getr hx hb hts IX11 hown hK hw.1 hp0 rfl 12 (by decide) L91 rfl dX11_ask_62 ?_
          refine hp_callev (va_runV (As := [.ref ap0sk, .ref ap0nwtw, .ref ap0be]) (rest := []) ⟨hx, hb, hml, hown, hts⟩ (sX10_findQuestion l D T ap0iq ap0sk ap0nwtw ap0be Ru hRu ip0iq ip0sk ip0nwtw ip0be) (cwV 3 hts gX11_ask_X10_findQuestion rfl rfl rfl (by decide +kernel) ⟨Nat.le_of_ble_eq_true rfl, Nat.le_of_ble_eq_true rfl⟩) (hp_preV hG hw hp0iq rfl trivial) rfl rfl hl.1 rfl (lv_room (Nat.le_of_ble_eq_true rfl)) dX11_ask_65 ⟨Nat.zero_le _, Nat.zero_le _⟩) hw (fun st65 t65 H65 locs65 eh65 eg65 bx65 hw => ?_)
          refine lv_iload_n hx hb dX11_ask_68 rfl (lv_at hl 1 rfl) ?_
          have i69 := r6fp
          unfold iv at i69
          rcases (show (xp1.toInt ≠ 0 ∧ xp1.toInt ≠ 1) ∨ xp1.toInt = 0 ∨ xp1.toInt = 1 from by omega) with s69 | s69 | s69
          · refine lv_lookup (off := 43) (tgt := 112) hx hb dX11_ask_69 (by decide) (by obtain ⟨a0, a1⟩ := s69; simp [Op.lookupswitch.offset, Ne.symm a0, Ne.symm a1]) (by decide) ?_
            have r69d : iv xp1 2 2 := ⟨by omega, by omega⟩
            refine lv_aload_n hx hb dX11_ask_112 rfl (lv_at hl 0 rfl) ?_
            refine hp_getr hx hb hts IX11 hown hK hw.1 hp0 rfl 12 (by decide) L91 rfl dX11_ask_113 ?_
            refine hp_getA hx hb hts IX0 hown hK hw.1 hp0be rfl 1 (by decide) L287 rfl dX11_ask_116 (fun x116 fx116 => ?_)
            refine lv_ineg hx hb dX11_ask_119 ?_
            refine lv_topi (fun x119 ex119 => ?_)
            exact W.iret (v := x119) hx hb hr (fun t ht hW => ⟨some (.int x119), rfl, ⟨x119, rfl, trivial⟩, by rw [ht]; exact hw.1, hw.2.F ht⟩) hw.2.2.2 dX11_ask_120
          · refine lv_lookup (off := 27) (tgt := 96) hx hb dX11_ask_69 (by decide) (by rw [s69]; rfl) (by decide) ?_
            have r69k : iv xp1 0 0 := ⟨by omega, by omega⟩
            refine lv_aload_n hx hb dX11_ask_96 rfl (lv_at hl 0 rfl) ?_
            refine hp_getr hx hb hts IX11 hown hK hw.1 hp0 rfl 12 (by decide) L91 rfl dX11_ask_97 ?_
            refine hp_getA hx hb hts IX0 hown hK hw.1 hp0be rfl 3 (by decide) L222 rfl dX11_ask_100 (fun x100 fx100 => ?_)
            exact W.iret (v := x100) hx hb hr (fun t ht hW => ⟨some (.int x100), rfl, ⟨x100, rfl, trivial⟩, by rw [ht]; exact hw.1, hw.2.F ht⟩) hw.2.2.2 dX11_ask_103
          · refine lv_lookup (off := 35) (tgt := 104) hx hb dX11_ask_69 (by decide) (by rw [s69]; rfl) (by decide) ?_
            have r69k : iv xp1 1 1 := ⟨by omega, by omega⟩
            refine lv_aload_n hx hb dX11_ask_104 rfl (lv_at hl 0 rfl) ?_
            refine hp_getr hx hb hts IX11 hown hK hw.1 hp0 rfl 12 (by decide) L91 rfl dX11_ask_105 ?_
            refine hp_getA hx hb hts IX0 hown hK hw.1 hp0be rfl 2 (by decide) L225 rfl dX11_ask_108 (fun x108 fx108 => ?_)
            exact W.iret (v := x108) hx hb hr (fun t ht hW => ⟨some (.int x108), rfl, ⟨x108, rfl, trivial⟩, by rw [ht]; exact hw.1, hw.2.F ht⟩) hw.2.2.2 dX11_ask_111
        · have r40fp : iv x37 0 0 := (iv_both (iv_any x37) (iv_eq (show iv 0 0 0 from ⟨by decide, by decide⟩) c40)).mono (by decide) (by decide)
          refine lv_bipush (v := (-2)) hx hb dX11_ask_43 (by decide) ?_
          exact W.iret (v := (-2)) hx hb hr (fun t ht hW => ⟨some (.int (-2)), rfl, ⟨((-2) : Int32), rfl, trivial⟩, by rw [ht]; exact hw.1, hw.2.F ht⟩) hw.2.2.2 dX11_ask_45
      · have r13fp : iv x10 0 0 := (iv_both bx10 (iv_eq (show iv 0 0 0 from ⟨by decide, by decide⟩) c13)).mono (by decide) (by decide)
        exact J16 s.heap [] hw _ (lv_sub hl [] rfl)
abbrev WX11_gates (p : Program) (l : Launch) (e : Env) (s : State) (m : MethodId) (below : List Frame) (meth : Method) (c : Code) (D : hp_D) (T : hp_T) (ap0 : Nat) (xp1 : Int32) (H : Heap) (locs : List Loc) (g : JFrame) : Prop := W p l e (headSpec wsX11_gates ({ frames := 1, cells := 0, slots := 0, locals := 20 })).room s m ([.ref ap0, .int xp1] : List Value).toArray below meth c H locs 0 0 (MQ below (hq_p (fun v => ∃ r : Int32, v = some (.int r) ∧ True)) ([.ref ap0, .int xp1] : List Value).toArray s 0 0 (fun _ => False)) g
set_option maxHeartbeats 4000000 in
set_option maxRecDepth 100000 in
theorem sX11_gates (l : Launch) (D : hp_D) (T : hp_T) (ap0 : Nat) (xp1 : Int32) (Ru : Nat → Prop) (hRu : ∀ b, Ru b → isRule T b) (ap0tp ap0tr ap0rr ap0rl ap0nw ap0im ap0tl ap0sk ap0iq ap0pa ap0sn ap0be : Nat) (hp0 : T ap0 = some (.inr (11, [(rR ap0tp), (rR ap0tr), (rR ap0rr), (rR ap0rl), (rI 0 6), (rR ap0nw), (rR ap0im), (rR ap0tl), (rR ap0sk), (rR ap0iq), (rR ap0pa), (rR ap0sn), (rR ap0be)]))) (ip0tp : isTape T ap0tp) (ip0tr : isTownReader T ap0tr) (ip0rr : isRuleReader T ap0rr) (hp0rl : T ap0rl = some (.inl (5, 6, fun _ => rN Ru))) (pxp0 : Value → Prop) (ip0nw : isMemory T ap0nw pxp0) (pimp0 : Nat → Value → Prop) (hp0im : T ap0im = some (.inl (4, 4, pimp0))) (ip0tl : isTown T ap0tl) (ip0sk : isShaker T Ru ap0sk) (ip0iq : isWorlds T ap0iq) (ip0pa : isParity T ap0pa) (ip0sn : isShuns T ap0sn) (ip0be : isBest T ap0be) : Met l yX11_gates wsX11_gates ({ frames := 1, cells := 0, slots := 0, locals := 20 }) (hp_Pc D T [.ref ap0, .int xp1] (fun _ => True)) (hq_p (fun v => ∃ r : Int32, v = some (.int r) ∧ True)) 0 0 (fun _ => False) := by
  obtain ⟨ap0tpbt, hp0tp, hp0tpbt⟩ := id ip0tp
  obtain ⟨ap0trtp, ap0trtw, hp0tr, ip0trtp, ip0trtw⟩ := id ip0tr
  obtain ⟨ap0trtpbt, hp0trtp, hp0trtpbt⟩ := id ip0trtp
  obtain ⟨ap0trtwkin, ap0trtwpl, ap0trtwcr, hp0trtw, hp0trtwkin, hp0trtwpl, hp0trtwcr⟩ := id ip0trtw
  obtain ⟨ap0rrtp, ap0rrstp, hp0rr, ip0rrtp, hp0rrstp⟩ := id ip0rr
  obtain ⟨ap0rrtpbt, hp0rrtp, hp0rrtpbt⟩ := id ip0rrtp
  obtain ⟨ap0nwtw, ap0nwtg, ap0nwth, ap0nwts, ap0nwpm, ap0nwak, ap0nwao, ap0nwah, ap0nwaw, hp0nw, ip0nwtw, hp0nwtg, hp0nwth, hp0nwts, hp0nwpm, hp0nwak, hp0nwao, hp0nwah, hp0nwaw⟩ := id ip0nw
  obtain ⟨ap0nwtwkin, ap0nwtwpl, ap0nwtwcr, hp0nwtw, hp0nwtwkin, hp0nwtwpl, hp0nwtwcr⟩ := id ip0nwtw
  obtain ⟨ap0tlkin, ap0tlpl, ap0tlcr, hp0tl, hp0tlkin, hp0tlpl, hp0tlcr⟩ := id ip0tl
  obtain ⟨ap0skwd, ap0sksk, ap0skth, hp0sk, hp0skwd, hp0sksk, hp0skth⟩ := id ip0sk
  obtain ⟨ap0iqfi, ap0iqwo, ap0iqsu, ap0iqsh, ap0iqme, ap0iqs1, ap0iqs2, hp0iq, hp0iqfi, hp0iqwo, hp0iqsu, hp0iqsh, hp0iqme, hp0iqs1, hp0iqs2⟩ := id ip0iq
  obtain ⟨ap0pabo, hp0pa, hp0pabo⟩ := id ip0pa
  obtain ⟨ap0snle, ap0sngr, ap0sndu, ap0snit, ap0snop, hp0sn, hp0snle, hp0sngr, hp0sndu, hp0snit, hp0snop⟩ := id ip0sn
  have hp0be : T ap0be = some (.inr (0, [(rI 0 1), rA, rA, rA])) := ip0be
  refine Met.ofW (cc := cX11_gates) (maxL := 2) (ret := (some .int)) (by decide) rfl ?_
  intro p e s m args below meth c s₁ B hml hv
  obtain ⟨rfl, hok, hG, hB⟩ := hv
  have hx := B.exec
  have hb := B.bytes
  have hr := B.returns
  have hts := atoms_spec (ws := wsX11_gates) B.pre
  have hown : s.vm.findClass RX11 = some m.cls := findClass_of_methodNamed B.named
  have hlocks := B.notSynchronized
  have hK := hG.1
  have hw : hp_w D T s s.heap [] := hp_w.rf hok
  have IX1 : ∀ w ∈ wsX10, w ∈ wsX11_gates := by decide +kernel
  have IX11 : ∀ w ∈ wsX110, w ∈ wsX11_gates := by decide +kernel
  have IX8 : ∀ w ∈ wsX80, w ∈ wsX11_gates := by decide +kernel
  have L45 := hts (.fieldLink RX11 45 "PalmCensus" "now" "LPalmCensus$Memory;") (by decide +kernel)
  have L116 := hts (.fieldLink RX11 116 "PalmCensus$Memory" "town" "LPalmCensus$Town;") (by decide +kernel)
  have L117 := hts (.fieldLink RX11 117 "PalmCensus$Town" "people" "I") (by decide +kernel)
  have hl := lv_entry ([.ref ap0, .int xp1]) (n := 2) (Nat.le_of_ble_eq_true rfl)
  rw [lg_entry_eq]
  generalize (lg_sl ([.ref ap0, .int xp1]) ++ List.replicate (2 - (lg_sl ([.ref ap0, .int xp1])).length) Slot.unset).toArray = ls at hl ⊢
  have hl : lv_has ls 2 [(0, .ref ap0), (1, .int xp1)] := hl
  show WX11_gates p l e s m below meth c D T ap0 xp1 s.heap [] (F0 m 0 ls [])
  refine lv_iload_n hx hb dX11_gates_0 rfl (lv_at hl 1 rfl) ?_
  have J16 : ∀ (ls : Array Slot), lv_has ls 2 [] → WX11_gates p l e s m below meth c D T ap0 xp1 s.heap [] (F0 m 16 ls []) := by
    intro ls hl
    refine lv_iconst (v := (-1)) hx hb dX11_gates_16 (by decide) ?_
    exact W.iret (v := (-1)) hx hb hr (fun t ht hW => ⟨some (.int (-1)), rfl, ⟨((-1) : Int32), rfl, trivial⟩, ht⟩) (fun q h => by cases h) dX11_gates_17
  refine lv_if_lt (tgt := 16) hx hb dX11_gates_1 (by decide) (fun c1 => ?_) (fun c1 => ?_)
  · have r1tp : iv xp1 (-2147483648) (-1) := (iv_lt_l c1 (iv_any xp1) (show iv 0 0 0 from ⟨by decide, by decide⟩)).mono (by decide) (by decide)
    exact J16 _ (lv_sub hl [] rfl)
  · have r1fq : iv xp1 0 2147483647 := (iv_le_r (iv_nlt c1) (show iv 0 0 0 from ⟨by decide, by decide⟩) (iv_any xp1)).mono (by decide) (by decide)
    refine lv_iload_n hx hb dX11_gates_4 rfl (lv_at hl 1 rfl) ?_
    refine lv_iconst (v := 1) hx hb dX11_gates_5 (by decide) ?_
    refine lv_icmp_gt (tgt := 16) hx hb dX11_gates_6 (by decide) (fun c6 => ?_) (fun c6 => ?_)
    · have r6tq : iv xp1 2 2147483647 := (iv_lt_r c6 (show iv 1 1 1 from ⟨by decide, by decide⟩) r1fq).mono (by decide) (by decide)
      exact J16 _ (lv_sub hl [] rfl)
    · have r6fp : iv xp1 0 1 := (iv_le_l (iv_nlt c6) r1fq (show iv 1 1 1 from ⟨by decide, by decide⟩)).mono (by decide) (by decide)
      refine lv_aload_n hx hb dX11_gates_9 rfl (lv_at hl 0 rfl) ?_
      refine hp_callpi (va_runV (As := []) (rest := []) ⟨hx, hb, hml, hown, hts⟩ (sX11_hasTown l D T ap0 Ru hRu ap0tp ap0tr ap0rr ap0rl ap0nw ap0im ap0tl ap0sk ap0iq ap0pa ap0sn ap0be hp0 ip0tp ip0tr ip0rr hp0rl pxp0 ip0nw pimp0 hp0im ip0tl ip0sk ip0iq ip0pa ip0sn ip0be) (cwV 0 hts gX11_gates_X11_hasTown rfl rfl rfl (by decide +kernel) ⟨Nat.le_of_ble_eq_true rfl, Nat.le_of_ble_eq_true rfl⟩) (hp_preV hG hw hp0 rfl trivial) rfl rfl hl.1 rfl (lv_room (Nat.le_of_ble_eq_true rfl)) dX11_gates_10 ⟨Nat.zero_le _, Nat.zero_le _⟩) (fun x10 bx10 => ?_)
      refine lv_if_ne (tgt := 18) hx hb dX11_gates_13 (by decide) (fun c13 => ?_) (fun c13 => ?_)
      · have r13tp : iv x10 1 1 := (iv_ne_lo c13 bx10 rfl).mono (by decide) (by decide)
        refine lv_aload_n hx hb dX11_gates_18 rfl (lv_at hl 0 rfl) ?_
        refine hp_getr hx hb hts IX11 hown hK hw.1 hp0 rfl 5 (by decide) L45 rfl dX11_gates_19 ?_
        refine hp_getr hx hb hts IX1 hown hK hw.1 hp0nw rfl 0 (by decide) L116 rfl dX11_gates_22 ?_
        refine hp_geti hx hb hts IX8 hown hK hw.1 hp0nwtw rfl 2 (by decide) L117 rfl dX11_gates_25 (fun x25 bx25 fx25 => ?_)
        refine lv_bipush (v := 8) hx hb dX11_gates_28 (by decide) ?_
        refine lv_icmp_le (tgt := 36) hx hb dX11_gates_30 (by decide) (fun c30 => ?_) (fun c30 => ?_)
        · have r30tp : iv x25 0 8 := (iv_le_l c30 bx25 (show iv 8 8 8 from ⟨by decide, by decide⟩)).mono (by decide) (by decide)
          refine lv_aload_n hx hb dX11_gates_36 rfl (lv_at hl 0 rfl) ?_
          refine hp_getr hx hb hts IX11 hown hK hw.1 hp0 rfl 5 (by decide) L45 rfl dX11_gates_37 ?_
          refine hp_getr hx hb hts IX1 hown hK hw.1 hp0nw rfl 0 (by decide) L116 rfl dX11_gates_40 ?_
          refine hp_getf hx hb hts IX8 hown hK fx25 rfl (by decide) L117 dX11_gates_43 ?_
          have J55 : ∀ (y55_s0 : Int32), iv y55_s0 (-2) 0 → iv x25 0 8 → ∀ (ls : Array Slot), lv_has ls 2 [] → WX11_gates p l e s m below meth c D T ap0 xp1 s.heap [] (F0 m 55 ls [.int y55_s0]) := by
            intro y55_s0 c55_y55_s0 c55_x25 ls hl
            exact W.iret (v := y55_s0) hx hb hr (fun t ht hW => ⟨some (.int y55_s0), rfl, ⟨y55_s0, rfl, trivial⟩, ht⟩) (fun q h => by cases h) dX11_gates_55
          refine lv_if_ne (tgt := 53) hx hb dX11_gates_46 (by decide) (fun c46 => ?_) (fun c46 => ?_)
          · have r46tp : iv x25 1 8 := (iv_ne_lo c46 r30tp rfl).mono (by decide) (by decide)
            refine lv_bipush (v := (-2)) hx hb dX11_gates_53 (by decide) ?_
            exact J55 ((-2) : Int32) (show iv (-2) (-2) 0 from ⟨by decide, by decide⟩) (r46tp.mono (by decide) (by decide)) _ (lv_sub hl [] rfl)
          · have r46fp : iv x25 0 0 := (iv_both r30tp (iv_eq (show iv 0 0 0 from ⟨by decide, by decide⟩) c46)).mono (by decide) (by decide)
            refine lv_iconst (v := 0) hx hb dX11_gates_49 (by decide) ?_
            refine lv_goto (tgt := 55) hx hb dX11_gates_50 (by decide) ?_
            exact J55 (0 : Int32) (show iv 0 (-2) 0 from ⟨by decide, by decide⟩) (r46fp.mono (by decide) (by decide)) _ (lv_sub hl [] rfl)
        · have r30fq : iv x25 9 10 := (iv_lt_r (iv_nle c30) (show iv 8 8 8 from ⟨by decide, by decide⟩) bx25).mono (by decide) (by decide)
          refine lv_bipush (v := (-3)) hx hb dX11_gates_33 (by decide) ?_
          exact W.iret (v := (-3)) hx hb hr (fun t ht hW => ⟨some (.int (-3)), rfl, ⟨((-3) : Int32), rfl, trivial⟩, ht⟩) (fun q h => by cases h) dX11_gates_35
      · have r13fp : iv x10 0 0 := (iv_both bx10 (iv_eq (show iv 0 0 0 from ⟨by decide, by decide⟩) c13)).mono (by decide) (by decide)
        exact J16 _ (lv_sub hl [] rfl)
abbrev WX11_cheat (p : Program) (l : Launch) (e : Env) (s : State) (m : MethodId) (below : List Frame) (meth : Method) (c : Code) (D : hp_D) (T : hp_T) (ap0 : Nat) (xp1 : Int32) (xp2 : Int32) (H : Heap) (locs : List Loc) (g : JFrame) : Prop := W p l e (headSpec wsX11_cheat ({ frames := 8, cells := 0, slots := 0, locals := 212 })).room s m ([.ref ap0, .int xp1, .int xp2] : List Value).toArray below meth c H locs 0 0 (MQ below (hq_e D T (fun v _ _ => ∃ r : Int32, v = some (.int r) ∧ True)) ([.ref ap0, .int xp1, .int xp2] : List Value).toArray s 0 0 (hp_F T)) g
set_option maxHeartbeats 4000000 in
set_option maxRecDepth 100000 in
theorem sX11_cheat (l : Launch) (D : hp_D) (T : hp_T) (ap0 : Nat) (xp1 : Int32) (xp2 : Int32) (Ru : Nat → Prop) (hRu : ∀ b, Ru b → isRule T b) (ap0tp ap0tr ap0rr ap0rl ap0nw ap0im ap0tl ap0sk ap0iq ap0pa ap0sn ap0be : Nat) (hp0 : T ap0 = some (.inr (11, [(rR ap0tp), (rR ap0tr), (rR ap0rr), (rR ap0rl), (rI 0 6), (rR ap0nw), (rR ap0im), (rR ap0tl), (rR ap0sk), (rR ap0iq), (rR ap0pa), (rR ap0sn), (rR ap0be)]))) (ip0tp : isTape T ap0tp) (ip0tr : isTownReader T ap0tr) (ip0rr : isRuleReader T ap0rr) (hp0rl : T ap0rl = some (.inl (5, 6, fun _ => rN Ru))) (pxp0 : Value → Prop) (ip0nw : isMemory T ap0nw pxp0) (pimp0 : Nat → Value → Prop) (hp0im : T ap0im = some (.inl (4, 4, pimp0))) (ip0tl : isTown T ap0tl) (ip0sk : isShaker T Ru ap0sk) (ip0iq : isWorlds T ap0iq) (ip0pa : isParity T ap0pa) (ip0sn : isShuns T ap0sn) (ip0be : isBest T ap0be) : Met l yX11_cheat wsX11_cheat ({ frames := 8, cells := 0, slots := 0, locals := 212 }) (hp_Pc D T [.ref ap0, .int xp1, .int xp2] (fun _ => True)) (hq_e D T (fun v _ _ => ∃ r : Int32, v = some (.int r) ∧ True)) 0 0 (hp_F T) := by
  obtain ⟨ap0tpbt, hp0tp, hp0tpbt⟩ := id ip0tp
  obtain ⟨ap0trtp, ap0trtw, hp0tr, ip0trtp, ip0trtw⟩ := id ip0tr
  obtain ⟨ap0trtpbt, hp0trtp, hp0trtpbt⟩ := id ip0trtp
  obtain ⟨ap0trtwkin, ap0trtwpl, ap0trtwcr, hp0trtw, hp0trtwkin, hp0trtwpl, hp0trtwcr⟩ := id ip0trtw
  obtain ⟨ap0rrtp, ap0rrstp, hp0rr, ip0rrtp, hp0rrstp⟩ := id ip0rr
  obtain ⟨ap0rrtpbt, hp0rrtp, hp0rrtpbt⟩ := id ip0rrtp
  obtain ⟨ap0nwtw, ap0nwtg, ap0nwth, ap0nwts, ap0nwpm, ap0nwak, ap0nwao, ap0nwah, ap0nwaw, hp0nw, ip0nwtw, hp0nwtg, hp0nwth, hp0nwts, hp0nwpm, hp0nwak, hp0nwao, hp0nwah, hp0nwaw⟩ := id ip0nw
  obtain ⟨ap0nwtwkin, ap0nwtwpl, ap0nwtwcr, hp0nwtw, hp0nwtwkin, hp0nwtwpl, hp0nwtwcr⟩ := id ip0nwtw
  obtain ⟨ap0tlkin, ap0tlpl, ap0tlcr, hp0tl, hp0tlkin, hp0tlpl, hp0tlcr⟩ := id ip0tl
  obtain ⟨ap0skwd, ap0sksk, ap0skth, hp0sk, hp0skwd, hp0sksk, hp0skth⟩ := id ip0sk
  obtain ⟨ap0iqfi, ap0iqwo, ap0iqsu, ap0iqsh, ap0iqme, ap0iqs1, ap0iqs2, hp0iq, hp0iqfi, hp0iqwo, hp0iqsu, hp0iqsh, hp0iqme, hp0iqs1, hp0iqs2⟩ := id ip0iq
  obtain ⟨ap0pabo, hp0pa, hp0pabo⟩ := id ip0pa
  obtain ⟨ap0snle, ap0sngr, ap0sndu, ap0snit, ap0snop, hp0sn, hp0snle, hp0sngr, hp0sndu, hp0snit, hp0snop⟩ := id ip0sn
  have hp0be : T ap0be = some (.inr (0, [(rI 0 1), rA, rA, rA])) := ip0be
  refine Met.ofW (cc := cX11_cheat) (maxL := 3) (ret := (some .int)) (by decide) rfl ?_
  intro p e s m args below meth c s₁ B hml hv
  obtain ⟨rfl, hok, hG, hB⟩ := hv
  have hx := B.exec
  have hb := B.bytes
  have hr := B.returns
  have hts := atoms_spec (ws := wsX11_cheat) B.pre
  have hown : s.vm.findClass RX11 = some m.cls := findClass_of_methodNamed B.named
  have hlocks := B.notSynchronized
  have hK := hG.1
  have hw : hp_w D T s s.heap [] := hp_w.rf hok
  have IX0 : ∀ w ∈ wsX00, w ∈ wsX11_cheat := by decide +kernel
  have IX1 : ∀ w ∈ wsX10, w ∈ wsX11_cheat := by decide +kernel
  have IX11 : ∀ w ∈ wsX110, w ∈ wsX11_cheat := by decide +kernel
  have L45 := hts (.fieldLink RX11 45 "PalmCensus" "now" "LPalmCensus$Memory;") (by decide +kernel)
  have L116 := hts (.fieldLink RX11 116 "PalmCensus$Memory" "town" "LPalmCensus$Town;") (by decide +kernel)
  have K194 := hts (.constant RX11 194 (-1000000)) (by decide +kernel)
  have L56 := hts (.fieldLink RX11 56 "PalmCensus" "trial" "LPalmCensus$Town;") (by decide +kernel)
  have L91 := hts (.fieldLink RX11 91 "PalmCensus" "best" "LPalmCensus$Best;") (by decide +kernel)
  have L222 := hts (.fieldLink RX11 222 "PalmCensus$Best" "place" "I") (by decide +kernel)
  have L287 := hts (.fieldLink RX11 287 "PalmCensus$Best" "value" "I") (by decide +kernel)
  have L225 := hts (.fieldLink RX11 225 "PalmCensus$Best" "hour" "I") (by decide +kernel)
  have hl := lv_entry ([.ref ap0, .int xp1, .int xp2]) (n := 3) (Nat.le_of_ble_eq_true rfl)
  rw [lg_entry_eq]
  generalize (lg_sl ([.ref ap0, .int xp1, .int xp2]) ++ List.replicate (3 - (lg_sl ([.ref ap0, .int xp1, .int xp2])).length) Slot.unset).toArray = ls at hl ⊢
  have hl : lv_has ls 3 [(0, .ref ap0), (1, .int xp1), (2, .int xp2)] := hl
  show WX11_cheat p l e s m below meth c D T ap0 xp1 xp2 s.heap [] (F0 m 0 ls [])
  refine lv_aload_n hx hb dX11_cheat_0 rfl (lv_at hl 0 rfl) ?_
  refine hp_getr hx hb hts IX11 hown hK hw.1 hp0 rfl 5 (by decide) L45 rfl dX11_cheat_1 ?_
  refine hp_getr hx hb hts IX1 hown hK hw.1 hp0nw rfl 0 (by decide) L116 rfl dX11_cheat_4 ?_
  refine lv_iload_n hx hb dX11_cheat_7 rfl (lv_at hl 1 rfl) ?_
  refine hp_callpi (va_runV (As := [.int xp1]) (rest := []) ⟨hx, hb, hml, hown, hts⟩ (sX8_isPerson l D T ap0nwtw xp1 ip0nwtw) (cwV 1 hts gX11_cheat_X8_isPerson rfl rfl rfl (by decide +kernel) ⟨Nat.le_of_ble_eq_true rfl, Nat.le_of_ble_eq_true rfl⟩) (hp_preV hG hw hp0nwtw rfl trivial) rfl rfl hl.1 rfl (lv_room (Nat.le_of_ble_eq_true rfl)) dX11_cheat_8 ⟨Nat.zero_le _, Nat.zero_le _⟩) (fun x8 bx8 => ?_)
  obtain ⟨bx8, ix8_0⟩ := bx8
  have J23 : ∀ (H : Heap) (locs : List Loc), hp_w D T s H locs → ∀ (ls : Array Slot), lv_has ls 3 [] → WX11_cheat p l e s m below meth c D T ap0 xp1 xp2 H locs (F0 m 23 ls []) := by
    intro H23 locs23 hw ls hl
    refine lv_ldc (v := (-1000000)) hx hb hown K194 dX11_cheat_23 ?_
    exact W.iret (v := (-1000000)) hx hb hr (fun t ht hW => ⟨some (.int (-1000000)), rfl, ⟨((-1000000) : Int32), rfl, trivial⟩, by rw [ht]; exact hw.1, hw.2.F ht⟩) hw.2.2.2 dX11_cheat_25
  refine lv_if_eq (tgt := 23) hx hb dX11_cheat_11 (by decide) (fun c11 => ?_) (fun c11 => ?_)
  · have r11tp : iv x8 0 0 := (iv_both bx8 (iv_eq (show iv 0 0 0 from ⟨by decide, by decide⟩) c11)).mono (by decide) (by decide)
    exact J23 s.heap [] hw _ (lv_sub hl [] rfl)
  · have r11fp : iv x8 1 1 := (iv_ne_lo c11 bx8 rfl).mono (by decide) (by decide)
    have r11fpz : iv xp1 0 9 := (iv_both (iv_any xp1) (ix8_0 (iv_ne0 r11fp (by decide)))).mono (by decide) (by decide)
    refine lv_iload_n hx hb dX11_cheat_14 rfl (lv_at hl 2 rfl) ?_
    refine lv_if_lt (tgt := 23) hx hb dX11_cheat_15 (by decide) (fun c15 => ?_) (fun c15 => ?_)
    · have r15tp : iv xp2 (-2147483648) (-1) := (iv_lt_l c15 (iv_any xp2) (show iv 0 0 0 from ⟨by decide, by decide⟩)).mono (by decide) (by decide)
      exact J23 s.heap [] hw _ (lv_sub hl [] rfl)
    · have r15fq : iv xp2 0 2147483647 := (iv_le_r (iv_nlt c15) (show iv 0 0 0 from ⟨by decide, by decide⟩) (iv_any xp2)).mono (by decide) (by decide)
      refine lv_iload_n hx hb dX11_cheat_18 rfl (lv_at hl 2 rfl) ?_
      refine lv_iconst (v := 2) hx hb dX11_cheat_19 (by decide) ?_
      refine lv_icmp_le (tgt := 26) hx hb dX11_cheat_20 (by decide) (fun c20 => ?_) (fun c20 => ?_)
      · have r20tp : iv xp2 0 2 := (iv_le_l c20 r15fq (show iv 2 2 2 from ⟨by decide, by decide⟩)).mono (by decide) (by decide)
        refine lv_aload_n hx hb dX11_cheat_26 rfl (lv_at hl 0 rfl) ?_
        refine hp_getr hx hb hts IX11 hown hK hw.1 hp0 rfl 7 (by decide) L56 rfl dX11_cheat_27 ?_
        refine lv_aload_n hx hb dX11_cheat_30 rfl (lv_at hl 0 rfl) ?_
        refine hp_getr hx hb hts IX11 hown hK hw.1 hp0 rfl 5 (by decide) L45 rfl dX11_cheat_31 ?_
        refine hp_getr hx hb hts IX1 hown hK hw.1 hp0nw rfl 0 (by decide) L116 rfl dX11_cheat_34 ?_
        refine hp_callev (va_runV (As := [.ref ap0nwtw]) (rest := []) ⟨hx, hb, hml, hown, hts⟩ (sX8_copyFrom l D T ap0tl ap0nwtw ip0tl ip0nwtw) (cwV 1 hts gX11_cheat_X8_copyFrom rfl rfl rfl (by decide +kernel) ⟨Nat.le_of_ble_eq_true rfl, Nat.le_of_ble_eq_true rfl⟩) (hp_preV hG hw hp0tl rfl trivial) rfl rfl hl.1 rfl (lv_room (Nat.le_of_ble_eq_true rfl)) dX11_cheat_37 ⟨Nat.zero_le _, Nat.zero_le _⟩) hw (fun st37 t37 H37 locs37 eh37 eg37 bx37 hw => ?_)
        refine lv_aload_n hx hb dX11_cheat_40 rfl (lv_at hl 0 rfl) ?_
        refine hp_caller (va_runV (As := []) (rest := []) ⟨hx, hb, hml, hown, hts⟩ (sX11_counting l D T ap0 Ru hRu ap0tp ap0tr ap0rr ap0rl ap0nw ap0im ap0tl ap0sk ap0iq ap0pa ap0sn ap0be hp0 ip0tp ip0tr ip0rr hp0rl pxp0 ip0nw pimp0 hp0im ip0tl ip0sk ip0iq ip0pa ip0sn ip0be) (cwV 0 hts gX11_cheat_X11_counting rfl rfl rfl (by decide +kernel) ⟨Nat.le_of_ble_eq_true rfl, Nat.le_of_ble_eq_true rfl⟩) (hp_preV hG hw hp0 rfl trivial) rfl rfl hl.1 rfl (lv_room (Nat.le_of_ble_eq_true rfl)) dX11_cheat_41 ⟨Nat.zero_le _, Nat.zero_le _⟩) hw (fun st41 t41 H41 locs41 eh41 eg41 hw => ?_)
        refine lv_aload_n hx hb dX11_cheat_44 rfl (lv_at hl 0 rfl) ?_
        refine hp_getr hx hb hts IX11 hown hK hw.1 hp0 rfl 7 (by decide) L56 rfl dX11_cheat_45 ?_
        refine lv_iload_n hx hb dX11_cheat_48 rfl (lv_at hl 1 rfl) ?_
        refine lv_aload_n hx hb dX11_cheat_49 rfl (lv_at hl 0 rfl) ?_
        refine hp_getr hx hb hts IX11 hown hK hw.1 hp0 rfl 12 (by decide) L91 rfl dX11_cheat_50 ?_
        refine hp_callev (va_runV (As := [.ref ap0tl, .int xp1, .ref ap0be]) (rest := []) ⟨hx, hb, hml, hown, hts⟩ (sX5_findCheat l D T ap0sk ap0tl xp1 ap0be Ru hRu ip0sk ip0tl ip0be) (cwV 3 hts gX11_cheat_X5_findCheat rfl rfl rfl (by decide +kernel) ⟨Nat.le_of_ble_eq_true rfl, Nat.le_of_ble_eq_true rfl⟩) (hp_preV hG hw hp0sk rfl trivial) rfl rfl hl.1 rfl (lv_room (Nat.le_of_ble_eq_true rfl)) dX11_cheat_53 ⟨Nat.zero_le _, Nat.zero_le _⟩) hw (fun st53 t53 H53 locs53 eh53 eg53 bx53 hw => ?_)
        refine lv_iload_n hx hb dX11_cheat_56 rfl (lv_at hl 2 rfl) ?_
        have i57 := r20tp
        unfold iv at i57
        rcases (show (xp2.toInt ≠ 0 ∧ xp2.toInt ≠ 1) ∨ xp2.toInt = 0 ∨ xp2.toInt = 1 from by omega) with s57 | s57 | s57
        · refine lv_lookup (off := 43) (tgt := 100) hx hb dX11_cheat_57 (by decide) (by obtain ⟨a0, a1⟩ := s57; simp [Op.lookupswitch.offset, Ne.symm a0, Ne.symm a1]) (by decide) ?_
          have r57d : iv xp2 2 2 := ⟨by omega, by omega⟩
          refine lv_aload_n hx hb dX11_cheat_100 rfl (lv_at hl 0 rfl) ?_
          refine hp_getr hx hb hts IX11 hown hK hw.1 hp0 rfl 12 (by decide) L91 rfl dX11_cheat_101 ?_
          refine hp_getA hx hb hts IX0 hown hK hw.1 hp0be rfl 3 (by decide) L222 rfl dX11_cheat_104 (fun x104 fx104 => ?_)
          exact W.iret (v := x104) hx hb hr (fun t ht hW => ⟨some (.int x104), rfl, ⟨x104, rfl, trivial⟩, by rw [ht]; exact hw.1, hw.2.F ht⟩) hw.2.2.2 dX11_cheat_107
        · refine lv_lookup (off := 27) (tgt := 84) hx hb dX11_cheat_57 (by decide) (by rw [s57]; rfl) (by decide) ?_
          have r57k : iv xp2 0 0 := ⟨by omega, by omega⟩
          refine lv_aload_n hx hb dX11_cheat_84 rfl (lv_at hl 0 rfl) ?_
          refine hp_getr hx hb hts IX11 hown hK hw.1 hp0 rfl 12 (by decide) L91 rfl dX11_cheat_85 ?_
          refine hp_getA hx hb hts IX0 hown hK hw.1 hp0be rfl 1 (by decide) L287 rfl dX11_cheat_88 (fun x88 fx88 => ?_)
          exact W.iret (v := x88) hx hb hr (fun t ht hW => ⟨some (.int x88), rfl, ⟨x88, rfl, trivial⟩, by rw [ht]; exact hw.1, hw.2.F ht⟩) hw.2.2.2 dX11_cheat_91
        · refine lv_lookup (off := 35) (tgt := 92) hx hb dX11_cheat_57 (by decide) (by rw [s57]; rfl) (by decide) ?_
          have r57k : iv xp2 1 1 := ⟨by omega, by omega⟩
          refine lv_aload_n hx hb dX11_cheat_92 rfl (lv_at hl 0 rfl) ?_
          refine hp_getr hx hb hts IX11 hown hK hw.1 hp0 rfl 12 (by decide) L91 rfl dX11_cheat_93 ?_
          refine hp_getA hx hb hts IX0 hown hK hw.1 hp0be rfl 2 (by decide) L225 rfl dX11_cheat_96 (fun x96 fx96 => ?_)
          exact W.iret (v := x96) hx hb hr (fun t ht hW => ⟨some (.int x96), rfl, ⟨x96, rfl, trivial⟩, by rw [ht]; exact hw.1, hw.2.F ht⟩) hw.2.2.2 dX11_cheat_99
      · have r20fq : iv xp2 3 2147483647 := (iv_lt_r (iv_nle c20) (show iv 2 2 2 from ⟨by decide, by decide⟩) r15fq).mono (by decide) (by decide)
        exact J23 s.heap [] hw _ (lv_sub hl [] rfl)
abbrev WX11_odd (p : Program) (l : Launch) (e : Env) (s : State) (m : MethodId) (below : List Frame) (meth : Method) (c : Code) (D : hp_D) (T : hp_T) (ap0 : Nat) (xp1 : Int32) (H : Heap) (locs : List Loc) (g : JFrame) : Prop := W p l e (headSpec wsX11_odd ({ frames := 8, cells := 0, slots := 0, locals := 200 })).room s m ([.ref ap0, .int xp1] : List Value).toArray below meth c H locs 0 0 (MQ below (hq_e D T (fun v _ _ => ∃ r : Int32, v = some (.int r) ∧ True)) ([.ref ap0, .int xp1] : List Value).toArray s 0 0 (hp_F T)) g
set_option maxHeartbeats 4000000 in
set_option maxRecDepth 100000 in
theorem sX11_odd (l : Launch) (D : hp_D) (T : hp_T) (ap0 : Nat) (xp1 : Int32) (Ru : Nat → Prop) (hRu : ∀ b, Ru b → isRule T b) (ap0tp ap0tr ap0rr ap0rl ap0nw ap0im ap0tl ap0sk ap0iq ap0pa ap0sn ap0be : Nat) (hp0 : T ap0 = some (.inr (11, [(rR ap0tp), (rR ap0tr), (rR ap0rr), (rR ap0rl), (rI 0 6), (rR ap0nw), (rR ap0im), (rR ap0tl), (rR ap0sk), (rR ap0iq), (rR ap0pa), (rR ap0sn), (rR ap0be)]))) (ip0tp : isTape T ap0tp) (ip0tr : isTownReader T ap0tr) (ip0rr : isRuleReader T ap0rr) (hp0rl : T ap0rl = some (.inl (5, 6, fun _ => rN Ru))) (pxp0 : Value → Prop) (ip0nw : isMemory T ap0nw pxp0) (pimp0 : Nat → Value → Prop) (hp0im : T ap0im = some (.inl (4, 4, pimp0))) (ip0tl : isTown T ap0tl) (ip0sk : isShaker T Ru ap0sk) (ip0iq : isWorlds T ap0iq) (ip0pa : isParity T ap0pa) (ip0sn : isShuns T ap0sn) (ip0be : isBest T ap0be) : Met l yX11_odd wsX11_odd ({ frames := 8, cells := 0, slots := 0, locals := 200 }) (hp_Pc D T [.ref ap0, .int xp1] (fun _ => True)) (hq_e D T (fun v _ _ => ∃ r : Int32, v = some (.int r) ∧ True)) 0 0 (hp_F T) := by
  obtain ⟨ap0tpbt, hp0tp, hp0tpbt⟩ := id ip0tp
  obtain ⟨ap0trtp, ap0trtw, hp0tr, ip0trtp, ip0trtw⟩ := id ip0tr
  obtain ⟨ap0trtpbt, hp0trtp, hp0trtpbt⟩ := id ip0trtp
  obtain ⟨ap0trtwkin, ap0trtwpl, ap0trtwcr, hp0trtw, hp0trtwkin, hp0trtwpl, hp0trtwcr⟩ := id ip0trtw
  obtain ⟨ap0rrtp, ap0rrstp, hp0rr, ip0rrtp, hp0rrstp⟩ := id ip0rr
  obtain ⟨ap0rrtpbt, hp0rrtp, hp0rrtpbt⟩ := id ip0rrtp
  obtain ⟨ap0nwtw, ap0nwtg, ap0nwth, ap0nwts, ap0nwpm, ap0nwak, ap0nwao, ap0nwah, ap0nwaw, hp0nw, ip0nwtw, hp0nwtg, hp0nwth, hp0nwts, hp0nwpm, hp0nwak, hp0nwao, hp0nwah, hp0nwaw⟩ := id ip0nw
  obtain ⟨ap0nwtwkin, ap0nwtwpl, ap0nwtwcr, hp0nwtw, hp0nwtwkin, hp0nwtwpl, hp0nwtwcr⟩ := id ip0nwtw
  obtain ⟨ap0tlkin, ap0tlpl, ap0tlcr, hp0tl, hp0tlkin, hp0tlpl, hp0tlcr⟩ := id ip0tl
  obtain ⟨ap0skwd, ap0sksk, ap0skth, hp0sk, hp0skwd, hp0sksk, hp0skth⟩ := id ip0sk
  obtain ⟨ap0iqfi, ap0iqwo, ap0iqsu, ap0iqsh, ap0iqme, ap0iqs1, ap0iqs2, hp0iq, hp0iqfi, hp0iqwo, hp0iqsu, hp0iqsh, hp0iqme, hp0iqs1, hp0iqs2⟩ := id ip0iq
  obtain ⟨ap0pabo, hp0pa, hp0pabo⟩ := id ip0pa
  obtain ⟨ap0snle, ap0sngr, ap0sndu, ap0snit, ap0snop, hp0sn, hp0snle, hp0sngr, hp0sndu, hp0snit, hp0snop⟩ := id ip0sn
  have hp0be : T ap0be = some (.inr (0, [(rI 0 1), rA, rA, rA])) := ip0be
  refine Met.ofW (cc := cX11_odd) (maxL := 3) (ret := (some .int)) (by decide) rfl ?_
  intro p e s m args below meth c s₁ B hml hv
  obtain ⟨rfl, hok, hG, hB⟩ := hv
  have hx := B.exec
  have hb := B.bytes
  have hr := B.returns
  have hts := atoms_spec (ws := wsX11_odd) B.pre
  have hown : s.vm.findClass RX11 = some m.cls := findClass_of_methodNamed B.named
  have hlocks := B.notSynchronized
  have hK := hG.1
  have hw : hp_w D T s s.heap [] := hp_w.rf hok
  have IX1 : ∀ w ∈ wsX10, w ∈ wsX11_odd := by decide +kernel
  have IX11 : ∀ w ∈ wsX110, w ∈ wsX11_odd := by decide +kernel
  have IX8 : ∀ w ∈ wsX80, w ∈ wsX11_odd := by decide +kernel
  have L56 := hts (.fieldLink RX11 56 "PalmCensus" "trial" "LPalmCensus$Town;") (by decide +kernel)
  have L45 := hts (.fieldLink RX11 45 "PalmCensus" "now" "LPalmCensus$Memory;") (by decide +kernel)
  have L116 := hts (.fieldLink RX11 116 "PalmCensus$Memory" "town" "LPalmCensus$Town;") (by decide +kernel)
  have L77 := hts (.fieldLink RX11 77 "PalmCensus" "parity" "LPalmCensus$Parity;") (by decide +kernel)
  have L117 := hts (.fieldLink RX11 117 "PalmCensus$Town" "people" "I") (by decide +kernel)
  have L144 := hts (.fieldLink RX11 144 "PalmCensus$Town" "gloved" "I") (by decide +kernel)
  have hl := lv_entry ([.ref ap0, .int xp1]) (n := 3) (Nat.le_of_ble_eq_true rfl)
  rw [lg_entry_eq]
  generalize (lg_sl ([.ref ap0, .int xp1]) ++ List.replicate (3 - (lg_sl ([.ref ap0, .int xp1])).length) Slot.unset).toArray = ls at hl ⊢
  have hl : lv_has ls 3 [(0, .ref ap0), (1, .int xp1)] := hl
  show WX11_odd p l e s m below meth c D T ap0 xp1 s.heap [] (F0 m 0 ls [])
  refine lv_iload_n hx hb dX11_odd_0 rfl (lv_at hl 1 rfl) ?_
  have J16 : ∀ (H : Heap) (locs : List Loc), hp_w D T s H locs → ∀ (ls : Array Slot), lv_has ls 3 [] → WX11_odd p l e s m below meth c D T ap0 xp1 H locs (F0 m 16 ls []) := by
    intro H16 locs16 hw ls hl
    refine lv_iconst (v := (-1)) hx hb dX11_odd_16 (by decide) ?_
    exact W.iret (v := (-1)) hx hb hr (fun t ht hW => ⟨some (.int (-1)), rfl, ⟨((-1) : Int32), rfl, trivial⟩, by rw [ht]; exact hw.1, hw.2.F ht⟩) hw.2.2.2 dX11_odd_17
  refine lv_if_lt (tgt := 16) hx hb dX11_odd_1 (by decide) (fun c1 => ?_) (fun c1 => ?_)
  · have r1tp : iv xp1 (-2147483648) (-1) := (iv_lt_l c1 (iv_any xp1) (show iv 0 0 0 from ⟨by decide, by decide⟩)).mono (by decide) (by decide)
    exact J16 s.heap [] hw _ (lv_sub hl [] rfl)
  · have r1fq : iv xp1 0 2147483647 := (iv_le_r (iv_nlt c1) (show iv 0 0 0 from ⟨by decide, by decide⟩) (iv_any xp1)).mono (by decide) (by decide)
    refine lv_iload_n hx hb dX11_odd_4 rfl (lv_at hl 1 rfl) ?_
    refine lv_iconst (v := 1) hx hb dX11_odd_5 (by decide) ?_
    refine lv_icmp_gt (tgt := 16) hx hb dX11_odd_6 (by decide) (fun c6 => ?_) (fun c6 => ?_)
    · have r6tq : iv xp1 2 2147483647 := (iv_lt_r c6 (show iv 1 1 1 from ⟨by decide, by decide⟩) r1fq).mono (by decide) (by decide)
      exact J16 s.heap [] hw _ (lv_sub hl [] rfl)
    · have r6fp : iv xp1 0 1 := (iv_le_l (iv_nlt c6) r1fq (show iv 1 1 1 from ⟨by decide, by decide⟩)).mono (by decide) (by decide)
      refine lv_aload_n hx hb dX11_odd_9 rfl (lv_at hl 0 rfl) ?_
      refine hp_callpi (va_runV (As := []) (rest := []) ⟨hx, hb, hml, hown, hts⟩ (sX11_hasTown l D T ap0 Ru hRu ap0tp ap0tr ap0rr ap0rl ap0nw ap0im ap0tl ap0sk ap0iq ap0pa ap0sn ap0be hp0 ip0tp ip0tr ip0rr hp0rl pxp0 ip0nw pimp0 hp0im ip0tl ip0sk ip0iq ip0pa ip0sn ip0be) (cwV 0 hts gX11_odd_X11_hasTown rfl rfl rfl (by decide +kernel) ⟨Nat.le_of_ble_eq_true rfl, Nat.le_of_ble_eq_true rfl⟩) (hp_preV hG hw hp0 rfl trivial) rfl rfl hl.1 rfl (lv_room (Nat.le_of_ble_eq_true rfl)) dX11_odd_10 ⟨Nat.zero_le _, Nat.zero_le _⟩) (fun x10 bx10 => ?_)
      refine lv_if_ne (tgt := 18) hx hb dX11_odd_13 (by decide) (fun c13 => ?_) (fun c13 => ?_)
      · have r13tp : iv x10 1 1 := (iv_ne_lo c13 bx10 rfl).mono (by decide) (by decide)
        refine lv_aload_n hx hb dX11_odd_18 rfl (lv_at hl 0 rfl) ?_
        refine hp_getr hx hb hts IX11 hown hK hw.1 hp0 rfl 7 (by decide) L56 rfl dX11_odd_19 ?_
        refine lv_aload_n hx hb dX11_odd_22 rfl (lv_at hl 0 rfl) ?_
        refine hp_getr hx hb hts IX11 hown hK hw.1 hp0 rfl 5 (by decide) L45 rfl dX11_odd_23 ?_
        refine hp_getr hx hb hts IX1 hown hK hw.1 hp0nw rfl 0 (by decide) L116 rfl dX11_odd_26 ?_
        refine hp_callev (va_runV (As := [.ref ap0nwtw]) (rest := []) ⟨hx, hb, hml, hown, hts⟩ (sX8_copyFrom l D T ap0tl ap0nwtw ip0tl ip0nwtw) (cwV 1 hts gX11_odd_X8_copyFrom rfl rfl rfl (by decide +kernel) ⟨Nat.le_of_ble_eq_true rfl, Nat.le_of_ble_eq_true rfl⟩) (hp_preV hG hw hp0tl rfl trivial) rfl rfl hl.1 rfl (lv_room (Nat.le_of_ble_eq_true rfl)) dX11_odd_29 ⟨Nat.zero_le _, Nat.zero_le _⟩) hw (fun st29 t29 H29 locs29 eh29 eg29 bx29 hw => ?_)
        refine lv_aload_n hx hb dX11_odd_32 rfl (lv_at hl 0 rfl) ?_
        refine hp_getr hx hb hts IX11 hown hK hw.1 hp0 rfl 10 (by decide) L77 rfl dX11_odd_33 ?_
        refine lv_aload_n hx hb dX11_odd_36 rfl (lv_at hl 0 rfl) ?_
        refine hp_caller (va_runV (As := []) (rest := [.ref ap0pa]) ⟨hx, hb, hml, hown, hts⟩ (sX11_counting l D T ap0 Ru hRu ap0tp ap0tr ap0rr ap0rl ap0nw ap0im ap0tl ap0sk ap0iq ap0pa ap0sn ap0be hp0 ip0tp ip0tr ip0rr hp0rl pxp0 ip0nw pimp0 hp0im ip0tl ip0sk ip0iq ip0pa ip0sn ip0be) (cwV 0 hts gX11_odd_X11_counting rfl rfl rfl (by decide +kernel) ⟨Nat.le_of_ble_eq_true rfl, Nat.le_of_ble_eq_true rfl⟩) (hp_preV hG hw hp0 rfl trivial) rfl rfl hl.1 rfl (lv_room (Nat.le_of_ble_eq_true rfl)) dX11_odd_37 ⟨Nat.zero_le _, Nat.zero_le _⟩) hw (fun st37 t37 H37 locs37 eh37 eg37 hw => ?_)
        refine lv_aload_n hx hb dX11_odd_40 rfl (lv_at hl 0 rfl) ?_
        refine hp_getr hx hb hts IX11 hown hK hw.1 hp0 rfl 7 (by decide) L56 rfl dX11_odd_41 ?_
        refine hp_callev (va_runV (As := [.ref ap0sk, .ref ap0tl]) (rest := []) ⟨hx, hb, hml, hown, hts⟩ (sX2_learn l D T ap0pa ap0sk ap0tl Ru hRu ip0pa ip0sk ip0tl) (cwV 2 hts gX11_odd_X2_learn rfl rfl rfl (by decide +kernel) ⟨Nat.le_of_ble_eq_true rfl, Nat.le_of_ble_eq_true rfl⟩) (hp_preV hG hw hp0pa rfl trivial) rfl rfl hl.1 rfl (lv_room (Nat.le_of_ble_eq_true rfl)) dX11_odd_44 ⟨Nat.zero_le _, Nat.zero_le _⟩) hw (fun st44 t44 H44 locs44 eh44 eg44 bx44 hw => ?_)
        refine lv_aload_n hx hb dX11_odd_47 rfl (lv_at hl 0 rfl) ?_
        refine hp_getr hx hb hts IX11 hown hK hw.1 hp0 rfl 10 (by decide) L77 rfl dX11_odd_48 ?_
        refine lv_aload_n hx hb dX11_odd_51 rfl (lv_at hl 0 rfl) ?_
        refine hp_getr hx hb hts IX11 hown hK hw.1 hp0 rfl 5 (by decide) L45 rfl dX11_odd_52 ?_
        refine hp_getr hx hb hts IX1 hown hK hw.1 hp0nw rfl 0 (by decide) L116 rfl dX11_odd_55 ?_
        refine hp_geti hx hb hts IX8 hown hK hw.1 hp0nwtw rfl 2 (by decide) L117 rfl dX11_odd_58 (fun x58 bx58 fx58 => ?_)
        refine lv_aload_n hx hb dX11_odd_61 rfl (lv_at hl 0 rfl) ?_
        refine hp_getr hx hb hts IX11 hown hK hw.1 hp0 rfl 5 (by decide) L45 rfl dX11_odd_62 ?_
        refine hp_getr hx hb hts IX1 hown hK hw.1 hp0nw rfl 0 (by decide) L116 rfl dX11_odd_65 ?_
        refine hp_getA hx hb hts IX8 hown hK hw.1 hp0nwtw rfl 5 (by decide) L144 rfl dX11_odd_68 (fun x68 fx68 => ?_)
        refine hp_callpi (va_runV (As := [.int x58, .int x68]) (rest := []) ⟨hx, hb, hml, hown, hts⟩ (sX2_fewestTurned l D T ap0pa x58 x68 ip0pa bx58) (cwV 2 hts gX11_odd_X2_fewestTurned rfl rfl rfl (by decide +kernel) ⟨Nat.le_of_ble_eq_true rfl, Nat.le_of_ble_eq_true rfl⟩) (hp_preV hG hw hp0pa rfl trivial) rfl rfl hl.1 rfl (lv_room (Nat.le_of_ble_eq_true rfl)) dX11_odd_71 ⟨Nat.zero_le _, Nat.zero_le _⟩) (fun x71 bx71 => ?_)
        refine lv_istore_n (lv' := [(2, .int x71), (0, .ref ap0), (1, .int xp1)]) hx hb dX11_odd_74 rfl hl (by decide) rfl (fun ls hl => ?_)
        refine lv_iload_n hx hb dX11_odd_75 rfl (lv_at hl 0 rfl) ?_
        refine lv_iconst (v := (-1)) hx hb dX11_odd_76 (by decide) ?_
        refine lv_icmp_ne (tgt := 83) hx hb dX11_odd_77 (by decide) (fun c77 => ?_) (fun c77 => ?_)
        · refine lv_iload_n hx hb dX11_odd_83 rfl (lv_at hl 2 rfl) ?_
          have J95 : ∀ (y95_s0 : Int32), ∀ (H : Heap) (locs : List Loc), hp_w D T s H locs → ∀ (ls : Array Slot), lv_has ls 3 [] → WX11_odd p l e s m below meth c D T ap0 xp1 H locs (F0 m 95 ls [.int y95_s0]) := by
            intro y95_s0 H95 locs95 hw ls hl
            exact W.iret (v := y95_s0) hx hb hr (fun t ht hW => ⟨some (.int y95_s0), rfl, ⟨y95_s0, rfl, trivial⟩, by rw [ht]; exact hw.1, hw.2.F ht⟩) hw.2.2.2 dX11_odd_95
          refine lv_if_ne (tgt := 94) hx hb dX11_odd_84 (by decide) (fun c84 => ?_) (fun c84 => ?_)
          · have r84tp : iv xp1 1 1 := (iv_ne_lo c84 r6fp rfl).mono (by decide) (by decide)
            refine lv_iload_n hx hb dX11_odd_94 rfl (lv_at hl 0 rfl) ?_
            exact J95 x71 H44 locs44 hw _ (lv_sub hl [] rfl)
          · have r84fp : iv xp1 0 0 := (iv_both r6fp (iv_eq (show iv 0 0 0 from ⟨by decide, by decide⟩) c84)).mono (by decide) (by decide)
            refine lv_iload_n hx hb dX11_odd_87 rfl (lv_at hl 0 rfl) ?_
            refine hp_callpi (va_runS (As := [.int x71]) (rest := []) ⟨hx, hb, hml, hown, hts⟩ (sJ6_bitCount_0f7a4 l D T x71) (va_cwS 1 hts gX11_odd_J6_bitCount_0f7a4 rfl rfl rfl (by decide +kernel) ⟨Nat.le_of_ble_eq_true rfl, Nat.le_of_ble_eq_true rfl⟩) (hp_preS hG hw trivial) rfl rfl hl.1 rfl (lv_room (Nat.le_of_ble_eq_true rfl)) dX11_odd_88 ⟨Nat.zero_le _, Nat.zero_le _⟩) (fun x88 bx88 => ?_)
            refine lv_goto (tgt := 95) hx hb dX11_odd_91 (by decide) ?_
            exact J95 x88 H44 locs44 hw _ (lv_sub hl [] rfl)
        · have r77fp : iv x71 (-1) (-1) := (iv_both (iv_any x71) (iv_eq (show iv (-1) (-1) (-1) from ⟨by decide, by decide⟩) c77)).mono (by decide) (by decide)
          refine lv_bipush (v := (-2)) hx hb dX11_odd_80 (by decide) ?_
          exact W.iret (v := (-2)) hx hb hr (fun t ht hW => ⟨some (.int (-2)), rfl, ⟨((-2) : Int32), rfl, trivial⟩, by rw [ht]; exact hw.1, hw.2.F ht⟩) hw.2.2.2 dX11_odd_82
      · have r13fp : iv x10 0 0 := (iv_both bx10 (iv_eq (show iv 0 0 0 from ⟨by decide, by decide⟩) c13)).mono (by decide) (by decide)
        exact J16 s.heap [] hw _ (lv_sub hl [] rfl)
abbrev WX11_palms (p : Program) (l : Launch) (e : Env) (s : State) (m : MethodId) (below : List Frame) (meth : Method) (c : Code) (D : hp_D) (T : hp_T) (ap0 : Nat) (xp1 : Int32) (xp2 : Int32) (H : Heap) (locs : List Loc) (g : JFrame) : Prop := W p l e (headSpec wsX11_palms ({ frames := 1, cells := 0, slots := 0, locals := 21 })).room s m ([.ref ap0, .int xp1, .int xp2] : List Value).toArray below meth c H locs 0 0 (MQ below (hq_e D T (fun v _ _ => ∃ r : Int32, v = some (.int r) ∧ iv r 0 1)) ([.ref ap0, .int xp1, .int xp2] : List Value).toArray s 0 0 (hp_F T)) g
set_option maxHeartbeats 4000000 in
set_option maxRecDepth 100000 in
theorem sX11_palms (l : Launch) (D : hp_D) (T : hp_T) (ap0 : Nat) (xp1 : Int32) (xp2 : Int32) (Ru : Nat → Prop) (hRu : ∀ b, Ru b → isRule T b) (ap0tp ap0tr ap0rr ap0rl ap0nw ap0im ap0tl ap0sk ap0iq ap0pa ap0sn ap0be : Nat) (hp0 : T ap0 = some (.inr (11, [(rR ap0tp), (rR ap0tr), (rR ap0rr), (rR ap0rl), (rI 0 6), (rR ap0nw), (rR ap0im), (rR ap0tl), (rR ap0sk), (rR ap0iq), (rR ap0pa), (rR ap0sn), (rR ap0be)]))) (ip0tp : isTape T ap0tp) (ip0tr : isTownReader T ap0tr) (ip0rr : isRuleReader T ap0rr) (hp0rl : T ap0rl = some (.inl (5, 6, fun _ => rN Ru))) (pxp0 : Value → Prop) (ip0nw : isMemory T ap0nw pxp0) (pimp0 : Nat → Value → Prop) (hp0im : T ap0im = some (.inl (4, 4, pimp0))) (ip0tl : isTown T ap0tl) (ip0sk : isShaker T Ru ap0sk) (ip0iq : isWorlds T ap0iq) (ip0pa : isParity T ap0pa) (ip0sn : isShuns T ap0sn) (ip0be : isBest T ap0be) : Met l yX11_palms wsX11_palms ({ frames := 1, cells := 0, slots := 0, locals := 21 }) (hp_Pc D T [.ref ap0, .int xp1, .int xp2] (fun _ => True)) (hq_e D T (fun v _ _ => ∃ r : Int32, v = some (.int r) ∧ iv r 0 1)) 0 0 (hp_F T) := by
  obtain ⟨ap0tpbt, hp0tp, hp0tpbt⟩ := id ip0tp
  obtain ⟨ap0trtp, ap0trtw, hp0tr, ip0trtp, ip0trtw⟩ := id ip0tr
  obtain ⟨ap0trtpbt, hp0trtp, hp0trtpbt⟩ := id ip0trtp
  obtain ⟨ap0trtwkin, ap0trtwpl, ap0trtwcr, hp0trtw, hp0trtwkin, hp0trtwpl, hp0trtwcr⟩ := id ip0trtw
  obtain ⟨ap0rrtp, ap0rrstp, hp0rr, ip0rrtp, hp0rrstp⟩ := id ip0rr
  obtain ⟨ap0rrtpbt, hp0rrtp, hp0rrtpbt⟩ := id ip0rrtp
  obtain ⟨ap0nwtw, ap0nwtg, ap0nwth, ap0nwts, ap0nwpm, ap0nwak, ap0nwao, ap0nwah, ap0nwaw, hp0nw, ip0nwtw, hp0nwtg, hp0nwth, hp0nwts, hp0nwpm, hp0nwak, hp0nwao, hp0nwah, hp0nwaw⟩ := id ip0nw
  obtain ⟨ap0nwtwkin, ap0nwtwpl, ap0nwtwcr, hp0nwtw, hp0nwtwkin, hp0nwtwpl, hp0nwtwcr⟩ := id ip0nwtw
  obtain ⟨ap0tlkin, ap0tlpl, ap0tlcr, hp0tl, hp0tlkin, hp0tlpl, hp0tlcr⟩ := id ip0tl
  obtain ⟨ap0skwd, ap0sksk, ap0skth, hp0sk, hp0skwd, hp0sksk, hp0skth⟩ := id ip0sk
  obtain ⟨ap0iqfi, ap0iqwo, ap0iqsu, ap0iqsh, ap0iqme, ap0iqs1, ap0iqs2, hp0iq, hp0iqfi, hp0iqwo, hp0iqsu, hp0iqsh, hp0iqme, hp0iqs1, hp0iqs2⟩ := id ip0iq
  obtain ⟨ap0pabo, hp0pa, hp0pabo⟩ := id ip0pa
  obtain ⟨ap0snle, ap0sngr, ap0sndu, ap0snit, ap0snop, hp0sn, hp0snle, hp0sngr, hp0sndu, hp0snit, hp0snop⟩ := id ip0sn
  have hp0be : T ap0be = some (.inr (0, [(rI 0 1), rA, rA, rA])) := ip0be
  refine Met.ofW (cc := cX11_palms) (maxL := 3) (ret := (some .boolean)) (by decide) rfl ?_
  intro p e s m args below meth c s₁ B hml hv
  obtain ⟨rfl, hok, hG, hB⟩ := hv
  have hx := B.exec
  have hb := B.bytes
  have hr := B.returns
  have hts := atoms_spec (ws := wsX11_palms) B.pre
  have hown : s.vm.findClass RX11 = some m.cls := findClass_of_methodNamed B.named
  have hlocks := B.notSynchronized
  have hK := hG.1
  have hw : hp_w D T s s.heap [] := hp_w.rf hok
  have IX1 : ∀ w ∈ wsX10, w ∈ wsX11_palms := by decide +kernel
  have IX11 : ∀ w ∈ wsX110, w ∈ wsX11_palms := by decide +kernel
  have L45 := hts (.fieldLink RX11 45 "PalmCensus" "now" "LPalmCensus$Memory;") (by decide +kernel)
  have L116 := hts (.fieldLink RX11 116 "PalmCensus$Memory" "town" "LPalmCensus$Town;") (by decide +kernel)
  have L304 := hts (.fieldLink RX11 304 "PalmCensus$Memory" "palms" "[I") (by decide +kernel)
  have hl := lv_entry ([.ref ap0, .int xp1, .int xp2]) (n := 3) (Nat.le_of_ble_eq_true rfl)
  rw [lg_entry_eq]
  generalize (lg_sl ([.ref ap0, .int xp1, .int xp2]) ++ List.replicate (3 - (lg_sl ([.ref ap0, .int xp1, .int xp2])).length) Slot.unset).toArray = ls at hl ⊢
  have hl : lv_has ls 3 [(0, .ref ap0), (1, .int xp1), (2, .int xp2)] := hl
  show WX11_palms p l e s m below meth c D T ap0 xp1 xp2 s.heap [] (F0 m 0 ls [])
  refine lv_aload_n hx hb dX11_palms_0 rfl (lv_at hl 0 rfl) ?_
  refine hp_getr hx hb hts IX11 hown hK hw.1 hp0 rfl 5 (by decide) L45 rfl dX11_palms_1 ?_
  refine hp_getr hx hb hts IX1 hown hK hw.1 hp0nw rfl 0 (by decide) L116 rfl dX11_palms_4 ?_
  refine lv_iload_n hx hb dX11_palms_7 rfl (lv_at hl 1 rfl) ?_
  refine hp_callpi (va_runV (As := [.int xp1]) (rest := []) ⟨hx, hb, hml, hown, hts⟩ (sX8_isPerson l D T ap0nwtw xp1 ip0nwtw) (cwV 1 hts gX11_palms_X8_isPerson rfl rfl rfl (by decide +kernel) ⟨Nat.le_of_ble_eq_true rfl, Nat.le_of_ble_eq_true rfl⟩) (hp_preV hG hw hp0nwtw rfl trivial) rfl rfl hl.1 rfl (lv_room (Nat.le_of_ble_eq_true rfl)) dX11_palms_8 ⟨Nat.zero_le _, Nat.zero_le _⟩) (fun x8 bx8 => ?_)
  obtain ⟨bx8, ix8_0⟩ := bx8
  have J25 : ∀ (H : Heap) (locs : List Loc), hp_w D T s H locs → ∀ (ls : Array Slot), lv_has ls 3 [] → WX11_palms p l e s m below meth c D T ap0 xp1 xp2 H locs (F0 m 25 ls []) := by
    intro H25 locs25 hw ls hl
    refine lv_iconst (v := 0) hx hb dX11_palms_25 (by decide) ?_
    exact W.zret (v := 0) hx hb hr (iv_nz (show iv 0 0 1 from ⟨by decide, by decide⟩)) (fun t ht hW => ⟨some (.int 0), rfl, ⟨(0 : Int32), rfl, (show iv 0 0 1 from ⟨by decide, by decide⟩)⟩, by rw [ht]; exact hw.1, hw.2.F ht⟩) hw.2.2.2 dX11_palms_26
  refine lv_if_eq (tgt := 25) hx hb dX11_palms_11 (by decide) (fun c11 => ?_) (fun c11 => ?_)
  · have r11tp : iv x8 0 0 := (iv_both bx8 (iv_eq (show iv 0 0 0 from ⟨by decide, by decide⟩) c11)).mono (by decide) (by decide)
    exact J25 s.heap [] hw _ (lv_sub hl [] rfl)
  · have r11fp : iv x8 1 1 := (iv_ne_lo c11 bx8 rfl).mono (by decide) (by decide)
    have r11fpz : iv xp1 0 9 := (iv_both (iv_any xp1) (ix8_0 (iv_ne0 r11fp (by decide)))).mono (by decide) (by decide)
    refine lv_iload_n hx hb dX11_palms_14 rfl (lv_at hl 2 rfl) ?_
    refine lv_iconst (v := (-1)) hx hb dX11_palms_15 (by decide) ?_
    refine lv_icmp_lt (tgt := 25) hx hb dX11_palms_16 (by decide) (fun c16 => ?_) (fun c16 => ?_)
    · have r16tp : iv xp2 (-2147483648) (-2) := (iv_lt_l c16 (iv_any xp2) (show iv (-1) (-1) (-1) from ⟨by decide, by decide⟩)).mono (by decide) (by decide)
      exact J25 s.heap [] hw _ (lv_sub hl [] rfl)
    · have r16fq : iv xp2 (-1) 2147483647 := (iv_le_r (iv_nlt c16) (show iv (-1) (-1) (-1) from ⟨by decide, by decide⟩) (iv_any xp2)).mono (by decide) (by decide)
      refine lv_iload_n hx hb dX11_palms_19 rfl (lv_at hl 2 rfl) ?_
      refine lv_bipush (v := 9) hx hb dX11_palms_20 (by decide) ?_
      refine lv_icmp_le (tgt := 27) hx hb dX11_palms_22 (by decide) (fun c22 => ?_) (fun c22 => ?_)
      · have r22tp : iv xp2 (-1) 9 := (iv_le_l c22 r16fq (show iv 9 9 9 from ⟨by decide, by decide⟩)).mono (by decide) (by decide)
        refine lv_aload_n hx hb dX11_palms_27 rfl (lv_at hl 0 rfl) ?_
        refine hp_getr hx hb hts IX11 hown hK hw.1 hp0 rfl 5 (by decide) L45 rfl dX11_palms_28 ?_
        refine hp_getr hx hb hts IX1 hown hK hw.1 hp0nw rfl 7 (by decide) L304 rfl dX11_palms_31 ?_
        refine lv_iload_n hx hb dX11_palms_34 rfl (lv_at hl 1 rfl) ?_
        refine lv_iload_n hx hb dX11_palms_35 rfl (lv_at hl 2 rfl) ?_
        refine hp_iast hx hb hK hw hp0nwpm (vp_iv r11fpz (by decide)) ⟨_, rfl⟩ dX11_palms_36 (fun H36 locs36 hw g36 => ?_)
        refine lv_iconst (v := 1) hx hb dX11_palms_37 (by decide) ?_
        exact W.zret (v := 1) hx hb hr (iv_nz (show iv 1 0 1 from ⟨by decide, by decide⟩)) (fun t ht hW => ⟨some (.int 1), rfl, ⟨(1 : Int32), rfl, (show iv 1 0 1 from ⟨by decide, by decide⟩)⟩, by rw [ht]; exact hw.1, hw.2.F ht⟩) hw.2.2.2 dX11_palms_38
      · have r22fq : iv xp2 10 2147483647 := (iv_lt_r (iv_nle c22) (show iv 9 9 9 from ⟨by decide, by decide⟩) r16fq).mono (by decide) (by decide)
        exact J25 s.heap [] hw _ (lv_sub hl [] rfl)
abbrev WX11_shuns (p : Program) (l : Launch) (e : Env) (s : State) (m : MethodId) (below : List Frame) (meth : Method) (c : Code) (D : hp_D) (T : hp_T) (ap0 : Nat) (H : Heap) (locs : List Loc) (g : JFrame) : Prop := W p l e (headSpec wsX11_shuns ({ frames := 18, cells := 0, slots := 0, locals := 447 })).room s m ([.ref ap0] : List Value).toArray below meth c H locs 0 0 (MQ below (hq_e D T (fun v _ _ => ∃ r : Int32, v = some (.int r) ∧ True)) ([.ref ap0] : List Value).toArray s 0 0 (hp_F T)) g
set_option maxHeartbeats 4000000 in
set_option maxRecDepth 100000 in
theorem sX11_shuns (l : Launch) (D : hp_D) (T : hp_T) (ap0 : Nat) (Ru : Nat → Prop) (hRu : ∀ b, Ru b → isRule T b) (ap0tp ap0tr ap0rr ap0rl ap0nw ap0im ap0tl ap0sk ap0iq ap0pa ap0sn ap0be : Nat) (hp0 : T ap0 = some (.inr (11, [(rR ap0tp), (rR ap0tr), (rR ap0rr), (rR ap0rl), (rI 0 6), (rR ap0nw), (rR ap0im), (rR ap0tl), (rR ap0sk), (rR ap0iq), (rR ap0pa), (rR ap0sn), (rR ap0be)]))) (ip0tp : isTape T ap0tp) (ip0tr : isTownReader T ap0tr) (ip0rr : isRuleReader T ap0rr) (hp0rl : T ap0rl = some (.inl (5, 6, fun _ => rN Ru))) (pxp0 : Value → Prop) (ip0nw : isMemory T ap0nw pxp0) (pimp0 : Nat → Value → Prop) (hp0im : T ap0im = some (.inl (4, 4, pimp0))) (ip0tl : isTown T ap0tl) (ip0sk : isShaker T Ru ap0sk) (ip0iq : isWorlds T ap0iq) (ip0pa : isParity T ap0pa) (ip0sn : isShuns T ap0sn) (ip0be : isBest T ap0be) : Met l yX11_shuns wsX11_shuns ({ frames := 18, cells := 0, slots := 0, locals := 447 }) (hp_Pc D T [.ref ap0] (fun _ => True)) (hq_e D T (fun v _ _ => ∃ r : Int32, v = some (.int r) ∧ True)) 0 0 (hp_F T) := by
  obtain ⟨ap0tpbt, hp0tp, hp0tpbt⟩ := id ip0tp
  obtain ⟨ap0trtp, ap0trtw, hp0tr, ip0trtp, ip0trtw⟩ := id ip0tr
  obtain ⟨ap0trtpbt, hp0trtp, hp0trtpbt⟩ := id ip0trtp
  obtain ⟨ap0trtwkin, ap0trtwpl, ap0trtwcr, hp0trtw, hp0trtwkin, hp0trtwpl, hp0trtwcr⟩ := id ip0trtw
  obtain ⟨ap0rrtp, ap0rrstp, hp0rr, ip0rrtp, hp0rrstp⟩ := id ip0rr
  obtain ⟨ap0rrtpbt, hp0rrtp, hp0rrtpbt⟩ := id ip0rrtp
  obtain ⟨ap0nwtw, ap0nwtg, ap0nwth, ap0nwts, ap0nwpm, ap0nwak, ap0nwao, ap0nwah, ap0nwaw, hp0nw, ip0nwtw, hp0nwtg, hp0nwth, hp0nwts, hp0nwpm, hp0nwak, hp0nwao, hp0nwah, hp0nwaw⟩ := id ip0nw
  obtain ⟨ap0nwtwkin, ap0nwtwpl, ap0nwtwcr, hp0nwtw, hp0nwtwkin, hp0nwtwpl, hp0nwtwcr⟩ := id ip0nwtw
  obtain ⟨ap0tlkin, ap0tlpl, ap0tlcr, hp0tl, hp0tlkin, hp0tlpl, hp0tlcr⟩ := id ip0tl
  obtain ⟨ap0skwd, ap0sksk, ap0skth, hp0sk, hp0skwd, hp0sksk, hp0skth⟩ := id ip0sk
  obtain ⟨ap0iqfi, ap0iqwo, ap0iqsu, ap0iqsh, ap0iqme, ap0iqs1, ap0iqs2, hp0iq, hp0iqfi, hp0iqwo, hp0iqsu, hp0iqsh, hp0iqme, hp0iqs1, hp0iqs2⟩ := id ip0iq
  obtain ⟨ap0pabo, hp0pa, hp0pabo⟩ := id ip0pa
  obtain ⟨ap0snle, ap0sngr, ap0sndu, ap0snit, ap0snop, hp0sn, hp0snle, hp0sngr, hp0sndu, hp0snit, hp0snop⟩ := id ip0sn
  have hp0be : T ap0be = some (.inr (0, [(rI 0 1), rA, rA, rA])) := ip0be
  refine Met.ofW (cc := cX11_shuns) (maxL := 1) (ret := (some .int)) (by decide) rfl ?_
  intro p e s m args below meth c s₁ B hml hv
  obtain ⟨rfl, hok, hG, hB⟩ := hv
  have hx := B.exec
  have hb := B.bytes
  have hr := B.returns
  have hts := atoms_spec (ws := wsX11_shuns) B.pre
  have hown : s.vm.findClass RX11 = some m.cls := findClass_of_methodNamed B.named
  have hlocks := B.notSynchronized
  have hK := hG.1
  have hw : hp_w D T s s.heap [] := hp_w.rf hok
  have IX1 : ∀ w ∈ wsX10, w ∈ wsX11_shuns := by decide +kernel
  have IX11 : ∀ w ∈ wsX110, w ∈ wsX11_shuns := by decide +kernel
  have L45 := hts (.fieldLink RX11 45 "PalmCensus" "now" "LPalmCensus$Memory;") (by decide +kernel)
  have L116 := hts (.fieldLink RX11 116 "PalmCensus$Memory" "town" "LPalmCensus$Town;") (by decide +kernel)
  have L84 := hts (.fieldLink RX11 84 "PalmCensus" "shunning" "LPalmCensus$Shuns;") (by decide +kernel)
  have hl := lv_entry ([.ref ap0]) (n := 1) (Nat.le_of_ble_eq_true rfl)
  rw [lg_entry_eq]
  generalize (lg_sl ([.ref ap0]) ++ List.replicate (1 - (lg_sl ([.ref ap0])).length) Slot.unset).toArray = ls at hl ⊢
  have hl : lv_has ls 1 [(0, .ref ap0)] := hl
  show WX11_shuns p l e s m below meth c D T ap0 s.heap [] (F0 m 0 ls [])
  refine lv_aload_n hx hb dX11_shuns_0 rfl (lv_at hl 0 rfl) ?_
  refine hp_callpi (va_runV (As := []) (rest := []) ⟨hx, hb, hml, hown, hts⟩ (sX11_hasTown l D T ap0 Ru hRu ap0tp ap0tr ap0rr ap0rl ap0nw ap0im ap0tl ap0sk ap0iq ap0pa ap0sn ap0be hp0 ip0tp ip0tr ip0rr hp0rl pxp0 ip0nw pimp0 hp0im ip0tl ip0sk ip0iq ip0pa ip0sn ip0be) (cwV 0 hts gX11_shuns_X11_hasTown rfl rfl rfl (by decide +kernel) ⟨Nat.le_of_ble_eq_true rfl, Nat.le_of_ble_eq_true rfl⟩) (hp_preV hG hw hp0 rfl trivial) rfl rfl hl.1 rfl (lv_room (Nat.le_of_ble_eq_true rfl)) dX11_shuns_1 ⟨Nat.zero_le _, Nat.zero_le _⟩) (fun x1 bx1 => ?_)
  refine lv_if_ne (tgt := 9) hx hb dX11_shuns_4 (by decide) (fun c4 => ?_) (fun c4 => ?_)
  · have r4tp : iv x1 1 1 := (iv_ne_lo c4 bx1 rfl).mono (by decide) (by decide)
    refine lv_aload_n hx hb dX11_shuns_9 rfl (lv_at hl 0 rfl) ?_
    refine hp_getr hx hb hts IX11 hown hK hw.1 hp0 rfl 5 (by decide) L45 rfl dX11_shuns_10 ?_
    refine hp_getr hx hb hts IX1 hown hK hw.1 hp0nw rfl 0 (by decide) L116 rfl dX11_shuns_13 ?_
    refine hp_callpi (va_runV (As := []) (rest := []) ⟨hx, hb, hml, hown, hts⟩ (sX8_meetingTwos l D T ap0nwtw ip0nwtw) (cwV 0 hts gX11_shuns_X8_meetingTwos rfl rfl rfl (by decide +kernel) ⟨Nat.le_of_ble_eq_true rfl, Nat.le_of_ble_eq_true rfl⟩) (hp_preV hG hw hp0nwtw rfl trivial) rfl rfl hl.1 rfl (lv_room (Nat.le_of_ble_eq_true rfl)) dX11_shuns_16 ⟨Nat.zero_le _, Nat.zero_le _⟩) (fun x16 bx16 => ?_)
    refine lv_bipush (v := 16) hx hb dX11_shuns_19 (by decide) ?_
    refine lv_icmp_le (tgt := 27) hx hb dX11_shuns_21 (by decide) (fun c21 => ?_) (fun c21 => ?_)
    · have r21tp : iv x16 (-2147483648) 16 := (iv_le_l c21 (iv_any x16) (show iv 16 16 16 from ⟨by decide, by decide⟩)).mono (by decide) (by decide)
      refine lv_aload_n hx hb dX11_shuns_27 rfl (lv_at hl 0 rfl) ?_
      refine hp_getr hx hb hts IX11 hown hK hw.1 hp0 rfl 11 (by decide) L84 rfl dX11_shuns_28 ?_
      refine lv_aload_n hx hb dX11_shuns_31 rfl (lv_at hl 0 rfl) ?_
      refine hp_getr hx hb hts IX11 hown hK hw.1 hp0 rfl 5 (by decide) L45 rfl dX11_shuns_32 ?_
      refine hp_callev (va_runV (As := [.ref ap0nw]) (rest := []) ⟨hx, hb, hml, hown, hts⟩ (sX6_learn l D T ap0sn ap0nw ip0sn pxp0 ip0nw) (cwV 1 hts gX11_shuns_X6_learn rfl rfl rfl (by decide +kernel) ⟨Nat.le_of_ble_eq_true rfl, Nat.le_of_ble_eq_true rfl⟩) (hp_preV hG hw hp0sn rfl trivial) rfl rfl hl.1 rfl (lv_room (Nat.le_of_ble_eq_true rfl)) dX11_shuns_35 ⟨Nat.zero_le _, Nat.zero_le _⟩) hw (fun st35 t35 H35 locs35 eh35 eg35 bx35 hw => ?_)
      refine lv_aload_n hx hb dX11_shuns_38 rfl (lv_at hl 0 rfl) ?_
      refine hp_getr hx hb hts IX11 hown hK hw.1 hp0 rfl 11 (by decide) L84 rfl dX11_shuns_39 ?_
      refine lv_iconst (v := (-1)) hx hb dX11_shuns_42 (by decide) ?_
      refine hp_callei (va_runV (As := [.int (-1)]) (rest := []) ⟨hx, hb, hml, hown, hts⟩ (sX6_waysWith l D T ap0sn ((-1) : Int32) ip0sn) (cwV 1 hts gX11_shuns_X6_waysWith rfl rfl rfl (by decide +kernel) ⟨Nat.le_of_ble_eq_true rfl, Nat.le_of_ble_eq_true rfl⟩) (hp_preV hG hw hp0sn rfl trivial) rfl rfl hl.1 rfl (lv_room (Nat.le_of_ble_eq_true rfl)) dX11_shuns_43 ⟨Nat.zero_le _, Nat.zero_le _⟩) hw (fun x43 st43 t43 H43 locs43 eh43 eg43 bx43 hw => ?_)
      exact W.iret (v := x43) hx hb hr (fun t ht hW => ⟨some (.int x43), rfl, ⟨x43, rfl, trivial⟩, by rw [ht]; exact hw.1, hw.2.F ht⟩) hw.2.2.2 dX11_shuns_46
    · have r21fq : iv x16 17 2147483647 := (iv_lt_r (iv_nle c21) (show iv 16 16 16 from ⟨by decide, by decide⟩) (iv_any x16)).mono (by decide) (by decide)
      refine lv_bipush (v := (-3)) hx hb dX11_shuns_24 (by decide) ?_
      exact W.iret (v := (-3)) hx hb hr (fun t ht hW => ⟨some (.int (-3)), rfl, ⟨((-3) : Int32), rfl, trivial⟩, by rw [ht]; exact hw.1, hw.2.F ht⟩) hw.2.2.2 dX11_shuns_26
  · have r4fp : iv x1 0 0 := (iv_both bx1 (iv_eq (show iv 0 0 0 from ⟨by decide, by decide⟩) c4)).mono (by decide) (by decide)
    refine lv_iconst (v := (-1)) hx hb dX11_shuns_7 (by decide) ?_
    exact W.iret (v := (-1)) hx hb hr (fun t ht hW => ⟨some (.int (-1)), rfl, ⟨((-1) : Int32), rfl, trivial⟩, by rw [ht]; exact hw.1, hw.2.F ht⟩) hw.2.2.2 dX11_shuns_8
abbrev WX11_shook (p : Program) (l : Launch) (e : Env) (s : State) (m : MethodId) (below : List Frame) (meth : Method) (c : Code) (D : hp_D) (T : hp_T) (ap0 : Nat) (xp1 : Int32) (xp2 : Int32) (H : Heap) (locs : List Loc) (g : JFrame) : Prop := W p l e (headSpec wsX11_shook ({ frames := 18, cells := 0, slots := 0, locals := 447 })).room s m ([.ref ap0, .int xp1, .int xp2] : List Value).toArray below meth c H locs 0 0 (MQ below (hq_e D T (fun v _ _ => ∃ r : Int32, v = some (.int r) ∧ True)) ([.ref ap0, .int xp1, .int xp2] : List Value).toArray s 0 0 (hp_F T)) g
set_option maxHeartbeats 4000000 in
set_option maxRecDepth 100000 in
theorem sX11_shook (l : Launch) (D : hp_D) (T : hp_T) (ap0 : Nat) (xp1 : Int32) (xp2 : Int32) (Ru : Nat → Prop) (hRu : ∀ b, Ru b → isRule T b) (ap0tp ap0tr ap0rr ap0rl ap0nw ap0im ap0tl ap0sk ap0iq ap0pa ap0sn ap0be : Nat) (hp0 : T ap0 = some (.inr (11, [(rR ap0tp), (rR ap0tr), (rR ap0rr), (rR ap0rl), (rI 0 6), (rR ap0nw), (rR ap0im), (rR ap0tl), (rR ap0sk), (rR ap0iq), (rR ap0pa), (rR ap0sn), (rR ap0be)]))) (ip0tp : isTape T ap0tp) (ip0tr : isTownReader T ap0tr) (ip0rr : isRuleReader T ap0rr) (hp0rl : T ap0rl = some (.inl (5, 6, fun _ => rN Ru))) (pxp0 : Value → Prop) (ip0nw : isMemory T ap0nw pxp0) (pimp0 : Nat → Value → Prop) (hp0im : T ap0im = some (.inl (4, 4, pimp0))) (ip0tl : isTown T ap0tl) (ip0sk : isShaker T Ru ap0sk) (ip0iq : isWorlds T ap0iq) (ip0pa : isParity T ap0pa) (ip0sn : isShuns T ap0sn) (ip0be : isBest T ap0be) : Met l yX11_shook wsX11_shook ({ frames := 18, cells := 0, slots := 0, locals := 447 }) (hp_Pc D T [.ref ap0, .int xp1, .int xp2] (fun _ => True)) (hq_e D T (fun v _ _ => ∃ r : Int32, v = some (.int r) ∧ True)) 0 0 (hp_F T) := by
  obtain ⟨ap0tpbt, hp0tp, hp0tpbt⟩ := id ip0tp
  obtain ⟨ap0trtp, ap0trtw, hp0tr, ip0trtp, ip0trtw⟩ := id ip0tr
  obtain ⟨ap0trtpbt, hp0trtp, hp0trtpbt⟩ := id ip0trtp
  obtain ⟨ap0trtwkin, ap0trtwpl, ap0trtwcr, hp0trtw, hp0trtwkin, hp0trtwpl, hp0trtwcr⟩ := id ip0trtw
  obtain ⟨ap0rrtp, ap0rrstp, hp0rr, ip0rrtp, hp0rrstp⟩ := id ip0rr
  obtain ⟨ap0rrtpbt, hp0rrtp, hp0rrtpbt⟩ := id ip0rrtp
  obtain ⟨ap0nwtw, ap0nwtg, ap0nwth, ap0nwts, ap0nwpm, ap0nwak, ap0nwao, ap0nwah, ap0nwaw, hp0nw, ip0nwtw, hp0nwtg, hp0nwth, hp0nwts, hp0nwpm, hp0nwak, hp0nwao, hp0nwah, hp0nwaw⟩ := id ip0nw
  obtain ⟨ap0nwtwkin, ap0nwtwpl, ap0nwtwcr, hp0nwtw, hp0nwtwkin, hp0nwtwpl, hp0nwtwcr⟩ := id ip0nwtw
  obtain ⟨ap0tlkin, ap0tlpl, ap0tlcr, hp0tl, hp0tlkin, hp0tlpl, hp0tlcr⟩ := id ip0tl
  obtain ⟨ap0skwd, ap0sksk, ap0skth, hp0sk, hp0skwd, hp0sksk, hp0skth⟩ := id ip0sk
  obtain ⟨ap0iqfi, ap0iqwo, ap0iqsu, ap0iqsh, ap0iqme, ap0iqs1, ap0iqs2, hp0iq, hp0iqfi, hp0iqwo, hp0iqsu, hp0iqsh, hp0iqme, hp0iqs1, hp0iqs2⟩ := id ip0iq
  obtain ⟨ap0pabo, hp0pa, hp0pabo⟩ := id ip0pa
  obtain ⟨ap0snle, ap0sngr, ap0sndu, ap0snit, ap0snop, hp0sn, hp0snle, hp0sngr, hp0sndu, hp0snit, hp0snop⟩ := id ip0sn
  have hp0be : T ap0be = some (.inr (0, [(rI 0 1), rA, rA, rA])) := ip0be
  refine Met.ofW (cc := cX11_shook) (maxL := 6) (ret := (some .int)) (by decide) rfl ?_
  intro p e s m args below meth c s₁ B hml hv
  obtain ⟨rfl, hok, hG, hB⟩ := hv
  have hx := B.exec
  have hb := B.bytes
  have hr := B.returns
  have hts := atoms_spec (ws := wsX11_shook) B.pre
  have hown : s.vm.findClass RX11 = some m.cls := findClass_of_methodNamed B.named
  have hlocks := B.notSynchronized
  have hK := hG.1
  have hw : hp_w D T s s.heap [] := hp_w.rf hok
  have IX1 : ∀ w ∈ wsX10, w ∈ wsX11_shook := by decide +kernel
  have IX11 : ∀ w ∈ wsX110, w ∈ wsX11_shook := by decide +kernel
  have L45 := hts (.fieldLink RX11 45 "PalmCensus" "now" "LPalmCensus$Memory;") (by decide +kernel)
  have L116 := hts (.fieldLink RX11 116 "PalmCensus$Memory" "town" "LPalmCensus$Town;") (by decide +kernel)
  have L84 := hts (.fieldLink RX11 84 "PalmCensus" "shunning" "LPalmCensus$Shuns;") (by decide +kernel)
  have Mmax183_1 := hts (.methodLink RX11 183 Lib.Math.max.name) (by decide +kernel)
  have Mmax183_2 := hts (.static Lib.Math.max.name) (by decide +kernel)
  have Mmax183_3 := hts (.initialized "java/lang/Math") (by decide +kernel)
  have Mmax183_4 := hts (.code Lib.Math.max.name Lib.Math.max.code 2 (some .int)) (by decide +kernel)
  have Mmin178_1 := hts (.methodLink RX11 178 Lib.Math.min.name) (by decide +kernel)
  have Mmin178_2 := hts (.static Lib.Math.min.name) (by decide +kernel)
  have Mmin178_3 := hts (.initialized "java/lang/Math") (by decide +kernel)
  have Mmin178_4 := hts (.code Lib.Math.min.name Lib.Math.min.code 2 (some .int)) (by decide +kernel)
  have hl := lv_entry ([.ref ap0, .int xp1, .int xp2]) (n := 6) (Nat.le_of_ble_eq_true rfl)
  rw [lg_entry_eq]
  generalize (lg_sl ([.ref ap0, .int xp1, .int xp2]) ++ List.replicate (6 - (lg_sl ([.ref ap0, .int xp1, .int xp2])).length) Slot.unset).toArray = ls at hl ⊢
  have hl : lv_has ls 6 [(0, .ref ap0), (1, .int xp1), (2, .int xp2)] := hl
  show WX11_shook p l e s m below meth c D T ap0 xp1 xp2 s.heap [] (F0 m 0 ls [])
  refine lv_aload_n hx hb dX11_shook_0 rfl (lv_at hl 0 rfl) ?_
  refine hp_getr hx hb hts IX11 hown hK hw.1 hp0 rfl 5 (by decide) L45 rfl dX11_shook_1 ?_
  refine hp_getr hx hb hts IX1 hown hK hw.1 hp0nw rfl 0 (by decide) L116 rfl dX11_shook_4 ?_
  refine lv_astore_n (lv' := [(3, .ref ap0nwtw), (0, .ref ap0), (1, .int xp1), (2, .int xp2)]) hx hb dX11_shook_7 rfl hl (by decide) rfl (fun ls hl => ?_)
  refine lv_aload_n hx hb dX11_shook_8 rfl (lv_at hl 0 rfl) ?_
  refine lv_iload_n hx hb dX11_shook_9 rfl (lv_at hl 2 rfl) ?_
  refine hp_callpi (va_runV (As := [.int xp1]) (rest := []) ⟨hx, hb, hml, hown, hts⟩ (sX8_isPerson l D T ap0nwtw xp1 ip0nwtw) (cwV 1 hts gX11_shook_X8_isPerson rfl rfl rfl (by decide +kernel) ⟨Nat.le_of_ble_eq_true rfl, Nat.le_of_ble_eq_true rfl⟩) (hp_preV hG hw hp0nwtw rfl trivial) rfl rfl hl.1 rfl (lv_room (Nat.le_of_ble_eq_true rfl)) dX11_shook_10 ⟨Nat.zero_le _, Nat.zero_le _⟩) (fun x10 bx10 => ?_)
  obtain ⟨bx10, ix10_0⟩ := bx10
  have J36 : ∀ (H : Heap) (locs : List Loc), hp_w D T s H locs → ∀ (ls : Array Slot), lv_has ls 6 [] → WX11_shook p l e s m below meth c D T ap0 xp1 xp2 H locs (F0 m 36 ls []) := by
    intro H36 locs36 hw ls hl
    refine lv_iconst (v := (-1)) hx hb dX11_shook_36 (by decide) ?_
    exact W.iret (v := (-1)) hx hb hr (fun t ht hW => ⟨some (.int (-1)), rfl, ⟨((-1) : Int32), rfl, trivial⟩, by rw [ht]; exact hw.1, hw.2.F ht⟩) hw.2.2.2 dX11_shook_37
  refine lv_if_eq (tgt := 36) hx hb dX11_shook_13 (by decide) (fun c13 => ?_) (fun c13 => ?_)
  · have r13tp : iv x10 0 0 := (iv_both bx10 (iv_eq (show iv 0 0 0 from ⟨by decide, by decide⟩) c13)).mono (by decide) (by decide)
    exact J36 s.heap [] hw _ (lv_sub hl [] rfl)
  · have r13fp : iv x10 1 1 := (iv_ne_lo c13 bx10 rfl).mono (by decide) (by decide)
    have r13fpz : iv xp1 0 9 := (iv_both (iv_any xp1) (ix10_0 (iv_ne0 r13fp (by decide)))).mono (by decide) (by decide)
    refine lv_aload_n hx hb dX11_shook_16 rfl (lv_at hl 0 rfl) ?_
    refine lv_iload_n hx hb dX11_shook_17 rfl (lv_at hl 3 rfl) ?_
    refine hp_callpi (va_runV (As := [.int xp2]) (rest := []) ⟨hx, hb, hml, hown, hts⟩ (sX8_isPerson l D T ap0nwtw xp2 ip0nwtw) (cwV 1 hts gX11_shook_X8_isPerson rfl rfl rfl (by decide +kernel) ⟨Nat.le_of_ble_eq_true rfl, Nat.le_of_ble_eq_true rfl⟩) (hp_preV hG hw hp0nwtw rfl trivial) rfl rfl hl.1 rfl (lv_room (Nat.le_of_ble_eq_true rfl)) dX11_shook_18 ⟨Nat.zero_le _, Nat.zero_le _⟩) (fun x18 bx18 => ?_)
    obtain ⟨bx18, ix18_0⟩ := bx18
    refine lv_if_eq (tgt := 36) hx hb dX11_shook_21 (by decide) (fun c21 => ?_) (fun c21 => ?_)
    · have r21tp : iv x18 0 0 := (iv_both bx18 (iv_eq (show iv 0 0 0 from ⟨by decide, by decide⟩) c21)).mono (by decide) (by decide)
      exact J36 s.heap [] hw _ (lv_sub hl [] rfl)
    · have r21fp : iv x18 1 1 := (iv_ne_lo c21 bx18 rfl).mono (by decide) (by decide)
      have r21fpz : iv xp2 0 9 := (iv_both (iv_any xp2) (ix18_0 (iv_ne0 r21fp (by decide)))).mono (by decide) (by decide)
      refine lv_aload_n hx hb dX11_shook_24 rfl (lv_at hl 0 rfl) ?_
      refine lv_iload_n hx hb dX11_shook_25 rfl (lv_at hl 2 rfl) ?_
      refine hp_callpi (va_runV (As := [.int xp1]) (rest := []) ⟨hx, hb, hml, hown, hts⟩ (sX8_company l D T ap0nwtw xp1 ip0nwtw) (cwV 1 hts gX11_shook_X8_company rfl rfl rfl (by decide +kernel) ⟨Nat.le_of_ble_eq_true rfl, Nat.le_of_ble_eq_true rfl⟩) (hp_preV hG hw hp0nwtw rfl trivial) rfl rfl hl.1 rfl (lv_room (Nat.le_of_ble_eq_true rfl)) dX11_shook_26 ⟨Nat.zero_le _, Nat.zero_le _⟩) (fun x26 bx26 => ?_)
      refine lv_iload_n hx hb dX11_shook_29 rfl (lv_at hl 3 rfl) ?_
      refine lv_ishr hx hb dX11_shook_30 ?_
      refine lv_topi (fun x30 ex30 => ?_)
      refine lv_iconst (v := 1) hx hb dX11_shook_31 (by decide) ?_
      refine lv_iand hx hb dX11_shook_32 ?_
      refine lv_topi (fun x32 ex32 => ?_)
      have bx32 : iv x32 0 1 := iv_and_r (show iv 1 0 1 from ⟨by decide, by decide⟩) ex32
      refine lv_if_ne (tgt := 38) hx hb dX11_shook_33 (by decide) (fun c33 => ?_) (fun c33 => ?_)
      · have r33tp : iv x32 1 1 := (iv_ne_lo c33 bx32 rfl).mono (by decide) (by decide)
        refine lv_aload_n hx hb dX11_shook_38 rfl (lv_at hl 0 rfl) ?_
        refine hp_callpi (va_runV (As := []) (rest := []) ⟨hx, hb, hml, hown, hts⟩ (sX8_meetingTwos l D T ap0nwtw ip0nwtw) (cwV 0 hts gX11_shook_X8_meetingTwos rfl rfl rfl (by decide +kernel) ⟨Nat.le_of_ble_eq_true rfl, Nat.le_of_ble_eq_true rfl⟩) (hp_preV hG hw hp0nwtw rfl trivial) rfl rfl hl.1 rfl (lv_room (Nat.le_of_ble_eq_true rfl)) dX11_shook_39 ⟨Nat.zero_le _, Nat.zero_le _⟩) (fun x39 bx39 => ?_)
        refine lv_bipush (v := 16) hx hb dX11_shook_42 (by decide) ?_
        refine lv_icmp_le (tgt := 50) hx hb dX11_shook_44 (by decide) (fun c44 => ?_) (fun c44 => ?_)
        · have r44tp : iv x39 (-2147483648) 16 := (iv_le_l c44 (iv_any x39) (show iv 16 16 16 from ⟨by decide, by decide⟩)).mono (by decide) (by decide)
          refine lv_aload_n hx hb dX11_shook_50 rfl (lv_at hl 1 rfl) ?_
          refine hp_getr hx hb hts IX11 hown hK hw.1 hp0 rfl 11 (by decide) L84 rfl dX11_shook_51 ?_
          refine lv_aload_n hx hb dX11_shook_54 rfl (lv_at hl 1 rfl) ?_
          refine hp_getr hx hb hts IX11 hown hK hw.1 hp0 rfl 5 (by decide) L45 rfl dX11_shook_55 ?_
          refine hp_callev (va_runV (As := [.ref ap0nw]) (rest := []) ⟨hx, hb, hml, hown, hts⟩ (sX6_learn l D T ap0sn ap0nw ip0sn pxp0 ip0nw) (cwV 1 hts gX11_shook_X6_learn rfl rfl rfl (by decide +kernel) ⟨Nat.le_of_ble_eq_true rfl, Nat.le_of_ble_eq_true rfl⟩) (hp_preV hG hw hp0sn rfl trivial) rfl rfl hl.1 rfl (lv_room (Nat.le_of_ble_eq_true rfl)) dX11_shook_58 ⟨Nat.zero_le _, Nat.zero_le _⟩) hw (fun st58 t58 H58 locs58 eh58 eg58 bx58 hw => ?_)
          refine lv_aload_n hx hb dX11_shook_61 rfl (lv_at hl 1 rfl) ?_
          refine hp_getr hx hb hts IX11 hown hK hw.1 hp0 rfl 11 (by decide) L84 rfl dX11_shook_62 ?_
          refine lv_iconst (v := (-1)) hx hb dX11_shook_65 (by decide) ?_
          refine hp_callei (va_runV (As := [.int (-1)]) (rest := []) ⟨hx, hb, hml, hown, hts⟩ (sX6_waysWith l D T ap0sn ((-1) : Int32) ip0sn) (cwV 1 hts gX11_shook_X6_waysWith rfl rfl rfl (by decide +kernel) ⟨Nat.le_of_ble_eq_true rfl, Nat.le_of_ble_eq_true rfl⟩) (hp_preV hG hw hp0sn rfl trivial) rfl rfl hl.1 rfl (lv_room (Nat.le_of_ble_eq_true rfl)) dX11_shook_66 ⟨Nat.zero_le _, Nat.zero_le _⟩) hw (fun x66 st66 t66 H66 locs66 eh66 eg66 bx66 hw => ?_)
          refine lv_istore (lv' := [(4, .int x66), (3, .ref ap0nwtw), (0, .ref ap0), (1, .int xp1), (2, .int xp2)]) hx hb dX11_shook_69 hl (by decide) rfl (fun ls hl => ?_)
          refine lv_iload hx hb dX11_shook_71 (lv_at hl 0 rfl) ?_
          refine lv_if_ne (tgt := 79) hx hb dX11_shook_73 (by decide) (fun c73 => ?_) (fun c73 => ?_)
          · refine lv_aload_n hx hb dX11_shook_79 rfl (lv_at hl 2 rfl) ?_
            refine hp_getr hx hb hts IX11 hown hK hw.1 hp0 rfl 11 (by decide) L84 rfl dX11_shook_80 ?_
            refine lv_aload_n hx hb dX11_shook_83 rfl (lv_at hl 2 rfl) ?_
            refine hp_getr hx hb hts IX11 hown hK hw.1 hp0 rfl 11 (by decide) L84 rfl dX11_shook_84 ?_
            refine lv_iload_n hx hb dX11_shook_87 rfl (lv_at hl 3 rfl) ?_
            refine lv_iload_n hx hb dX11_shook_88 rfl (lv_at hl 4 rfl) ?_
            refine va_mmin hx hb (by rw [hml]; exact hl.1.symm) hown Mmin178_1 Mmin178_2 Mmin178_3 Mmin178_4 (Nat.le_of_ble_eq_true rfl) (Nat.le_of_ble_eq_true rfl) (Nat.zero_le _) (Nat.zero_le _) dX11_shook_89 ?_
            refine lv_topi (fun x89 ex89 => ?_)
            have bx89 : iv x89 0 9 := iv_min r13fpz r21fpz ex89 (by decide)
            refine lv_iload_n hx hb dX11_shook_92 rfl (lv_at hl 3 rfl) ?_
            refine lv_iload_n hx hb dX11_shook_93 rfl (lv_at hl 4 rfl) ?_
            refine va_mmax hx hb (by rw [hml]; exact hl.1.symm) hown Mmax183_1 Mmax183_2 Mmax183_3 Mmax183_4 (Nat.le_of_ble_eq_true rfl) (Nat.le_of_ble_eq_true rfl) (Nat.zero_le _) (Nat.zero_le _) dX11_shook_94 ?_
            refine lv_topi (fun x94 ex94 => ?_)
            have bx94 : iv x94 0 9 := iv_max r13fpz r21fpz ex94 (by decide)
            refine hp_callpi (va_runV (As := [.int x89, .int x94]) (rest := [.ref ap0sn]) ⟨hx, hb, hml, hown, hts⟩ (sX6_numberOf l D T ap0sn x89 x94 ip0sn) (cwV 2 hts gX11_shook_X6_numberOf rfl rfl rfl (by decide +kernel) ⟨Nat.le_of_ble_eq_true rfl, Nat.le_of_ble_eq_true rfl⟩) (hp_preV hG hw hp0sn rfl trivial) rfl rfl hl.1 rfl (lv_room (Nat.le_of_ble_eq_true rfl)) dX11_shook_97 ⟨Nat.zero_le _, Nat.zero_le _⟩) (fun x97 bx97 => ?_)
            refine hp_callei (va_runV (As := [.int x97]) (rest := []) ⟨hx, hb, hml, hown, hts⟩ (sX6_waysWith l D T ap0sn x97 ip0sn) (cwV 1 hts gX11_shook_X6_waysWith rfl rfl rfl (by decide +kernel) ⟨Nat.le_of_ble_eq_true rfl, Nat.le_of_ble_eq_true rfl⟩) (hp_preV hG hw hp0sn rfl trivial) rfl rfl hl.1 rfl (lv_room (Nat.le_of_ble_eq_true rfl)) dX11_shook_100 ⟨Nat.zero_le _, Nat.zero_le _⟩) hw (fun x100 st100 t100 H100 locs100 eh100 eg100 bx100 hw => ?_)
            refine lv_istore (lv' := [(5, .int x100), (4, .int x66), (3, .ref ap0nwtw), (0, .ref ap0), (1, .int xp1), (2, .int xp2)]) hx hb dX11_shook_103 hl (by decide) rfl (fun ls hl => ?_)
            refine lv_iload hx hb dX11_shook_105 (lv_at hl 0 rfl) ?_
            refine lv_if_ne (tgt := 112) hx hb dX11_shook_107 (by decide) (fun c107 => ?_) (fun c107 => ?_)
            · refine lv_iload hx hb dX11_shook_112 (lv_at hl 0 rfl) ?_
              refine lv_iload hx hb dX11_shook_114 (lv_at hl 1 rfl) ?_
              have J124 : ∀ (y124_s0 : Int32), iv y124_s0 1 2 → ∀ (H : Heap) (locs : List Loc), hp_w D T s H locs → ∀ (ls : Array Slot), lv_has ls 6 [] → WX11_shook p l e s m below meth c D T ap0 xp1 xp2 H locs (F0 m 124 ls [.int y124_s0]) := by
                intro y124_s0 c124_y124_s0 H124 locs124 hw ls hl
                exact W.iret (v := y124_s0) hx hb hr (fun t ht hW => ⟨some (.int y124_s0), rfl, ⟨y124_s0, rfl, trivial⟩, by rw [ht]; exact hw.1, hw.2.F ht⟩) hw.2.2.2 dX11_shook_124
              refine lv_icmp_ne (tgt := 123) hx hb dX11_shook_116 (by decide) (fun c116 => ?_) (fun c116 => ?_)
              · refine lv_iconst (v := 2) hx hb dX11_shook_123 (by decide) ?_
                exact J124 (2 : Int32) (show iv 2 1 2 from ⟨by decide, by decide⟩) H100 locs100 hw _ (lv_sub hl [] rfl)
              · refine lv_iconst (v := 1) hx hb dX11_shook_119 (by decide) ?_
                refine lv_goto (tgt := 124) hx hb dX11_shook_120 (by decide) ?_
                exact J124 (1 : Int32) (show iv 1 1 2 from ⟨by decide, by decide⟩) H100 locs100 hw _ (lv_sub hl [] rfl)
            · have r107fp : iv x100 0 0 := (iv_both (iv_any x100) (iv_eq (show iv 0 0 0 from ⟨by decide, by decide⟩) c107)).mono (by decide) (by decide)
              refine lv_iconst (v := 0) hx hb dX11_shook_110 (by decide) ?_
              exact W.iret (v := 0) hx hb hr (fun t ht hW => ⟨some (.int 0), rfl, ⟨(0 : Int32), rfl, trivial⟩, by rw [ht]; exact hw.1, hw.2.F ht⟩) hw.2.2.2 dX11_shook_111
          · have r73fp : iv x66 0 0 := (iv_both (iv_any x66) (iv_eq (show iv 0 0 0 from ⟨by decide, by decide⟩) c73)).mono (by decide) (by decide)
            refine lv_bipush (v := (-2)) hx hb dX11_shook_76 (by decide) ?_
            exact W.iret (v := (-2)) hx hb hr (fun t ht hW => ⟨some (.int (-2)), rfl, ⟨((-2) : Int32), rfl, trivial⟩, by rw [ht]; exact hw.1, hw.2.F ht⟩) hw.2.2.2 dX11_shook_78
        · have r44fq : iv x39 17 2147483647 := (iv_lt_r (iv_nle c44) (show iv 16 16 16 from ⟨by decide, by decide⟩) (iv_any x39)).mono (by decide) (by decide)
          refine lv_bipush (v := (-3)) hx hb dX11_shook_47 (by decide) ?_
          exact W.iret (v := (-3)) hx hb hr (fun t ht hW => ⟨some (.int (-3)), rfl, ⟨((-3) : Int32), rfl, trivial⟩, by rw [ht]; exact hw.1, hw.2.F ht⟩) hw.2.2.2 dX11_shook_49
      · have r33fp : iv x32 0 0 := (iv_both bx32 (iv_eq (show iv 0 0 0 from ⟨by decide, by decide⟩) c33)).mono (by decide) (by decide)
        exact J36 s.heap [] hw _ (lv_sub hl [] rfl)
abbrev WX11_passes (p : Program) (l : Launch) (e : Env) (s : State) (m : MethodId) (below : List Frame) (meth : Method) (c : Code) (D : hp_D) (T : hp_T) (ap0 : Nat) (xp1 : Int32) (xp2 : Int32) (H : Heap) (locs : List Loc) (g : JFrame) : Prop := W p l e (headSpec wsX11_passes ({ frames := 3, cells := 0, slots := 0, locals := 68 })).room s m ([.ref ap0, .int xp1, .int xp2] : List Value).toArray below meth c H locs 0 0 (MQ below (hq_p (fun v => ∃ r : Int32, v = some (.int r) ∧ True)) ([.ref ap0, .int xp1, .int xp2] : List Value).toArray s 0 0 (fun _ => False)) g
set_option maxHeartbeats 4000000 in
set_option maxRecDepth 100000 in
theorem sX11_passes (l : Launch) (D : hp_D) (T : hp_T) (ap0 : Nat) (xp1 : Int32) (xp2 : Int32) (Ru : Nat → Prop) (hRu : ∀ b, Ru b → isRule T b) (ap0tp ap0tr ap0rr ap0rl ap0nw ap0im ap0tl ap0sk ap0iq ap0pa ap0sn ap0be : Nat) (hp0 : T ap0 = some (.inr (11, [(rR ap0tp), (rR ap0tr), (rR ap0rr), (rR ap0rl), (rI 0 6), (rR ap0nw), (rR ap0im), (rR ap0tl), (rR ap0sk), (rR ap0iq), (rR ap0pa), (rR ap0sn), (rR ap0be)]))) (ip0tp : isTape T ap0tp) (ip0tr : isTownReader T ap0tr) (ip0rr : isRuleReader T ap0rr) (hp0rl : T ap0rl = some (.inl (5, 6, fun _ => rN Ru))) (pxp0 : Value → Prop) (ip0nw : isMemory T ap0nw pxp0) (pimp0 : Nat → Value → Prop) (hp0im : T ap0im = some (.inl (4, 4, pimp0))) (ip0tl : isTown T ap0tl) (ip0sk : isShaker T Ru ap0sk) (ip0iq : isWorlds T ap0iq) (ip0pa : isParity T ap0pa) (ip0sn : isShuns T ap0sn) (ip0be : isBest T ap0be) : Met l yX11_passes wsX11_passes ({ frames := 3, cells := 0, slots := 0, locals := 68 }) (hp_Pc D T [.ref ap0, .int xp1, .int xp2] (fun _ => True)) (hq_p (fun v => ∃ r : Int32, v = some (.int r) ∧ True)) 0 0 (fun _ => False) := by
  obtain ⟨ap0tpbt, hp0tp, hp0tpbt⟩ := id ip0tp
  obtain ⟨ap0trtp, ap0trtw, hp0tr, ip0trtp, ip0trtw⟩ := id ip0tr
  obtain ⟨ap0trtpbt, hp0trtp, hp0trtpbt⟩ := id ip0trtp
  obtain ⟨ap0trtwkin, ap0trtwpl, ap0trtwcr, hp0trtw, hp0trtwkin, hp0trtwpl, hp0trtwcr⟩ := id ip0trtw
  obtain ⟨ap0rrtp, ap0rrstp, hp0rr, ip0rrtp, hp0rrstp⟩ := id ip0rr
  obtain ⟨ap0rrtpbt, hp0rrtp, hp0rrtpbt⟩ := id ip0rrtp
  obtain ⟨ap0nwtw, ap0nwtg, ap0nwth, ap0nwts, ap0nwpm, ap0nwak, ap0nwao, ap0nwah, ap0nwaw, hp0nw, ip0nwtw, hp0nwtg, hp0nwth, hp0nwts, hp0nwpm, hp0nwak, hp0nwao, hp0nwah, hp0nwaw⟩ := id ip0nw
  obtain ⟨ap0nwtwkin, ap0nwtwpl, ap0nwtwcr, hp0nwtw, hp0nwtwkin, hp0nwtwpl, hp0nwtwcr⟩ := id ip0nwtw
  obtain ⟨ap0tlkin, ap0tlpl, ap0tlcr, hp0tl, hp0tlkin, hp0tlpl, hp0tlcr⟩ := id ip0tl
  obtain ⟨ap0skwd, ap0sksk, ap0skth, hp0sk, hp0skwd, hp0sksk, hp0skth⟩ := id ip0sk
  obtain ⟨ap0iqfi, ap0iqwo, ap0iqsu, ap0iqsh, ap0iqme, ap0iqs1, ap0iqs2, hp0iq, hp0iqfi, hp0iqwo, hp0iqsu, hp0iqsh, hp0iqme, hp0iqs1, hp0iqs2⟩ := id ip0iq
  obtain ⟨ap0pabo, hp0pa, hp0pabo⟩ := id ip0pa
  obtain ⟨ap0snle, ap0sngr, ap0sndu, ap0snit, ap0snop, hp0sn, hp0snle, hp0sngr, hp0sndu, hp0snit, hp0snop⟩ := id ip0sn
  have hp0be : T ap0be = some (.inr (0, [(rI 0 1), rA, rA, rA])) := ip0be
  refine Met.ofW (cc := cX11_passes) (maxL := 6) (ret := (some .int)) (by decide) rfl ?_
  intro p e s m args below meth c s₁ B hml hv
  obtain ⟨rfl, hok, hG, hB⟩ := hv
  have hx := B.exec
  have hb := B.bytes
  have hr := B.returns
  have hts := atoms_spec (ws := wsX11_passes) B.pre
  have hown : s.vm.findClass RX11 = some m.cls := findClass_of_methodNamed B.named
  have hlocks := B.notSynchronized
  have hK := hG.1
  have hw : hp_w D T s s.heap [] := hp_w.rf hok
  have IX1 : ∀ w ∈ wsX10, w ∈ wsX11_passes := by decide +kernel
  have IX11 : ∀ w ∈ wsX110, w ∈ wsX11_passes := by decide +kernel
  have IX8 : ∀ w ∈ wsX80, w ∈ wsX11_passes := by decide +kernel
  have L45 := hts (.fieldLink RX11 45 "PalmCensus" "now" "LPalmCensus$Memory;") (by decide +kernel)
  have L116 := hts (.fieldLink RX11 116 "PalmCensus$Memory" "town" "LPalmCensus$Town;") (by decide +kernel)
  have L215 := hts (.fieldLink RX11 215 "PalmCensus$Town" "hours" "I") (by decide +kernel)
  have hl := lv_entry ([.ref ap0, .int xp1, .int xp2]) (n := 6) (Nat.le_of_ble_eq_true rfl)
  rw [lg_entry_eq]
  generalize (lg_sl ([.ref ap0, .int xp1, .int xp2]) ++ List.replicate (6 - (lg_sl ([.ref ap0, .int xp1, .int xp2])).length) Slot.unset).toArray = ls at hl ⊢
  have hl : lv_has ls 6 [(0, .ref ap0), (1, .int xp1), (2, .int xp2)] := hl
  show WX11_passes p l e s m below meth c D T ap0 xp1 xp2 s.heap [] (F0 m 0 ls [])
  refine lv_aload_n hx hb dX11_passes_0 rfl (lv_at hl 0 rfl) ?_
  refine hp_getr hx hb hts IX11 hown hK hw.1 hp0 rfl 5 (by decide) L45 rfl dX11_passes_1 ?_
  refine hp_getr hx hb hts IX1 hown hK hw.1 hp0nw rfl 0 (by decide) L116 rfl dX11_passes_4 ?_
  refine lv_astore_n (lv' := [(3, .ref ap0nwtw), (0, .ref ap0), (1, .int xp1), (2, .int xp2)]) hx hb dX11_passes_7 rfl hl (by decide) rfl (fun ls hl => ?_)
  refine lv_aload_n hx hb dX11_passes_8 rfl (lv_at hl 0 rfl) ?_
  refine lv_iload_n hx hb dX11_passes_9 rfl (lv_at hl 2 rfl) ?_
  refine hp_callpi (va_runV (As := [.int xp1]) (rest := []) ⟨hx, hb, hml, hown, hts⟩ (sX8_isPerson l D T ap0nwtw xp1 ip0nwtw) (cwV 1 hts gX11_passes_X8_isPerson rfl rfl rfl (by decide +kernel) ⟨Nat.le_of_ble_eq_true rfl, Nat.le_of_ble_eq_true rfl⟩) (hp_preV hG hw hp0nwtw rfl trivial) rfl rfl hl.1 rfl (lv_room (Nat.le_of_ble_eq_true rfl)) dX11_passes_10 ⟨Nat.zero_le _, Nat.zero_le _⟩) (fun x10 bx10 => ?_)
  obtain ⟨bx10, ix10_0⟩ := bx10
  have J24 : ∀ (ls : Array Slot), lv_has ls 6 [] → WX11_passes p l e s m below meth c D T ap0 xp1 xp2 s.heap [] (F0 m 24 ls []) := by
    intro ls hl
    refine lv_bipush (v := (-3)) hx hb dX11_passes_24 (by decide) ?_
    exact W.iret (v := (-3)) hx hb hr (fun t ht hW => ⟨some (.int (-3)), rfl, ⟨((-3) : Int32), rfl, trivial⟩, ht⟩) (fun q h => by cases h) dX11_passes_26
  refine lv_if_eq (tgt := 24) hx hb dX11_passes_13 (by decide) (fun c13 => ?_) (fun c13 => ?_)
  · have r13tp : iv x10 0 0 := (iv_both bx10 (iv_eq (show iv 0 0 0 from ⟨by decide, by decide⟩) c13)).mono (by decide) (by decide)
    exact J24 _ (lv_sub hl [] rfl)
  · have r13fp : iv x10 1 1 := (iv_ne_lo c13 bx10 rfl).mono (by decide) (by decide)
    have r13fpz : iv xp1 0 9 := (iv_both (iv_any xp1) (ix10_0 (iv_ne0 r13fp (by decide)))).mono (by decide) (by decide)
    refine lv_aload_n hx hb dX11_passes_16 rfl (lv_at hl 0 rfl) ?_
    refine lv_iload_n hx hb dX11_passes_17 rfl (lv_at hl 3 rfl) ?_
    refine hp_callpi (va_runV (As := [.int xp2]) (rest := []) ⟨hx, hb, hml, hown, hts⟩ (sX8_isPerson l D T ap0nwtw xp2 ip0nwtw) (cwV 1 hts gX11_passes_X8_isPerson rfl rfl rfl (by decide +kernel) ⟨Nat.le_of_ble_eq_true rfl, Nat.le_of_ble_eq_true rfl⟩) (hp_preV hG hw hp0nwtw rfl trivial) rfl rfl hl.1 rfl (lv_room (Nat.le_of_ble_eq_true rfl)) dX11_passes_18 ⟨Nat.zero_le _, Nat.zero_le _⟩) (fun x18 bx18 => ?_)
    obtain ⟨bx18, ix18_0⟩ := bx18
    refine lv_if_ne (tgt := 27) hx hb dX11_passes_21 (by decide) (fun c21 => ?_) (fun c21 => ?_)
    · have r21tp : iv x18 1 1 := (iv_ne_lo c21 bx18 rfl).mono (by decide) (by decide)
      have r21tpz : iv xp2 0 9 := (iv_both (iv_any xp2) (ix18_0 (iv_ne0 r21tp (by decide)))).mono (by decide) (by decide)
      refine lv_iload_n hx hb dX11_passes_27 rfl (lv_at hl 2 rfl) ?_
      refine lv_iload_n hx hb dX11_passes_28 rfl (lv_at hl 3 rfl) ?_
      refine lv_icmp_ne (tgt := 34) hx hb dX11_passes_29 (by decide) (fun c29 => ?_) (fun c29 => ?_)
      · refine lv_iconst (v := 1) hx hb dX11_passes_34 (by decide) ?_
        refine lv_iload_n hx hb dX11_passes_35 rfl (lv_at hl 2 rfl) ?_
        refine lv_ishl hx hb dX11_passes_36 ?_
        refine lv_topi (fun x36 ex36 => ?_)
        have bx36 : iv x36 1 512 := iv_shl 9 (show iv 1 1 1 from ⟨by decide, by decide⟩) r13fpz ex36 (by decide)
        refine lv_istore (lv' := [(4, .int x36), (3, .ref ap0nwtw), (0, .ref ap0), (1, .int xp1), (2, .int xp2)]) hx hb dX11_passes_37 hl (by decide) rfl (fun ls hl => ?_)
        refine lv_iconst (v := 0) hx hb dX11_passes_39 (by decide) ?_
        refine lv_istore (lv' := [(5, .int 0), (4, .int x36), (3, .ref ap0nwtw), (0, .ref ap0), (1, .int xp1), (2, .int xp2)]) hx hb dX11_passes_40 hl (by decide) rfl (fun ls hl => ?_)
        have J42 : ∀ (n : Nat) (y42_l4 y42_l5 : Int32), (12 - y42_l5.toInt).toNat < n → iv xp2 0 9 → iv y42_l5 0 12 → ∀ (ls : Array Slot), lv_has ls 6 [(2, .int xp2), (3, .ref ap0nwtw), (4, .int y42_l4), (5, .int y42_l5)] → WX11_passes p l e s m below meth c D T ap0 xp1 xp2 s.heap [] (F0 m 42 ls []) := by
          intro n
          induction n with
          | zero => intro y42_l4 y42_l5 hmu42 c42_xp2 c42_y42_l5 ls hl; exact absurd hmu42 (Nat.not_lt_zero _)
          | succ n ih42 =>
            intro y42_l4 y42_l5 hmu42 c42_xp2 c42_y42_l5 ls hl
            refine lv_iload hx hb dX11_passes_42 (lv_at hl 3 rfl) ?_
            refine lv_aload_n hx hb dX11_passes_44 rfl (lv_at hl 1 rfl) ?_
            refine hp_geti hx hb hts IX8 hown hK hw.1 hp0nwtw rfl 1 (by decide) L215 rfl dX11_passes_45 (fun x45 bx45 fx45 => ?_)
            refine lv_icmp_ge (tgt := 79) hx hb dX11_passes_48 (by decide) (fun c48 => ?_) (fun c48 => ?_)
            · refine lv_bipush (v := (-2)) hx hb dX11_passes_79 (by decide) ?_
              exact W.iret (v := (-2)) hx hb hr (fun t ht hW => ⟨some (.int (-2)), rfl, ⟨((-2) : Int32), rfl, trivial⟩, ht⟩) (fun q h => by cases h) dX11_passes_81
            · have r48fp : iv y42_l5 0 11 := (iv_lt_l (iv_nle c48) c42_y42_l5 bx45).mono (by decide) (by decide)
              have r48fq : iv x45 1 12 := (iv_lt_r (iv_nle c48) c42_y42_l5 bx45).mono (by decide) (by decide)
              refine lv_aload_n hx hb dX11_passes_51 rfl (lv_at hl 1 rfl) ?_
              refine lv_iload hx hb dX11_passes_52 (lv_at hl 2 rfl) ?_
              refine lv_iload hx hb dX11_passes_54 (lv_at hl 3 rfl) ?_
              refine hp_callpi (va_runV (As := [.int y42_l4, .int y42_l5]) (rest := []) ⟨hx, hb, hml, hown, hts⟩ (sX8_passedOn l D T ap0nwtw y42_l4 y42_l5 ip0nwtw) (cwV 2 hts gX11_passes_X8_passedOn rfl rfl rfl (by decide +kernel) ⟨Nat.le_of_ble_eq_true rfl, Nat.le_of_ble_eq_true rfl⟩) (hp_preV hG hw hp0nwtw rfl trivial) rfl rfl hl.1 rfl (lv_room (Nat.le_of_ble_eq_true rfl)) dX11_passes_56 ⟨Nat.zero_le _, Nat.zero_le _⟩) (fun x56 bx56 => ?_)
              refine lv_istore (lv' := [(4, .int x56), (2, .int xp2), (3, .ref ap0nwtw), (5, .int y42_l5)]) hx hb dX11_passes_59 hl (by decide) rfl (fun ls hl => ?_)
              refine lv_iload hx hb dX11_passes_61 (lv_at hl 0 rfl) ?_
              refine lv_iload_n hx hb dX11_passes_63 rfl (lv_at hl 1 rfl) ?_
              refine lv_ishr hx hb dX11_passes_64 ?_
              refine lv_topi (fun x64 ex64 => ?_)
              refine lv_iconst (v := 1) hx hb dX11_passes_65 (by decide) ?_
              refine lv_iand hx hb dX11_passes_66 ?_
              refine lv_topi (fun x66 ex66 => ?_)
              have bx66 : iv x66 0 1 := iv_and_r (show iv 1 0 1 from ⟨by decide, by decide⟩) ex66
              refine lv_if_eq (tgt := 73) hx hb dX11_passes_67 (by decide) (fun c67 => ?_) (fun c67 => ?_)
              · have r67tp : iv x66 0 0 := (iv_both bx66 (iv_eq (show iv 0 0 0 from ⟨by decide, by decide⟩) c67)).mono (by decide) (by decide)
                obtain ⟨x73, ex73⟩ : ∃ y : Int32, y = y42_l5 + 1 := ⟨_, rfl⟩
                have bx73 : iv x73 1 12 := iv_add r48fp (show iv 1 1 1 from ⟨by decide, by decide⟩) ex73 (by decide)
                have qx73 := iv_add_eq r48fp (show iv 1 1 1 from ⟨by decide, by decide⟩) ex73 (by decide)
                refine lv_iinc (v := x73) (lv' := [(5, .int x73), (4, .int x56), (2, .int xp2), (3, .ref ap0nwtw)]) hx hb dX11_passes_73 hl (k := 3) rfl (by rw [ex73]; rfl) (by decide) rfl (fun ls hl => ?_)
                refine lv_goto (tgt := 42) hx hb dX11_passes_76 (by decide) ?_
                exact ih42 x56 x73 (mu_up 1 hmu42 (qx73) (by decide) (show iv x73 0 12 from (bx73.mono (by decide) (by decide))).2) c42_xp2 (bx73.mono (by decide) (by decide)) _ (lv_sub hl [2, 3, 1, 0] rfl)
              · have r67fp : iv x66 1 1 := (iv_ne_lo c67 bx66 rfl).mono (by decide) (by decide)
                refine lv_iload hx hb dX11_passes_70 (lv_at hl 3 rfl) ?_
                exact W.iret (v := y42_l5) hx hb hr (fun t ht hW => ⟨some (.int y42_l5), rfl, ⟨y42_l5, rfl, trivial⟩, ht⟩) (fun q h => by cases h) dX11_passes_72
        exact J42 _ x36 (0 : Int32) (Nat.lt_succ_self _) r21tpz (show iv 0 0 12 from ⟨by decide, by decide⟩) _ (lv_sub hl [5, 2, 1, 0] rfl)
      · refine lv_iconst (v := (-1)) hx hb dX11_passes_32 (by decide) ?_
        exact W.iret (v := (-1)) hx hb hr (fun t ht hW => ⟨some (.int (-1)), rfl, ⟨((-1) : Int32), rfl, trivial⟩, ht⟩) (fun q h => by cases h) dX11_passes_33
    · have r21fp : iv x18 0 0 := (iv_both bx18 (iv_eq (show iv 0 0 0 from ⟨by decide, by decide⟩) c21)).mono (by decide) (by decide)
      exact J24 _ (lv_sub hl [] rfl)
abbrev WX11_have (p : Program) (l : Launch) (e : Env) (s : State) (m : MethodId) (below : List Frame) (meth : Method) (c : Code) (D : hp_D) (T : hp_T) (ap0 : Nat) (xp1 : Int32) (xp2 : Int32) (H : Heap) (locs : List Loc) (g : JFrame) : Prop := W p l e (headSpec wsX11_have ({ frames := 3, cells := 0, slots := 0, locals := 68 })).room s m ([.ref ap0, .int xp1, .int xp2] : List Value).toArray below meth c H locs 0 0 (MQ below (hq_p (fun v => ∃ r : Int32, v = some (.int r) ∧ True)) ([.ref ap0, .int xp1, .int xp2] : List Value).toArray s 0 0 (fun _ => False)) g
set_option maxHeartbeats 4000000 in
set_option maxRecDepth 100000 in
theorem sX11_have (l : Launch) (D : hp_D) (T : hp_T) (ap0 : Nat) (xp1 : Int32) (xp2 : Int32) (Ru : Nat → Prop) (hRu : ∀ b, Ru b → isRule T b) (ap0tp ap0tr ap0rr ap0rl ap0nw ap0im ap0tl ap0sk ap0iq ap0pa ap0sn ap0be : Nat) (hp0 : T ap0 = some (.inr (11, [(rR ap0tp), (rR ap0tr), (rR ap0rr), (rR ap0rl), (rI 0 6), (rR ap0nw), (rR ap0im), (rR ap0tl), (rR ap0sk), (rR ap0iq), (rR ap0pa), (rR ap0sn), (rR ap0be)]))) (ip0tp : isTape T ap0tp) (ip0tr : isTownReader T ap0tr) (ip0rr : isRuleReader T ap0rr) (hp0rl : T ap0rl = some (.inl (5, 6, fun _ => rN Ru))) (pxp0 : Value → Prop) (ip0nw : isMemory T ap0nw pxp0) (pimp0 : Nat → Value → Prop) (hp0im : T ap0im = some (.inl (4, 4, pimp0))) (ip0tl : isTown T ap0tl) (ip0sk : isShaker T Ru ap0sk) (ip0iq : isWorlds T ap0iq) (ip0pa : isParity T ap0pa) (ip0sn : isShuns T ap0sn) (ip0be : isBest T ap0be) : Met l yX11_have wsX11_have ({ frames := 3, cells := 0, slots := 0, locals := 68 }) (hp_Pc D T [.ref ap0, .int xp1, .int xp2] (fun _ => True)) (hq_p (fun v => ∃ r : Int32, v = some (.int r) ∧ True)) 0 0 (fun _ => False) := by
  obtain ⟨ap0tpbt, hp0tp, hp0tpbt⟩ := id ip0tp
  obtain ⟨ap0trtp, ap0trtw, hp0tr, ip0trtp, ip0trtw⟩ := id ip0tr
  obtain ⟨ap0trtpbt, hp0trtp, hp0trtpbt⟩ := id ip0trtp
  obtain ⟨ap0trtwkin, ap0trtwpl, ap0trtwcr, hp0trtw, hp0trtwkin, hp0trtwpl, hp0trtwcr⟩ := id ip0trtw
  obtain ⟨ap0rrtp, ap0rrstp, hp0rr, ip0rrtp, hp0rrstp⟩ := id ip0rr
  obtain ⟨ap0rrtpbt, hp0rrtp, hp0rrtpbt⟩ := id ip0rrtp
  obtain ⟨ap0nwtw, ap0nwtg, ap0nwth, ap0nwts, ap0nwpm, ap0nwak, ap0nwao, ap0nwah, ap0nwaw, hp0nw, ip0nwtw, hp0nwtg, hp0nwth, hp0nwts, hp0nwpm, hp0nwak, hp0nwao, hp0nwah, hp0nwaw⟩ := id ip0nw
  obtain ⟨ap0nwtwkin, ap0nwtwpl, ap0nwtwcr, hp0nwtw, hp0nwtwkin, hp0nwtwpl, hp0nwtwcr⟩ := id ip0nwtw
  obtain ⟨ap0tlkin, ap0tlpl, ap0tlcr, hp0tl, hp0tlkin, hp0tlpl, hp0tlcr⟩ := id ip0tl
  obtain ⟨ap0skwd, ap0sksk, ap0skth, hp0sk, hp0skwd, hp0sksk, hp0skth⟩ := id ip0sk
  obtain ⟨ap0iqfi, ap0iqwo, ap0iqsu, ap0iqsh, ap0iqme, ap0iqs1, ap0iqs2, hp0iq, hp0iqfi, hp0iqwo, hp0iqsu, hp0iqsh, hp0iqme, hp0iqs1, hp0iqs2⟩ := id ip0iq
  obtain ⟨ap0pabo, hp0pa, hp0pabo⟩ := id ip0pa
  obtain ⟨ap0snle, ap0sngr, ap0sndu, ap0snit, ap0snop, hp0sn, hp0snle, hp0sngr, hp0sndu, hp0snit, hp0snop⟩ := id ip0sn
  have hp0be : T ap0be = some (.inr (0, [(rI 0 1), rA, rA, rA])) := ip0be
  refine Met.ofW (cc := cX11_have) (maxL := 6) (ret := (some .int)) (by decide) rfl ?_
  intro p e s m args below meth c s₁ B hml hv
  obtain ⟨rfl, hok, hG, hB⟩ := hv
  have hx := B.exec
  have hb := B.bytes
  have hr := B.returns
  have hts := atoms_spec (ws := wsX11_have) B.pre
  have hown : s.vm.findClass RX11 = some m.cls := findClass_of_methodNamed B.named
  have hlocks := B.notSynchronized
  have hK := hG.1
  have hw : hp_w D T s s.heap [] := hp_w.rf hok
  have IX1 : ∀ w ∈ wsX10, w ∈ wsX11_have := by decide +kernel
  have IX11 : ∀ w ∈ wsX110, w ∈ wsX11_have := by decide +kernel
  have L45 := hts (.fieldLink RX11 45 "PalmCensus" "now" "LPalmCensus$Memory;") (by decide +kernel)
  have L116 := hts (.fieldLink RX11 116 "PalmCensus$Memory" "town" "LPalmCensus$Town;") (by decide +kernel)
  have hl := lv_entry ([.ref ap0, .int xp1, .int xp2]) (n := 6) (Nat.le_of_ble_eq_true rfl)
  rw [lg_entry_eq]
  generalize (lg_sl ([.ref ap0, .int xp1, .int xp2]) ++ List.replicate (6 - (lg_sl ([.ref ap0, .int xp1, .int xp2])).length) Slot.unset).toArray = ls at hl ⊢
  have hl : lv_has ls 6 [(0, .ref ap0), (1, .int xp1), (2, .int xp2)] := hl
  show WX11_have p l e s m below meth c D T ap0 xp1 xp2 s.heap [] (F0 m 0 ls [])
  refine lv_aload_n hx hb dX11_have_0 rfl (lv_at hl 0 rfl) ?_
  refine hp_getr hx hb hts IX11 hown hK hw.1 hp0 rfl 5 (by decide) L45 rfl dX11_have_1 ?_
  refine hp_getr hx hb hts IX1 hown hK hw.1 hp0nw rfl 0 (by decide) L116 rfl dX11_have_4 ?_
  refine lv_astore_n (lv' := [(3, .ref ap0nwtw), (0, .ref ap0), (1, .int xp1), (2, .int xp2)]) hx hb dX11_have_7 rfl hl (by decide) rfl (fun ls hl => ?_)
  refine lv_aload_n hx hb dX11_have_8 rfl (lv_at hl 0 rfl) ?_
  refine lv_iload_n hx hb dX11_have_9 rfl (lv_at hl 2 rfl) ?_
  refine hp_callpi (va_runV (As := [.int xp1]) (rest := []) ⟨hx, hb, hml, hown, hts⟩ (sX8_isPerson l D T ap0nwtw xp1 ip0nwtw) (cwV 1 hts gX11_have_X8_isPerson rfl rfl rfl (by decide +kernel) ⟨Nat.le_of_ble_eq_true rfl, Nat.le_of_ble_eq_true rfl⟩) (hp_preV hG hw hp0nwtw rfl trivial) rfl rfl hl.1 rfl (lv_room (Nat.le_of_ble_eq_true rfl)) dX11_have_10 ⟨Nat.zero_le _, Nat.zero_le _⟩) (fun x10 bx10 => ?_)
  obtain ⟨bx10, ix10_0⟩ := bx10
  have J24 : ∀ (ls : Array Slot), lv_has ls 6 [] → WX11_have p l e s m below meth c D T ap0 xp1 xp2 s.heap [] (F0 m 24 ls []) := by
    intro ls hl
    refine lv_iconst (v := (-1)) hx hb dX11_have_24 (by decide) ?_
    exact W.iret (v := (-1)) hx hb hr (fun t ht hW => ⟨some (.int (-1)), rfl, ⟨((-1) : Int32), rfl, trivial⟩, ht⟩) (fun q h => by cases h) dX11_have_25
  refine lv_if_eq (tgt := 24) hx hb dX11_have_13 (by decide) (fun c13 => ?_) (fun c13 => ?_)
  · have r13tp : iv x10 0 0 := (iv_both bx10 (iv_eq (show iv 0 0 0 from ⟨by decide, by decide⟩) c13)).mono (by decide) (by decide)
    exact J24 _ (lv_sub hl [] rfl)
  · have r13fp : iv x10 1 1 := (iv_ne_lo c13 bx10 rfl).mono (by decide) (by decide)
    have r13fpz : iv xp1 0 9 := (iv_both (iv_any xp1) (ix10_0 (iv_ne0 r13fp (by decide)))).mono (by decide) (by decide)
    refine lv_aload_n hx hb dX11_have_16 rfl (lv_at hl 0 rfl) ?_
    refine lv_iload_n hx hb dX11_have_17 rfl (lv_at hl 3 rfl) ?_
    refine hp_callpi (va_runV (As := [.int xp2]) (rest := []) ⟨hx, hb, hml, hown, hts⟩ (sX8_isHour l D T ap0nwtw xp2 ip0nwtw) (cwV 1 hts gX11_have_X8_isHour rfl rfl rfl (by decide +kernel) ⟨Nat.le_of_ble_eq_true rfl, Nat.le_of_ble_eq_true rfl⟩) (hp_preV hG hw hp0nwtw rfl trivial) rfl rfl hl.1 rfl (lv_room (Nat.le_of_ble_eq_true rfl)) dX11_have_18 ⟨Nat.zero_le _, Nat.zero_le _⟩) (fun x18 bx18 => ?_)
    obtain ⟨bx18, ix18_0⟩ := bx18
    refine lv_if_ne (tgt := 26) hx hb dX11_have_21 (by decide) (fun c21 => ?_) (fun c21 => ?_)
    · have r21tp : iv x18 1 1 := (iv_ne_lo c21 bx18 rfl).mono (by decide) (by decide)
      have r21tpz : iv xp2 0 11 := (iv_both (iv_any xp2) (ix18_0 (iv_ne0 r21tp (by decide)))).mono (by decide) (by decide)
      refine lv_iconst (v := 1) hx hb dX11_have_26 (by decide) ?_
      refine lv_iload_n hx hb dX11_have_27 rfl (lv_at hl 2 rfl) ?_
      refine lv_ishl hx hb dX11_have_28 ?_
      refine lv_topi (fun x28 ex28 => ?_)
      have bx28 : iv x28 1 512 := iv_shl 9 (show iv 1 1 1 from ⟨by decide, by decide⟩) r13fpz ex28 (by decide)
      refine lv_istore (lv' := [(4, .int x28), (3, .ref ap0nwtw), (0, .ref ap0), (1, .int xp1), (2, .int xp2)]) hx hb dX11_have_29 hl (by decide) rfl (fun ls hl => ?_)
      refine lv_iconst (v := 0) hx hb dX11_have_31 (by decide) ?_
      refine lv_istore (lv' := [(5, .int 0), (4, .int x28), (3, .ref ap0nwtw), (0, .ref ap0), (1, .int xp1), (2, .int xp2)]) hx hb dX11_have_32 hl (by decide) rfl (fun ls hl => ?_)
      have J34 : ∀ (n : Nat) (y34_l4 y34_l5 : Int32), (12 - y34_l5.toInt).toNat < n → iv xp2 0 11 → iv y34_l5 0 12 → ∀ (ls : Array Slot), lv_has ls 6 [(2, .int xp2), (3, .ref ap0nwtw), (4, .int y34_l4), (5, .int y34_l5)] → WX11_have p l e s m below meth c D T ap0 xp1 xp2 s.heap [] (F0 m 34 ls []) := by
        intro n
        induction n with
        | zero => intro y34_l4 y34_l5 hmu34 c34_xp2 c34_y34_l5 ls hl; exact absurd hmu34 (Nat.not_lt_zero _)
        | succ n ih34 =>
          intro y34_l4 y34_l5 hmu34 c34_xp2 c34_y34_l5 ls hl
          refine lv_iload hx hb dX11_have_34 (lv_at hl 3 rfl) ?_
          refine lv_iload_n hx hb dX11_have_36 rfl (lv_at hl 0 rfl) ?_
          refine lv_icmp_gt (tgt := 56) hx hb dX11_have_37 (by decide) (fun c37 => ?_) (fun c37 => ?_)
          · have r37tq : iv y34_l5 1 12 := (iv_lt_r c37 c34_xp2 c34_y34_l5).mono (by decide) (by decide)
            refine lv_iload hx hb dX11_have_56 (lv_at hl 2 rfl) ?_
            exact W.iret (v := y34_l4) hx hb hr (fun t ht hW => ⟨some (.int y34_l4), rfl, ⟨y34_l4, rfl, trivial⟩, ht⟩) (fun q h => by cases h) dX11_have_58
          · have r37fp : iv y34_l5 0 11 := (iv_le_l (iv_nlt c37) c34_y34_l5 c34_xp2).mono (by decide) (by decide)
            refine lv_aload_n hx hb dX11_have_40 rfl (lv_at hl 1 rfl) ?_
            refine lv_iload hx hb dX11_have_41 (lv_at hl 2 rfl) ?_
            refine lv_iload hx hb dX11_have_43 (lv_at hl 3 rfl) ?_
            refine hp_callpi (va_runV (As := [.int y34_l4, .int y34_l5]) (rest := []) ⟨hx, hb, hml, hown, hts⟩ (sX8_passedOn l D T ap0nwtw y34_l4 y34_l5 ip0nwtw) (cwV 2 hts gX11_have_X8_passedOn rfl rfl rfl (by decide +kernel) ⟨Nat.le_of_ble_eq_true rfl, Nat.le_of_ble_eq_true rfl⟩) (hp_preV hG hw hp0nwtw rfl trivial) rfl rfl hl.1 rfl (lv_room (Nat.le_of_ble_eq_true rfl)) dX11_have_45 ⟨Nat.zero_le _, Nat.zero_le _⟩) (fun x45 bx45 => ?_)
            refine lv_istore (lv' := [(4, .int x45), (2, .int xp2), (3, .ref ap0nwtw), (5, .int y34_l5)]) hx hb dX11_have_48 hl (by decide) rfl (fun ls hl => ?_)
            obtain ⟨x50, ex50⟩ : ∃ y : Int32, y = y34_l5 + 1 := ⟨_, rfl⟩
            have bx50 : iv x50 1 12 := iv_add r37fp (show iv 1 1 1 from ⟨by decide, by decide⟩) ex50 (by decide)
            have qx50 := iv_add_eq r37fp (show iv 1 1 1 from ⟨by decide, by decide⟩) ex50 (by decide)
            refine lv_iinc (v := x50) (lv' := [(5, .int x50), (4, .int x45), (2, .int xp2), (3, .ref ap0nwtw)]) hx hb dX11_have_50 hl (k := 3) rfl (by rw [ex50]; rfl) (by decide) rfl (fun ls hl => ?_)
            refine lv_goto (tgt := 34) hx hb dX11_have_53 (by decide) ?_
            exact ih34 x45 x50 (mu_up 1 hmu34 (qx50) (by decide) (show iv x50 0 12 from (bx50.mono (by decide) (by decide))).2) c34_xp2 (bx50.mono (by decide) (by decide)) _ (lv_sub hl [2, 3, 1, 0] rfl)
      exact J34 _ x28 (0 : Int32) (Nat.lt_succ_self _) r21tpz (show iv 0 0 12 from ⟨by decide, by decide⟩) _ (lv_sub hl [5, 2, 1, 0] rfl)
    · have r21fp : iv x18 0 0 := (iv_both bx18 (iv_eq (show iv 0 0 0 from ⟨by decide, by decide⟩) c21)).mono (by decide) (by decide)
      exact J24 _ (lv_sub hl [] rfl)
abbrev WX11_islands (p : Program) (l : Launch) (e : Env) (s : State) (m : MethodId) (below : List Frame) (meth : Method) (c : Code) (D : hp_D) (T : hp_T) (ap0 : Nat) (H : Heap) (locs : List Loc) (g : JFrame) : Prop := W p l e (headSpec wsX11_islands ({ frames := 4, cells := 0, slots := 0, locals := 92 })).room s m ([.ref ap0] : List Value).toArray below meth c H locs 0 0 (MQ below (hq_p (fun v => ∃ r : Int32, v = some (.int r) ∧ True)) ([.ref ap0] : List Value).toArray s 0 0 (fun _ => False)) g
set_option maxHeartbeats 4000000 in
set_option maxRecDepth 100000 in
theorem sX11_islands (l : Launch) (D : hp_D) (T : hp_T) (ap0 : Nat) (Ru : Nat → Prop) (hRu : ∀ b, Ru b → isRule T b) (ap0tp ap0tr ap0rr ap0rl ap0nw ap0im ap0tl ap0sk ap0iq ap0pa ap0sn ap0be : Nat) (hp0 : T ap0 = some (.inr (11, [(rR ap0tp), (rR ap0tr), (rR ap0rr), (rR ap0rl), (rI 0 6), (rR ap0nw), (rR ap0im), (rR ap0tl), (rR ap0sk), (rR ap0iq), (rR ap0pa), (rR ap0sn), (rR ap0be)]))) (ip0tp : isTape T ap0tp) (ip0tr : isTownReader T ap0tr) (ip0rr : isRuleReader T ap0rr) (hp0rl : T ap0rl = some (.inl (5, 6, fun _ => rN Ru))) (pxp0 : Value → Prop) (ip0nw : isMemory T ap0nw pxp0) (pimp0 : Nat → Value → Prop) (hp0im : T ap0im = some (.inl (4, 4, pimp0))) (ip0tl : isTown T ap0tl) (ip0sk : isShaker T Ru ap0sk) (ip0iq : isWorlds T ap0iq) (ip0pa : isParity T ap0pa) (ip0sn : isShuns T ap0sn) (ip0be : isBest T ap0be) : Met l yX11_islands wsX11_islands ({ frames := 4, cells := 0, slots := 0, locals := 92 }) (hp_Pc D T [.ref ap0] (fun _ => True)) (hq_p (fun v => ∃ r : Int32, v = some (.int r) ∧ True)) 0 0 (fun _ => False) := by
  obtain ⟨ap0tpbt, hp0tp, hp0tpbt⟩ := id ip0tp
  obtain ⟨ap0trtp, ap0trtw, hp0tr, ip0trtp, ip0trtw⟩ := id ip0tr
  obtain ⟨ap0trtpbt, hp0trtp, hp0trtpbt⟩ := id ip0trtp
  obtain ⟨ap0trtwkin, ap0trtwpl, ap0trtwcr, hp0trtw, hp0trtwkin, hp0trtwpl, hp0trtwcr⟩ := id ip0trtw
  obtain ⟨ap0rrtp, ap0rrstp, hp0rr, ip0rrtp, hp0rrstp⟩ := id ip0rr
  obtain ⟨ap0rrtpbt, hp0rrtp, hp0rrtpbt⟩ := id ip0rrtp
  obtain ⟨ap0nwtw, ap0nwtg, ap0nwth, ap0nwts, ap0nwpm, ap0nwak, ap0nwao, ap0nwah, ap0nwaw, hp0nw, ip0nwtw, hp0nwtg, hp0nwth, hp0nwts, hp0nwpm, hp0nwak, hp0nwao, hp0nwah, hp0nwaw⟩ := id ip0nw
  obtain ⟨ap0nwtwkin, ap0nwtwpl, ap0nwtwcr, hp0nwtw, hp0nwtwkin, hp0nwtwpl, hp0nwtwcr⟩ := id ip0nwtw
  obtain ⟨ap0tlkin, ap0tlpl, ap0tlcr, hp0tl, hp0tlkin, hp0tlpl, hp0tlcr⟩ := id ip0tl
  obtain ⟨ap0skwd, ap0sksk, ap0skth, hp0sk, hp0skwd, hp0sksk, hp0skth⟩ := id ip0sk
  obtain ⟨ap0iqfi, ap0iqwo, ap0iqsu, ap0iqsh, ap0iqme, ap0iqs1, ap0iqs2, hp0iq, hp0iqfi, hp0iqwo, hp0iqsu, hp0iqsh, hp0iqme, hp0iqs1, hp0iqs2⟩ := id ip0iq
  obtain ⟨ap0pabo, hp0pa, hp0pabo⟩ := id ip0pa
  obtain ⟨ap0snle, ap0sngr, ap0sndu, ap0snit, ap0snop, hp0sn, hp0snle, hp0sngr, hp0sndu, hp0snit, hp0snop⟩ := id ip0sn
  have hp0be : T ap0be = some (.inr (0, [(rI 0 1), rA, rA, rA])) := ip0be
  refine Met.ofW (cc := cX11_islands) (maxL := 4) (ret := (some .int)) (by decide) rfl ?_
  intro p e s m args below meth c s₁ B hml hv
  obtain ⟨rfl, hok, hG, hB⟩ := hv
  have hx := B.exec
  have hb := B.bytes
  have hr := B.returns
  have hts := atoms_spec (ws := wsX11_islands) B.pre
  have hown : s.vm.findClass RX11 = some m.cls := findClass_of_methodNamed B.named
  have hlocks := B.notSynchronized
  have hK := hG.1
  have hw : hp_w D T s s.heap [] := hp_w.rf hok
  have IX1 : ∀ w ∈ wsX10, w ∈ wsX11_islands := by decide +kernel
  have IX11 : ∀ w ∈ wsX110, w ∈ wsX11_islands := by decide +kernel
  have IX8 : ∀ w ∈ wsX80, w ∈ wsX11_islands := by decide +kernel
  have L45 := hts (.fieldLink RX11 45 "PalmCensus" "now" "LPalmCensus$Memory;") (by decide +kernel)
  have L116 := hts (.fieldLink RX11 116 "PalmCensus$Memory" "town" "LPalmCensus$Town;") (by decide +kernel)
  have L117 := hts (.fieldLink RX11 117 "PalmCensus$Town" "people" "I") (by decide +kernel)
  have hl := lv_entry ([.ref ap0]) (n := 4) (Nat.le_of_ble_eq_true rfl)
  rw [lg_entry_eq]
  generalize (lg_sl ([.ref ap0]) ++ List.replicate (4 - (lg_sl ([.ref ap0])).length) Slot.unset).toArray = ls at hl ⊢
  have hl : lv_has ls 4 [(0, .ref ap0)] := hl
  show WX11_islands p l e s m below meth c D T ap0 s.heap [] (F0 m 0 ls [])
  refine lv_aload_n hx hb dX11_islands_0 rfl (lv_at hl 0 rfl) ?_
  refine hp_callpi (va_runV (As := []) (rest := []) ⟨hx, hb, hml, hown, hts⟩ (sX11_hasTown l D T ap0 Ru hRu ap0tp ap0tr ap0rr ap0rl ap0nw ap0im ap0tl ap0sk ap0iq ap0pa ap0sn ap0be hp0 ip0tp ip0tr ip0rr hp0rl pxp0 ip0nw pimp0 hp0im ip0tl ip0sk ip0iq ip0pa ip0sn ip0be) (cwV 0 hts gX11_islands_X11_hasTown rfl rfl rfl (by decide +kernel) ⟨Nat.le_of_ble_eq_true rfl, Nat.le_of_ble_eq_true rfl⟩) (hp_preV hG hw hp0 rfl trivial) rfl rfl hl.1 rfl (lv_room (Nat.le_of_ble_eq_true rfl)) dX11_islands_1 ⟨Nat.zero_le _, Nat.zero_le _⟩) (fun x1 bx1 => ?_)
  refine lv_if_ne (tgt := 9) hx hb dX11_islands_4 (by decide) (fun c4 => ?_) (fun c4 => ?_)
  · have r4tp : iv x1 1 1 := (iv_ne_lo c4 bx1 rfl).mono (by decide) (by decide)
    refine lv_iconst (v := 0) hx hb dX11_islands_9 (by decide) ?_
    refine lv_istore_n (lv' := [(1, .int 0), (0, .ref ap0)]) hx hb dX11_islands_10 rfl hl (by decide) rfl (fun ls hl => ?_)
    refine lv_iconst (v := 0) hx hb dX11_islands_11 (by decide) ?_
    refine lv_istore_n (lv' := [(2, .int 0), (1, .int 0), (0, .ref ap0)]) hx hb dX11_islands_12 rfl hl (by decide) rfl (fun ls hl => ?_)
    refine lv_iconst (v := 0) hx hb dX11_islands_13 (by decide) ?_
    refine lv_istore_n (lv' := [(3, .int 0), (2, .int 0), (1, .int 0), (0, .ref ap0)]) hx hb dX11_islands_14 rfl hl (by decide) rfl (fun ls hl => ?_)
    have J15 : ∀ (n : Nat) (y15_l1 y15_l2 y15_l3 : Int32), (10 - y15_l3.toInt).toNat < n → iv y15_l3 0 10 → ∀ (ls : Array Slot), lv_has ls 4 [(0, .ref ap0), (1, .int y15_l1), (2, .int y15_l2), (3, .int y15_l3)] → WX11_islands p l e s m below meth c D T ap0 s.heap [] (F0 m 15 ls []) := by
      intro n
      induction n with
      | zero => intro y15_l1 y15_l2 y15_l3 hmu15 c15_y15_l3 ls hl; exact absurd hmu15 (Nat.not_lt_zero _)
      | succ n ih15 =>
        intro y15_l1 y15_l2 y15_l3 hmu15 c15_y15_l3 ls hl
        refine lv_iload_n hx hb dX11_islands_15 rfl (lv_at hl 3 rfl) ?_
        refine lv_aload_n hx hb dX11_islands_16 rfl (lv_at hl 0 rfl) ?_
        refine hp_getr hx hb hts IX11 hown hK hw.1 hp0 rfl 5 (by decide) L45 rfl dX11_islands_17 ?_
        refine hp_getr hx hb hts IX1 hown hK hw.1 hp0nw rfl 0 (by decide) L116 rfl dX11_islands_20 ?_
        refine hp_geti hx hb hts IX8 hown hK hw.1 hp0nwtw rfl 2 (by decide) L117 rfl dX11_islands_23 (fun x23 bx23 fx23 => ?_)
        refine lv_icmp_ge (tgt := 60) hx hb dX11_islands_26 (by decide) (fun c26 => ?_) (fun c26 => ?_)
        · refine lv_iload_n hx hb dX11_islands_60 rfl (lv_at hl 1 rfl) ?_
          exact W.iret (v := y15_l1) hx hb hr (fun t ht hW => ⟨some (.int y15_l1), rfl, ⟨y15_l1, rfl, trivial⟩, ht⟩) (fun q h => by cases h) dX11_islands_61
        · have r26fp : iv y15_l3 0 9 := (iv_lt_l (iv_nle c26) c15_y15_l3 bx23).mono (by decide) (by decide)
          have r26fq : iv x23 1 10 := (iv_lt_r (iv_nle c26) c15_y15_l3 bx23).mono (by decide) (by decide)
          refine lv_iload_n hx hb dX11_islands_29 rfl (lv_at hl 2 rfl) ?_
          refine lv_iload_n hx hb dX11_islands_30 rfl (lv_at hl 3 rfl) ?_
          refine lv_ishr hx hb dX11_islands_31 ?_
          refine lv_topi (fun x31 ex31 => ?_)
          refine lv_iconst (v := 1) hx hb dX11_islands_32 (by decide) ?_
          refine lv_iand hx hb dX11_islands_33 ?_
          refine lv_topi (fun x33 ex33 => ?_)
          have bx33 : iv x33 0 1 := iv_and_r (show iv 1 0 1 from ⟨by decide, by decide⟩) ex33
          have J54 : ∀ (y54_l1 y54_l2 : Int32), iv y15_l3 0 9 → iv x23 1 10 → ∀ (ls : Array Slot), lv_has ls 4 [(0, .ref ap0), (1, .int y54_l1), (2, .int y54_l2), (3, .int y15_l3)] → WX11_islands p l e s m below meth c D T ap0 s.heap [] (F0 m 54 ls []) := by
            intro y54_l1 y54_l2 c54_y15_l3 c54_x23 ls hl
            obtain ⟨x54, ex54⟩ : ∃ y : Int32, y = y15_l3 + 1 := ⟨_, rfl⟩
            have bx54 : iv x54 1 10 := iv_add c54_y15_l3 (show iv 1 1 1 from ⟨by decide, by decide⟩) ex54 (by decide)
            have qx54 := iv_add_eq c54_y15_l3 (show iv 1 1 1 from ⟨by decide, by decide⟩) ex54 (by decide)
            refine lv_iinc (v := x54) (lv' := [(3, .int x54), (0, .ref ap0), (1, .int y54_l1), (2, .int y54_l2)]) hx hb dX11_islands_54 hl (k := 3) rfl (by rw [ex54]; rfl) (by decide) rfl (fun ls hl => ?_)
            refine lv_goto (tgt := 15) hx hb dX11_islands_57 (by decide) ?_
            exact ih15 y54_l1 y54_l2 x54 (mu_up 1 hmu15 (qx54) (by decide) (show iv x54 0 10 from (bx54.mono (by decide) (by decide))).2) (bx54.mono (by decide) (by decide)) _ (lv_sub hl [1, 2, 3, 0] rfl)
          refine lv_if_ne (tgt := 54) hx hb dX11_islands_34 (by decide) (fun c34 => ?_) (fun c34 => ?_)
          · have r34tp : iv x33 1 1 := (iv_ne_lo c34 bx33 rfl).mono (by decide) (by decide)
            exact J54 y15_l1 y15_l2 r26fp r26fq _ (lv_sub hl [0, 1, 2, 3] rfl)
          · have r34fp : iv x33 0 0 := (iv_both bx33 (iv_eq (show iv 0 0 0 from ⟨by decide, by decide⟩) c34)).mono (by decide) (by decide)
            refine lv_iload_n hx hb dX11_islands_37 rfl (lv_at hl 2 rfl) ?_
            refine lv_aload_n hx hb dX11_islands_38 rfl (lv_at hl 0 rfl) ?_
            refine hp_getr hx hb hts IX11 hown hK hw.1 hp0 rfl 5 (by decide) L45 rfl dX11_islands_39 ?_
            refine hp_getr hx hb hts IX1 hown hK hw.1 hp0nw rfl 0 (by decide) L116 rfl dX11_islands_42 ?_
            refine lv_iload_n hx hb dX11_islands_45 rfl (lv_at hl 3 rfl) ?_
            refine hp_callpi (va_runV (As := [.int y15_l3]) (rest := [.int y15_l2]) ⟨hx, hb, hml, hown, hts⟩ (sX8_islandOf l D T ap0nwtw y15_l3 ip0nwtw) (cwV 1 hts gX11_islands_X8_islandOf rfl rfl rfl (by decide +kernel) ⟨Nat.le_of_ble_eq_true rfl, Nat.le_of_ble_eq_true rfl⟩) (hp_preV hG hw hp0nwtw rfl trivial) rfl rfl hl.1 rfl (lv_room (Nat.le_of_ble_eq_true rfl)) dX11_islands_46 ⟨Nat.zero_le _, Nat.zero_le _⟩) (fun x46 bx46 => ?_)
            refine lv_ior hx hb dX11_islands_49 ?_
            refine lv_topi (fun x49 ex49 => ?_)
            refine lv_istore_n (lv' := [(2, .int x49), (0, .ref ap0), (1, .int y15_l1), (3, .int y15_l3)]) hx hb dX11_islands_50 rfl hl (by decide) rfl (fun ls hl => ?_)
            obtain ⟨x51, ex51⟩ : ∃ y : Int32, y = y15_l1 + 1 := ⟨_, rfl⟩
            refine lv_iinc (v := x51) (lv' := [(1, .int x51), (2, .int x49), (0, .ref ap0), (3, .int y15_l3)]) hx hb dX11_islands_51 hl (k := 2) rfl (by rw [ex51]; rfl) (by decide) rfl (fun ls hl => ?_)
            exact J54 x51 x49 r26fp r26fq _ (lv_sub hl [2, 0, 1, 3] rfl)
    exact J15 _ (0 : Int32) (0 : Int32) (0 : Int32) (Nat.lt_succ_self _) (show iv 0 0 10 from ⟨by decide, by decide⟩) _ (lv_sub hl [3, 2, 1, 0] rfl)
  · have r4fp : iv x1 0 0 := (iv_both bx1 (iv_eq (show iv 0 0 0 from ⟨by decide, by decide⟩) c4)).mono (by decide) (by decide)
    refine lv_iconst (v := (-1)) hx hb dX11_islands_7 (by decide) ?_
    exact W.iret (v := (-1)) hx hb hr (fun t ht hW => ⟨some (.int (-1)), rfl, ⟨((-1) : Int32), rfl, trivial⟩, ht⟩) (fun q h => by cases h) dX11_islands_8
abbrev WX11_rounds (p : Program) (l : Launch) (e : Env) (s : State) (m : MethodId) (below : List Frame) (meth : Method) (c : Code) (D : hp_D) (T : hp_T) (ap0 : Nat) (xp1 : Int32) (xp2 : Int32) (H : Heap) (locs : List Loc) (g : JFrame) : Prop := W p l e (headSpec wsX11_rounds ({ frames := 1, cells := 0, slots := 0, locals := 21 })).room s m ([.ref ap0, .int xp1, .int xp2] : List Value).toArray below meth c H locs 0 0 (MQ below (hq_p (fun v => ∃ r : Int32, v = some (.int r) ∧ True)) ([.ref ap0, .int xp1, .int xp2] : List Value).toArray s 0 0 (fun _ => False)) g
set_option maxHeartbeats 4000000 in
set_option maxRecDepth 100000 in
theorem sX11_rounds (l : Launch) (D : hp_D) (T : hp_T) (ap0 : Nat) (xp1 : Int32) (xp2 : Int32) (Ru : Nat → Prop) (hRu : ∀ b, Ru b → isRule T b) (ap0tp ap0tr ap0rr ap0rl ap0nw ap0im ap0tl ap0sk ap0iq ap0pa ap0sn ap0be : Nat) (hp0 : T ap0 = some (.inr (11, [(rR ap0tp), (rR ap0tr), (rR ap0rr), (rR ap0rl), (rI 0 6), (rR ap0nw), (rR ap0im), (rR ap0tl), (rR ap0sk), (rR ap0iq), (rR ap0pa), (rR ap0sn), (rR ap0be)]))) (ip0tp : isTape T ap0tp) (ip0tr : isTownReader T ap0tr) (ip0rr : isRuleReader T ap0rr) (hp0rl : T ap0rl = some (.inl (5, 6, fun _ => rN Ru))) (pxp0 : Value → Prop) (ip0nw : isMemory T ap0nw pxp0) (pimp0 : Nat → Value → Prop) (hp0im : T ap0im = some (.inl (4, 4, pimp0))) (ip0tl : isTown T ap0tl) (ip0sk : isShaker T Ru ap0sk) (ip0iq : isWorlds T ap0iq) (ip0pa : isParity T ap0pa) (ip0sn : isShuns T ap0sn) (ip0be : isBest T ap0be) : Met l yX11_rounds wsX11_rounds ({ frames := 1, cells := 0, slots := 0, locals := 21 }) (hp_Pc D T [.ref ap0, .int xp1, .int xp2] (fun _ => True)) (hq_p (fun v => ∃ r : Int32, v = some (.int r) ∧ True)) 0 0 (fun _ => False) := by
  obtain ⟨ap0tpbt, hp0tp, hp0tpbt⟩ := id ip0tp
  obtain ⟨ap0trtp, ap0trtw, hp0tr, ip0trtp, ip0trtw⟩ := id ip0tr
  obtain ⟨ap0trtpbt, hp0trtp, hp0trtpbt⟩ := id ip0trtp
  obtain ⟨ap0trtwkin, ap0trtwpl, ap0trtwcr, hp0trtw, hp0trtwkin, hp0trtwpl, hp0trtwcr⟩ := id ip0trtw
  obtain ⟨ap0rrtp, ap0rrstp, hp0rr, ip0rrtp, hp0rrstp⟩ := id ip0rr
  obtain ⟨ap0rrtpbt, hp0rrtp, hp0rrtpbt⟩ := id ip0rrtp
  obtain ⟨ap0nwtw, ap0nwtg, ap0nwth, ap0nwts, ap0nwpm, ap0nwak, ap0nwao, ap0nwah, ap0nwaw, hp0nw, ip0nwtw, hp0nwtg, hp0nwth, hp0nwts, hp0nwpm, hp0nwak, hp0nwao, hp0nwah, hp0nwaw⟩ := id ip0nw
  obtain ⟨ap0nwtwkin, ap0nwtwpl, ap0nwtwcr, hp0nwtw, hp0nwtwkin, hp0nwtwpl, hp0nwtwcr⟩ := id ip0nwtw
  obtain ⟨ap0tlkin, ap0tlpl, ap0tlcr, hp0tl, hp0tlkin, hp0tlpl, hp0tlcr⟩ := id ip0tl
  obtain ⟨ap0skwd, ap0sksk, ap0skth, hp0sk, hp0skwd, hp0sksk, hp0skth⟩ := id ip0sk
  obtain ⟨ap0iqfi, ap0iqwo, ap0iqsu, ap0iqsh, ap0iqme, ap0iqs1, ap0iqs2, hp0iq, hp0iqfi, hp0iqwo, hp0iqsu, hp0iqsh, hp0iqme, hp0iqs1, hp0iqs2⟩ := id ip0iq
  obtain ⟨ap0pabo, hp0pa, hp0pabo⟩ := id ip0pa
  obtain ⟨ap0snle, ap0sngr, ap0sndu, ap0snit, ap0snop, hp0sn, hp0snle, hp0sngr, hp0sndu, hp0snit, hp0snop⟩ := id ip0sn
  have hp0be : T ap0be = some (.inr (0, [(rI 0 1), rA, rA, rA])) := ip0be
  refine Met.ofW (cc := cX11_rounds) (maxL := 5) (ret := (some .int)) (by decide) rfl ?_
  intro p e s m args below meth c s₁ B hml hv
  obtain ⟨rfl, hok, hG, hB⟩ := hv
  have hx := B.exec
  have hb := B.bytes
  have hr := B.returns
  have hts := atoms_spec (ws := wsX11_rounds) B.pre
  have hown : s.vm.findClass RX11 = some m.cls := findClass_of_methodNamed B.named
  have hlocks := B.notSynchronized
  have hK := hG.1
  have hw : hp_w D T s s.heap [] := hp_w.rf hok
  have IX1 : ∀ w ∈ wsX10, w ∈ wsX11_rounds := by decide +kernel
  have IX11 : ∀ w ∈ wsX110, w ∈ wsX11_rounds := by decide +kernel
  have IX8 : ∀ w ∈ wsX80, w ∈ wsX11_rounds := by decide +kernel
  have L45 := hts (.fieldLink RX11 45 "PalmCensus" "now" "LPalmCensus$Memory;") (by decide +kernel)
  have L116 := hts (.fieldLink RX11 116 "PalmCensus$Memory" "town" "LPalmCensus$Town;") (by decide +kernel)
  have L117 := hts (.fieldLink RX11 117 "PalmCensus$Town" "people" "I") (by decide +kernel)
  have Mmax183_1 := hts (.methodLink RX11 183 Lib.Math.max.name) (by decide +kernel)
  have Mmax183_2 := hts (.static Lib.Math.max.name) (by decide +kernel)
  have Mmax183_3 := hts (.initialized "java/lang/Math") (by decide +kernel)
  have Mmax183_4 := hts (.code Lib.Math.max.name Lib.Math.max.code 2 (some .int)) (by decide +kernel)
  have Mmin178_1 := hts (.methodLink RX11 178 Lib.Math.min.name) (by decide +kernel)
  have Mmin178_2 := hts (.static Lib.Math.min.name) (by decide +kernel)
  have Mmin178_3 := hts (.initialized "java/lang/Math") (by decide +kernel)
  have Mmin178_4 := hts (.code Lib.Math.min.name Lib.Math.min.code 2 (some .int)) (by decide +kernel)
  have hl := lv_entry ([.ref ap0, .int xp1, .int xp2]) (n := 5) (Nat.le_of_ble_eq_true rfl)
  rw [lg_entry_eq]
  generalize (lg_sl ([.ref ap0, .int xp1, .int xp2]) ++ List.replicate (5 - (lg_sl ([.ref ap0, .int xp1, .int xp2])).length) Slot.unset).toArray = ls at hl ⊢
  have hl : lv_has ls 5 [(0, .ref ap0), (1, .int xp1), (2, .int xp2)] := hl
  show WX11_rounds p l e s m below meth c D T ap0 xp1 xp2 s.heap [] (F0 m 0 ls [])
  refine lv_iload_n hx hb dX11_rounds_0 rfl (lv_at hl 1 rfl) ?_
  have J31 : ∀ (ls : Array Slot), lv_has ls 5 [] → WX11_rounds p l e s m below meth c D T ap0 xp1 xp2 s.heap [] (F0 m 31 ls []) := by
    intro ls hl
    refine lv_iconst (v := (-1)) hx hb dX11_rounds_31 (by decide) ?_
    exact W.iret (v := (-1)) hx hb hr (fun t ht hW => ⟨some (.int (-1)), rfl, ⟨((-1) : Int32), rfl, trivial⟩, ht⟩) (fun q h => by cases h) dX11_rounds_32
  refine lv_if_lt (tgt := 31) hx hb dX11_rounds_1 (by decide) (fun c1 => ?_) (fun c1 => ?_)
  · have r1tp : iv xp1 (-2147483648) (-1) := (iv_lt_l c1 (iv_any xp1) (show iv 0 0 0 from ⟨by decide, by decide⟩)).mono (by decide) (by decide)
    exact J31 _ (lv_sub hl [] rfl)
  · have r1fq : iv xp1 0 2147483647 := (iv_le_r (iv_nlt c1) (show iv 0 0 0 from ⟨by decide, by decide⟩) (iv_any xp1)).mono (by decide) (by decide)
    refine lv_iload_n hx hb dX11_rounds_4 rfl (lv_at hl 1 rfl) ?_
    refine lv_iconst (v := 1) hx hb dX11_rounds_5 (by decide) ?_
    refine lv_aload_n hx hb dX11_rounds_6 rfl (lv_at hl 0 rfl) ?_
    refine hp_getr hx hb hts IX11 hown hK hw.1 hp0 rfl 5 (by decide) L45 rfl dX11_rounds_7 ?_
    refine hp_getr hx hb hts IX1 hown hK hw.1 hp0nw rfl 0 (by decide) L116 rfl dX11_rounds_10 ?_
    refine hp_geti hx hb hts IX8 hown hK hw.1 hp0nwtw rfl 2 (by decide) L117 rfl dX11_rounds_13 (fun x13 bx13 fx13 => ?_)
    refine lv_ishl hx hb dX11_rounds_16 ?_
    refine lv_topi (fun x16 ex16 => ?_)
    have bx16 : iv x16 1 1024 := iv_shl 10 (show iv 1 1 1 from ⟨by decide, by decide⟩) bx13 ex16 (by decide)
    refine lv_icmp_ge (tgt := 31) hx hb dX11_rounds_17 (by decide) (fun c17 => ?_) (fun c17 => ?_)
    · have r17tq : iv xp1 1 2147483647 := (iv_le_r c17 bx16 r1fq).mono (by decide) (by decide)
      exact J31 _ (lv_sub hl [] rfl)
    · have r17fp : iv xp1 0 1023 := (iv_lt_l (iv_nle c17) r1fq bx16).mono (by decide) (by decide)
      refine lv_iload_n hx hb dX11_rounds_20 rfl (lv_at hl 2 rfl) ?_
      refine lv_iconst (v := 1) hx hb dX11_rounds_21 (by decide) ?_
      refine lv_icmp_lt (tgt := 31) hx hb dX11_rounds_22 (by decide) (fun c22 => ?_) (fun c22 => ?_)
      · have r22tp : iv xp2 (-2147483648) 0 := (iv_lt_l c22 (iv_any xp2) (show iv 1 1 1 from ⟨by decide, by decide⟩)).mono (by decide) (by decide)
        exact J31 _ (lv_sub hl [] rfl)
      · have r22fq : iv xp2 1 2147483647 := (iv_le_r (iv_nlt c22) (show iv 1 1 1 from ⟨by decide, by decide⟩) (iv_any xp2)).mono (by decide) (by decide)
        refine lv_iload_n hx hb dX11_rounds_25 rfl (lv_at hl 2 rfl) ?_
        refine lv_bipush (v := 6) hx hb dX11_rounds_26 (by decide) ?_
        refine lv_icmp_le (tgt := 33) hx hb dX11_rounds_28 (by decide) (fun c28 => ?_) (fun c28 => ?_)
        · have r28tp : iv xp2 1 6 := (iv_le_l c28 r22fq (show iv 6 6 6 from ⟨by decide, by decide⟩)).mono (by decide) (by decide)
          refine lv_iload_n hx hb dX11_rounds_33 rfl (lv_at hl 1 rfl) ?_
          refine hp_callpi (va_runS (As := [.int xp1]) (rest := []) ⟨hx, hb, hml, hown, hts⟩ (sJ6_bitCount_0f7a4 l D T xp1) (va_cwS 1 hts gX11_rounds_J6_bitCount_0f7a4 rfl rfl rfl (by decide +kernel) ⟨Nat.le_of_ble_eq_true rfl, Nat.le_of_ble_eq_true rfl⟩) (hp_preS hG hw trivial) rfl rfl hl.1 rfl (lv_room (Nat.le_of_ble_eq_true rfl)) dX11_rounds_34 ⟨Nat.zero_le _, Nat.zero_le _⟩) (fun x34 bx34 => ?_)
          refine lv_istore_n (lv' := [(3, .int x34), (0, .ref ap0), (1, .int xp1), (2, .int xp2)]) hx hb dX11_rounds_37 rfl hl (by decide) rfl (fun ls hl => ?_)
          refine lv_iload_n hx hb dX11_rounds_38 rfl (lv_at hl 0 rfl) ?_
          refine lv_iconst (v := 2) hx hb dX11_rounds_39 (by decide) ?_
          refine lv_icmp_ge (tgt := 45) hx hb dX11_rounds_40 (by decide) (fun c40 => ?_) (fun c40 => ?_)
          · have r40tq : iv x34 2 63 := (iv_le_r c40 (show iv 2 2 2 from ⟨by decide, by decide⟩) bx34).mono (by decide) (by decide)
            refine lv_iconst (v := 1) hx hb dX11_rounds_45 (by decide) ?_
            refine lv_iload_n hx hb dX11_rounds_46 rfl (lv_at hl 3 rfl) ?_
            refine lv_iload_n hx hb dX11_rounds_47 rfl (lv_at hl 0 rfl) ?_
            refine lv_iconst (v := 2) hx hb dX11_rounds_48 (by decide) ?_
            refine lv_idiv hx hb dX11_rounds_49 (iv_ne0 (show iv 2 2 2 from ⟨by decide, by decide⟩) (by decide)) ?_
            refine lv_topi (fun x49 ex49 => ?_)
            have bx49 : iv x49 1 31 := iv_divk (k := 2) r40tq rfl ex49 (by decide)
            refine va_mmin hx hb (by rw [hml]; exact hl.1.symm) hown Mmin178_1 Mmin178_2 Mmin178_3 Mmin178_4 (Nat.le_of_ble_eq_true rfl) (Nat.le_of_ble_eq_true rfl) (Nat.zero_le _) (Nat.zero_le _) dX11_rounds_50 ?_
            refine lv_topi (fun x50 ex50 => ?_)
            have bx50 : iv x50 1 6 := iv_min r28tp bx49 ex50 (by decide)
            refine va_mmax hx hb (by rw [hml]; exact hl.1.symm) hown Mmax183_1 Mmax183_2 Mmax183_3 Mmax183_4 (Nat.le_of_ble_eq_true rfl) (Nat.le_of_ble_eq_true rfl) (Nat.zero_le _) (Nat.zero_le _) dX11_rounds_53 ?_
            refine lv_topi (fun x53 ex53 => ?_)
            have bx53 : iv x53 1 6 := iv_max (show iv 1 1 1 from ⟨by decide, by decide⟩) bx50 ex53 (by decide)
            refine lv_istore (lv' := [(4, .int x53), (3, .int x34), (0, .ref ap0), (1, .int xp1), (2, .int xp2)]) hx hb dX11_rounds_56 hl (by decide) rfl (fun ls hl => ?_)
            refine lv_iload_n hx hb dX11_rounds_58 rfl (lv_at hl 1 rfl) ?_
            refine lv_iload_n hx hb dX11_rounds_59 rfl (lv_at hl 1 rfl) ?_
            refine lv_iconst (v := 1) hx hb dX11_rounds_60 (by decide) ?_
            refine lv_isub hx hb dX11_rounds_61 ?_
            refine lv_topi (fun x61 ex61 => ?_)
            have bx61 : iv x61 1 62 := iv_sub r40tq (show iv 1 1 1 from ⟨by decide, by decide⟩) ex61 (by decide)
            have qx61 := iv_sub_eq r40tq (show iv 1 1 1 from ⟨by decide, by decide⟩) ex61 (by decide)
            refine lv_imul hx hb dX11_rounds_62 ?_
            refine lv_topi (fun x62 ex62 => ?_)
            have bx62 : iv x62 2 3906 := iv_mul r40tq bx61 ex62 (by decide)
            refine lv_iconst (v := 2) hx hb dX11_rounds_63 (by decide) ?_
            refine lv_idiv hx hb dX11_rounds_64 (iv_ne0 (show iv 2 2 2 from ⟨by decide, by decide⟩) (by decide)) ?_
            refine lv_topi (fun x64 ex64 => ?_)
            have bx64 : iv x64 1 1953 := iv_divk (k := 2) bx62 rfl ex64 (by decide)
            refine lv_iload hx hb dX11_rounds_65 (lv_at hl 0 rfl) ?_
            refine lv_iadd hx hb dX11_rounds_67 ?_
            refine lv_topi (fun x67 ex67 => ?_)
            have bx67 : iv x67 2 1959 := iv_add bx64 bx53 ex67 (by decide)
            have qx67 := iv_add_eq bx64 bx53 ex67 (by decide)
            refine lv_iconst (v := 1) hx hb dX11_rounds_68 (by decide) ?_
            refine lv_isub hx hb dX11_rounds_69 ?_
            refine lv_topi (fun x69 ex69 => ?_)
            have bx69 : iv x69 1 1958 := iv_sub bx67 (show iv 1 1 1 from ⟨by decide, by decide⟩) ex69 (by decide)
            have qx69 := iv_sub_eq bx67 (show iv 1 1 1 from ⟨by decide, by decide⟩) ex69 (by decide)
            refine lv_iload hx hb dX11_rounds_70 (lv_at hl 0 rfl) ?_
            refine lv_idiv hx hb dX11_rounds_72 (iv_ne0 bx53 (by decide)) ?_
            refine lv_topi (fun x72 ex72 => ?_)
            have bx72 : iv x72 0 1958 := iv_div bx69 bx53 ex72 (by decide)
            exact W.iret (v := x72) hx hb hr (fun t ht hW => ⟨some (.int x72), rfl, ⟨x72, rfl, trivial⟩, ht⟩) (fun q h => by cases h) dX11_rounds_73
          · have r40fp : iv x34 0 1 := (iv_lt_l (iv_nle c40) bx34 (show iv 2 2 2 from ⟨by decide, by decide⟩)).mono (by decide) (by decide)
            refine lv_iconst (v := 0) hx hb dX11_rounds_43 (by decide) ?_
            exact W.iret (v := 0) hx hb hr (fun t ht hW => ⟨some (.int 0), rfl, ⟨(0 : Int32), rfl, trivial⟩, ht⟩) (fun q h => by cases h) dX11_rounds_44
        · have r28fq : iv xp2 7 2147483647 := (iv_lt_r (iv_nle c28) (show iv 6 6 6 from ⟨by decide, by decide⟩) r22fq).mono (by decide) (by decide)
          exact J31 _ (lv_sub hl [] rfl)
abbrev WX11_census (p : Program) (l : Launch) (e : Env) (s : State) (m : MethodId) (below : List Frame) (meth : Method) (c : Code) (D : hp_D) (T : hp_T) (ap0 : Nat) (H : Heap) (locs : List Loc) (g : JFrame) : Prop := W p l e (headSpec wsX11_census ({ frames := 7, cells := 0, slots := 0, locals := 173 })).room s m ([.ref ap0] : List Value).toArray below meth c H locs 0 0 (MQ below (hq_e D T (fun v _ _ => ∃ r : Int32, v = some (.int r) ∧ True)) ([.ref ap0] : List Value).toArray s 0 0 (hp_F T)) g
set_option maxHeartbeats 4000000 in
set_option maxRecDepth 100000 in
theorem sX11_census (l : Launch) (D : hp_D) (T : hp_T) (ap0 : Nat) (Ru : Nat → Prop) (hRu : ∀ b, Ru b → isRule T b) (ap0tp ap0tr ap0rr ap0rl ap0nw ap0im ap0tl ap0sk ap0iq ap0pa ap0sn ap0be : Nat) (hp0 : T ap0 = some (.inr (11, [(rR ap0tp), (rR ap0tr), (rR ap0rr), (rR ap0rl), (rI 0 6), (rR ap0nw), (rR ap0im), (rR ap0tl), (rR ap0sk), (rR ap0iq), (rR ap0pa), (rR ap0sn), (rR ap0be)]))) (ip0tp : isTape T ap0tp) (ip0tr : isTownReader T ap0tr) (ip0rr : isRuleReader T ap0rr) (hp0rl : T ap0rl = some (.inl (5, 6, fun _ => rN Ru))) (pxp0 : Value → Prop) (ip0nw : isMemory T ap0nw pxp0) (pimp0 : Nat → Value → Prop) (hp0im : T ap0im = some (.inl (4, 4, pimp0))) (ip0tl : isTown T ap0tl) (ip0sk : isShaker T Ru ap0sk) (ip0iq : isWorlds T ap0iq) (ip0pa : isParity T ap0pa) (ip0sn : isShuns T ap0sn) (ip0be : isBest T ap0be) : Met l yX11_census wsX11_census ({ frames := 7, cells := 0, slots := 0, locals := 173 }) (hp_Pc D T [.ref ap0] (fun _ => True)) (hq_e D T (fun v _ _ => ∃ r : Int32, v = some (.int r) ∧ True)) 0 0 (hp_F T) := by
  obtain ⟨ap0tpbt, hp0tp, hp0tpbt⟩ := id ip0tp
  obtain ⟨ap0trtp, ap0trtw, hp0tr, ip0trtp, ip0trtw⟩ := id ip0tr
  obtain ⟨ap0trtpbt, hp0trtp, hp0trtpbt⟩ := id ip0trtp
  obtain ⟨ap0trtwkin, ap0trtwpl, ap0trtwcr, hp0trtw, hp0trtwkin, hp0trtwpl, hp0trtwcr⟩ := id ip0trtw
  obtain ⟨ap0rrtp, ap0rrstp, hp0rr, ip0rrtp, hp0rrstp⟩ := id ip0rr
  obtain ⟨ap0rrtpbt, hp0rrtp, hp0rrtpbt⟩ := id ip0rrtp
  obtain ⟨ap0nwtw, ap0nwtg, ap0nwth, ap0nwts, ap0nwpm, ap0nwak, ap0nwao, ap0nwah, ap0nwaw, hp0nw, ip0nwtw, hp0nwtg, hp0nwth, hp0nwts, hp0nwpm, hp0nwak, hp0nwao, hp0nwah, hp0nwaw⟩ := id ip0nw
  obtain ⟨ap0nwtwkin, ap0nwtwpl, ap0nwtwcr, hp0nwtw, hp0nwtwkin, hp0nwtwpl, hp0nwtwcr⟩ := id ip0nwtw
  obtain ⟨ap0tlkin, ap0tlpl, ap0tlcr, hp0tl, hp0tlkin, hp0tlpl, hp0tlcr⟩ := id ip0tl
  obtain ⟨ap0skwd, ap0sksk, ap0skth, hp0sk, hp0skwd, hp0sksk, hp0skth⟩ := id ip0sk
  obtain ⟨ap0iqfi, ap0iqwo, ap0iqsu, ap0iqsh, ap0iqme, ap0iqs1, ap0iqs2, hp0iq, hp0iqfi, hp0iqwo, hp0iqsu, hp0iqsh, hp0iqme, hp0iqs1, hp0iqs2⟩ := id ip0iq
  obtain ⟨ap0pabo, hp0pa, hp0pabo⟩ := id ip0pa
  obtain ⟨ap0snle, ap0sngr, ap0sndu, ap0snit, ap0snop, hp0sn, hp0snle, hp0sngr, hp0sndu, hp0snit, hp0snop⟩ := id ip0sn
  have hp0be : T ap0be = some (.inr (0, [(rI 0 1), rA, rA, rA])) := ip0be
  refine Met.ofW (cc := cX11_census) (maxL := 4) (ret := (some .int)) (by decide) rfl ?_
  intro p e s m args below meth c s₁ B hml hv
  obtain ⟨rfl, hok, hG, hB⟩ := hv
  have hx := B.exec
  have hb := B.bytes
  have hr := B.returns
  have hts := atoms_spec (ws := wsX11_census) B.pre
  have hown : s.vm.findClass RX11 = some m.cls := findClass_of_methodNamed B.named
  have hlocks := B.notSynchronized
  have hK := hG.1
  have hw : hp_w D T s s.heap [] := hp_w.rf hok
  have IX1 : ∀ w ∈ wsX10, w ∈ wsX11_census := by decide +kernel
  have IX11 : ∀ w ∈ wsX110, w ∈ wsX11_census := by decide +kernel
  have L45 := hts (.fieldLink RX11 45 "PalmCensus" "now" "LPalmCensus$Memory;") (by decide +kernel)
  have L116 := hts (.fieldLink RX11 116 "PalmCensus$Memory" "town" "LPalmCensus$Town;") (by decide +kernel)
  have Mabs326_1 := hts (.methodLink RX11 326 Lib.Math.abs.name) (by decide +kernel)
  have Mabs326_2 := hts (.static Lib.Math.abs.name) (by decide +kernel)
  have Mabs326_3 := hts (.initialized "java/lang/Math") (by decide +kernel)
  have Mabs326_4 := hts (.code Lib.Math.abs.name Lib.Math.abs.code 1 (some .int)) (by decide +kernel)
  have hl := lv_entry ([.ref ap0]) (n := 4) (Nat.le_of_ble_eq_true rfl)
  rw [lg_entry_eq]
  generalize (lg_sl ([.ref ap0]) ++ List.replicate (4 - (lg_sl ([.ref ap0])).length) Slot.unset).toArray = ls at hl ⊢
  have hl : lv_has ls 4 [(0, .ref ap0)] := hl
  show WX11_census p l e s m below meth c D T ap0 s.heap [] (F0 m 0 ls [])
  refine lv_aload_n hx hb dX11_census_0 rfl (lv_at hl 0 rfl) ?_
  refine hp_callpi (va_runV (As := []) (rest := []) ⟨hx, hb, hml, hown, hts⟩ (sX11_hasTown l D T ap0 Ru hRu ap0tp ap0tr ap0rr ap0rl ap0nw ap0im ap0tl ap0sk ap0iq ap0pa ap0sn ap0be hp0 ip0tp ip0tr ip0rr hp0rl pxp0 ip0nw pimp0 hp0im ip0tl ip0sk ip0iq ip0pa ip0sn ip0be) (cwV 0 hts gX11_census_X11_hasTown rfl rfl rfl (by decide +kernel) ⟨Nat.le_of_ble_eq_true rfl, Nat.le_of_ble_eq_true rfl⟩) (hp_preV hG hw hp0 rfl trivial) rfl rfl hl.1 rfl (lv_room (Nat.le_of_ble_eq_true rfl)) dX11_census_1 ⟨Nat.zero_le _, Nat.zero_le _⟩) (fun x1 bx1 => ?_)
  refine lv_if_ne (tgt := 9) hx hb dX11_census_4 (by decide) (fun c4 => ?_) (fun c4 => ?_)
  · have r4tp : iv x1 1 1 := (iv_ne_lo c4 bx1 rfl).mono (by decide) (by decide)
    refine lv_aload_n hx hb dX11_census_9 rfl (lv_at hl 0 rfl) ?_
    refine hp_caller (va_runV (As := []) (rest := []) ⟨hx, hb, hml, hown, hts⟩ (sX11_counting l D T ap0 Ru hRu ap0tp ap0tr ap0rr ap0rl ap0nw ap0im ap0tl ap0sk ap0iq ap0pa ap0sn ap0be hp0 ip0tp ip0tr ip0rr hp0rl pxp0 ip0nw pimp0 hp0im ip0tl ip0sk ip0iq ip0pa ip0sn ip0be) (cwV 0 hts gX11_census_X11_counting rfl rfl rfl (by decide +kernel) ⟨Nat.le_of_ble_eq_true rfl, Nat.le_of_ble_eq_true rfl⟩) (hp_preV hG hw hp0 rfl trivial) rfl rfl hl.1 rfl (lv_room (Nat.le_of_ble_eq_true rfl)) dX11_census_10 ⟨Nat.zero_le _, Nat.zero_le _⟩) hw (fun st10 t10 H10 locs10 eh10 eg10 hw => ?_)
    refine lv_aload_n hx hb dX11_census_13 rfl (lv_at hl 0 rfl) ?_
    refine hp_getr hx hb hts IX11 hown hK hw.1 hp0 rfl 5 (by decide) L45 rfl dX11_census_14 ?_
    refine hp_getr hx hb hts IX1 hown hK hw.1 hp0nw rfl 0 (by decide) L116 rfl dX11_census_17 ?_
    refine hp_callei (va_runV (As := [.ref ap0nwtw]) (rest := []) ⟨hx, hb, hml, hown, hts⟩ (sX5_totalOf l D T ap0sk ap0nwtw Ru hRu ip0sk ip0nwtw) (cwV 1 hts gX11_census_X5_totalOf rfl rfl rfl (by decide +kernel) ⟨Nat.le_of_ble_eq_true rfl, Nat.le_of_ble_eq_true rfl⟩) (hp_preV hG hw hp0sk rfl trivial) rfl rfl hl.1 rfl (lv_room (Nat.le_of_ble_eq_true rfl)) dX11_census_20 ⟨Nat.zero_le _, Nat.zero_le _⟩) hw (fun x20 st20 t20 H20 locs20 eh20 eg20 bx20 hw => ?_)
    refine lv_istore_n (lv' := [(1, .int x20), (0, .ref ap0)]) hx hb dX11_census_23 rfl hl (by decide) rfl (fun ls hl => ?_)
    refine lv_iconst (v := 0) hx hb dX11_census_24 (by decide) ?_
    refine lv_istore_n (lv' := [(2, .int 0), (1, .int x20), (0, .ref ap0)]) hx hb dX11_census_25 rfl hl (by decide) rfl (fun ls hl => ?_)
    refine lv_iconst (v := 1) hx hb dX11_census_26 (by decide) ?_
    refine lv_istore_n (lv' := [(3, .int 1), (2, .int 0), (1, .int x20), (0, .ref ap0)]) hx hb dX11_census_27 rfl hl (by decide) rfl (fun ls hl => ?_)
    have J28 : ∀ (n : Nat) (y28_l2 y28_l3 : Int32), (737 - y28_l3.toInt).toNat < n → iv y28_l2 0 736 → iv y28_l3 1 737 → ∀ (H : Heap) (locs : List Loc), hp_w D T s H locs → ∀ (ls : Array Slot), lv_has ls 4 [(1, .int x20), (2, .int y28_l2), (3, .int y28_l3)] → WX11_census p l e s m below meth c D T ap0 H locs (F0 m 28 ls []) := by
      intro n
      induction n with
      | zero => intro y28_l2 y28_l3 hmu28 c28_y28_l2 c28_y28_l3 H28 locs28 hw ls hl; exact absurd hmu28 (Nat.not_lt_zero _)
      | succ n ih28 =>
        intro y28_l2 y28_l3 hmu28 c28_y28_l2 c28_y28_l3 H28 locs28 hw ls hl
        refine lv_iload_n hx hb dX11_census_28 rfl (lv_at hl 2 rfl) ?_
        refine lv_sipush (v := 736) hx hb dX11_census_29 (by decide) ?_
        refine lv_icmp_gt (tgt := 66) hx hb dX11_census_32 (by decide) (fun c32 => ?_) (fun c32 => ?_)
        · have r32tq : iv y28_l3 737 737 := (iv_lt_r c32 (show iv 736 736 736 from ⟨by decide, by decide⟩) c28_y28_l3).mono (by decide) (by decide)
          refine lv_iload_n hx hb dX11_census_66 rfl (lv_at hl 1 rfl) ?_
          exact W.iret (v := y28_l2) hx hb hr (fun t ht hW => ⟨some (.int y28_l2), rfl, ⟨y28_l2, rfl, trivial⟩, by rw [ht]; exact hw.1, hw.2.F ht⟩) hw.2.2.2 dX11_census_67
        · have r32fp : iv y28_l3 1 736 := (iv_le_l (iv_nlt c32) c28_y28_l3 (show iv 736 736 736 from ⟨by decide, by decide⟩)).mono (by decide) (by decide)
          refine lv_iload_n hx hb dX11_census_35 rfl (lv_at hl 2 rfl) ?_
          refine lv_iload_n hx hb dX11_census_36 rfl (lv_at hl 2 rfl) ?_
          refine lv_iconst (v := 1) hx hb dX11_census_37 (by decide) ?_
          refine lv_isub hx hb dX11_census_38 ?_
          refine lv_topi (fun x38 ex38 => ?_)
          have bx38 : iv x38 0 735 := iv_sub r32fp (show iv 1 1 1 from ⟨by decide, by decide⟩) ex38 (by decide)
          have qx38 := iv_sub_eq r32fp (show iv 1 1 1 from ⟨by decide, by decide⟩) ex38 (by decide)
          refine lv_imul hx hb dX11_census_39 ?_
          refine lv_topi (fun x39 ex39 => ?_)
          have bx39 : iv x39 0 540960 := iv_mul r32fp bx38 ex39 (by decide)
          refine lv_iload_n hx hb dX11_census_40 rfl (lv_at hl 0 rfl) ?_
          refine lv_isub hx hb dX11_census_41 ?_
          refine lv_topi (fun x41 ex41 => ?_)
          refine va_mabs hx hb (by rw [hml]; exact hl.1.symm) hown Mabs326_1 Mabs326_2 Mabs326_3 Mabs326_4 (Nat.le_of_ble_eq_true rfl) (Nat.le_of_ble_eq_true rfl) (Nat.zero_le _) (Nat.zero_le _) dX11_census_42 ?_
          refine lv_topi (fun x42 ex42 => ?_)
          refine lv_iload_n hx hb dX11_census_45 rfl (lv_at hl 1 rfl) ?_
          refine lv_iload_n hx hb dX11_census_46 rfl (lv_at hl 1 rfl) ?_
          refine lv_iconst (v := 1) hx hb dX11_census_47 (by decide) ?_
          refine lv_isub hx hb dX11_census_48 ?_
          refine lv_topi (fun x48 ex48 => ?_)
          have bx48 : iv x48 (-1) 735 := iv_sub c28_y28_l2 (show iv 1 1 1 from ⟨by decide, by decide⟩) ex48 (by decide)
          have qx48 := iv_sub_eq c28_y28_l2 (show iv 1 1 1 from ⟨by decide, by decide⟩) ex48 (by decide)
          refine lv_imul hx hb dX11_census_49 ?_
          refine lv_topi (fun x49 ex49 => ?_)
          refine lv_iload_n hx hb dX11_census_50 rfl (lv_at hl 0 rfl) ?_
          refine lv_isub hx hb dX11_census_51 ?_
          refine lv_topi (fun x51 ex51 => ?_)
          refine va_mabs hx hb (by rw [hml]; exact hl.1.symm) hown Mabs326_1 Mabs326_2 Mabs326_3 Mabs326_4 (Nat.le_of_ble_eq_true rfl) (Nat.le_of_ble_eq_true rfl) (Nat.zero_le _) (Nat.zero_le _) dX11_census_52 ?_
          refine lv_topi (fun x52 ex52 => ?_)
          have J60 : ∀ (y60_l2 : Int32), iv y60_l2 0 736 → iv y28_l3 1 736 → ∀ (H : Heap) (locs : List Loc), hp_w D T s H locs → ∀ (ls : Array Slot), lv_has ls 4 [(1, .int x20), (2, .int y60_l2), (3, .int y28_l3)] → WX11_census p l e s m below meth c D T ap0 H locs (F0 m 60 ls []) := by
            intro y60_l2 c60_y60_l2 c60_y28_l3 H60 locs60 hw ls hl
            obtain ⟨x60, ex60⟩ : ∃ y : Int32, y = y28_l3 + 1 := ⟨_, rfl⟩
            have bx60 : iv x60 2 737 := iv_add c60_y28_l3 (show iv 1 1 1 from ⟨by decide, by decide⟩) ex60 (by decide)
            have qx60 := iv_add_eq c60_y28_l3 (show iv 1 1 1 from ⟨by decide, by decide⟩) ex60 (by decide)
            refine lv_iinc (v := x60) (lv' := [(3, .int x60), (1, .int x20), (2, .int y60_l2)]) hx hb dX11_census_60 hl (k := 2) rfl (by rw [ex60]; rfl) (by decide) rfl (fun ls hl => ?_)
            refine lv_goto (tgt := 28) hx hb dX11_census_63 (by decide) ?_
            exact ih28 y60_l2 x60 (mu_up 1 hmu28 (qx60) (by decide) (show iv x60 1 737 from (bx60.mono (by decide) (by decide))).2) c60_y60_l2 (bx60.mono (by decide) (by decide)) H60 locs60 hw _ (lv_sub hl [1, 2, 0] rfl)
          refine lv_icmp_gt (tgt := 60) hx hb dX11_census_55 (by decide) (fun c55 => ?_) (fun c55 => ?_)
          · have r55tp : iv x52 (-2147483648) 2147483646 := (iv_lt_l c55 (iv_any x52) (iv_any x42)).mono (by decide) (by decide)
            have r55tq : iv x42 (-2147483647) 2147483647 := (iv_lt_r c55 (iv_any x52) (iv_any x42)).mono (by decide) (by decide)
            exact J60 y28_l2 c28_y28_l2 r32fp H28 locs28 hw _ (lv_sub hl [0, 1, 2] rfl)
          · refine lv_iload_n hx hb dX11_census_58 rfl (lv_at hl 2 rfl) ?_
            refine lv_istore_n (lv' := [(2, .int y28_l3), (1, .int x20), (3, .int y28_l3)]) hx hb dX11_census_59 rfl hl (by decide) rfl (fun ls hl => ?_)
            exact J60 y28_l3 (r32fp.mono (by decide) (by decide)) r32fp H28 locs28 hw _ (lv_sub hl [1, 0, 2] rfl)
    exact J28 _ (0 : Int32) (1 : Int32) (Nat.lt_succ_self _) (show iv 0 0 736 from ⟨by decide, by decide⟩) (show iv 1 1 737 from ⟨by decide, by decide⟩) H20 locs20 hw _ (lv_sub hl [2, 1, 0] rfl)
  · have r4fp : iv x1 0 0 := (iv_both bx1 (iv_eq (show iv 0 0 0 from ⟨by decide, by decide⟩) c4)).mono (by decide) (by decide)
    refine lv_iconst (v := (-1)) hx hb dX11_census_7 (by decide) ?_
    exact W.iret (v := (-1)) hx hb hr (fun t ht hW => ⟨some (.int (-1)), rfl, ⟨((-1) : Int32), rfl, trivial⟩, by rw [ht]; exact hw.1, hw.2.F ht⟩) hw.2.2.2 dX11_census_8
abbrev WX11_drawn (p : Program) (l : Launch) (e : Env) (s : State) (m : MethodId) (below : List Frame) (meth : Method) (c : Code) (D : hp_D) (T : hp_T) (ap0 : Nat) (xp1 : Int32) (xp2 : Int32) (xp3 : Int32) (H : Heap) (locs : List Loc) (g : JFrame) : Prop := W p l e (headSpec wsX11_drawn ({ frames := 7, cells := 0, slots := 0, locals := 173 })).room s m ([.ref ap0, .int xp1, .int xp2, .int xp3] : List Value).toArray below meth c H locs 0 0 (MQ below (hq_e D T (fun v _ _ => ∃ r : Int32, v = some (.int r) ∧ True)) ([.ref ap0, .int xp1, .int xp2, .int xp3] : List Value).toArray s 0 0 (hp_F T)) g
set_option maxHeartbeats 4000000 in
set_option maxRecDepth 100000 in
theorem sX11_drawn (l : Launch) (D : hp_D) (T : hp_T) (ap0 : Nat) (xp1 : Int32) (xp2 : Int32) (xp3 : Int32) (Ru : Nat → Prop) (hRu : ∀ b, Ru b → isRule T b) (ap0tp ap0tr ap0rr ap0rl ap0nw ap0im ap0tl ap0sk ap0iq ap0pa ap0sn ap0be : Nat) (hp0 : T ap0 = some (.inr (11, [(rR ap0tp), (rR ap0tr), (rR ap0rr), (rR ap0rl), (rI 0 6), (rR ap0nw), (rR ap0im), (rR ap0tl), (rR ap0sk), (rR ap0iq), (rR ap0pa), (rR ap0sn), (rR ap0be)]))) (ip0tp : isTape T ap0tp) (ip0tr : isTownReader T ap0tr) (ip0rr : isRuleReader T ap0rr) (hp0rl : T ap0rl = some (.inl (5, 6, fun _ => rN Ru))) (pxp0 : Value → Prop) (ip0nw : isMemory T ap0nw pxp0) (pimp0 : Nat → Value → Prop) (hp0im : T ap0im = some (.inl (4, 4, pimp0))) (ip0tl : isTown T ap0tl) (ip0sk : isShaker T Ru ap0sk) (ip0iq : isWorlds T ap0iq) (ip0pa : isParity T ap0pa) (ip0sn : isShuns T ap0sn) (ip0be : isBest T ap0be) (hpx : ∀ v, pxp0 v → ∃ x : Int32, v = .int x) : Met l yX11_drawn wsX11_drawn ({ frames := 7, cells := 0, slots := 0, locals := 173 }) (hp_Pc D T [.ref ap0, .int xp1, .int xp2, .int xp3] (fun _ => True)) (hq_e D T (fun v _ _ => ∃ r : Int32, v = some (.int r) ∧ True)) 0 0 (hp_F T) := by
  obtain ⟨ap0tpbt, hp0tp, hp0tpbt⟩ := id ip0tp
  obtain ⟨ap0trtp, ap0trtw, hp0tr, ip0trtp, ip0trtw⟩ := id ip0tr
  obtain ⟨ap0trtpbt, hp0trtp, hp0trtpbt⟩ := id ip0trtp
  obtain ⟨ap0trtwkin, ap0trtwpl, ap0trtwcr, hp0trtw, hp0trtwkin, hp0trtwpl, hp0trtwcr⟩ := id ip0trtw
  obtain ⟨ap0rrtp, ap0rrstp, hp0rr, ip0rrtp, hp0rrstp⟩ := id ip0rr
  obtain ⟨ap0rrtpbt, hp0rrtp, hp0rrtpbt⟩ := id ip0rrtp
  obtain ⟨ap0nwtw, ap0nwtg, ap0nwth, ap0nwts, ap0nwpm, ap0nwak, ap0nwao, ap0nwah, ap0nwaw, hp0nw, ip0nwtw, hp0nwtg, hp0nwth, hp0nwts, hp0nwpm, hp0nwak, hp0nwao, hp0nwah, hp0nwaw⟩ := id ip0nw
  obtain ⟨ap0nwtwkin, ap0nwtwpl, ap0nwtwcr, hp0nwtw, hp0nwtwkin, hp0nwtwpl, hp0nwtwcr⟩ := id ip0nwtw
  obtain ⟨ap0tlkin, ap0tlpl, ap0tlcr, hp0tl, hp0tlkin, hp0tlpl, hp0tlcr⟩ := id ip0tl
  obtain ⟨ap0skwd, ap0sksk, ap0skth, hp0sk, hp0skwd, hp0sksk, hp0skth⟩ := id ip0sk
  obtain ⟨ap0iqfi, ap0iqwo, ap0iqsu, ap0iqsh, ap0iqme, ap0iqs1, ap0iqs2, hp0iq, hp0iqfi, hp0iqwo, hp0iqsu, hp0iqsh, hp0iqme, hp0iqs1, hp0iqs2⟩ := id ip0iq
  obtain ⟨ap0pabo, hp0pa, hp0pabo⟩ := id ip0pa
  obtain ⟨ap0snle, ap0sngr, ap0sndu, ap0snit, ap0snop, hp0sn, hp0snle, hp0sngr, hp0sndu, hp0snit, hp0snop⟩ := id ip0sn
  have hp0be : T ap0be = some (.inr (0, [(rI 0 1), rA, rA, rA])) := ip0be
  refine Met.ofW (cc := cX11_drawn) (maxL := 11) (ret := (some .int)) (by decide) rfl ?_
  intro p e s m args below meth c s₁ B hml hv
  obtain ⟨rfl, hok, hG, hB⟩ := hv
  have hx := B.exec
  have hb := B.bytes
  have hr := B.returns
  have hts := atoms_spec (ws := wsX11_drawn) B.pre
  have hown : s.vm.findClass RX11 = some m.cls := findClass_of_methodNamed B.named
  have hlocks := B.notSynchronized
  have hK := hG.1
  have hw : hp_w D T s s.heap [] := hp_w.rf hok
  have IX1 : ∀ w ∈ wsX10, w ∈ wsX11_drawn := by decide +kernel
  have IX11 : ∀ w ∈ wsX110, w ∈ wsX11_drawn := by decide +kernel
  have K194 := hts (.constant RX11 194 (-1000000)) (by decide +kernel)
  have L45 := hts (.fieldLink RX11 45 "PalmCensus" "now" "LPalmCensus$Memory;") (by decide +kernel)
  have L116 := hts (.fieldLink RX11 116 "PalmCensus$Memory" "town" "LPalmCensus$Town;") (by decide +kernel)
  have L329 := hts (.fieldLink RX11 329 "PalmCensus$Memory" "x" "I") (by decide +kernel)
  have L56 := hts (.fieldLink RX11 56 "PalmCensus" "trial" "LPalmCensus$Town;") (by decide +kernel)
  have hl := lv_entry ([.ref ap0, .int xp1, .int xp2, .int xp3]) (n := 11) (Nat.le_of_ble_eq_true rfl)
  rw [lg_entry_eq]
  generalize (lg_sl ([.ref ap0, .int xp1, .int xp2, .int xp3]) ++ List.replicate (11 - (lg_sl ([.ref ap0, .int xp1, .int xp2, .int xp3])).length) Slot.unset).toArray = ls at hl ⊢
  have hl : lv_has ls 11 [(0, .ref ap0), (1, .int xp1), (2, .int xp2), (3, .int xp3)] := hl
  show WX11_drawn p l e s m below meth c D T ap0 xp1 xp2 xp3 s.heap [] (F0 m 0 ls [])
  refine lv_aload_n hx hb dX11_drawn_0 rfl (lv_at hl 0 rfl) ?_
  refine hp_callpi (va_runV (As := []) (rest := []) ⟨hx, hb, hml, hown, hts⟩ (sX11_hasTown l D T ap0 Ru hRu ap0tp ap0tr ap0rr ap0rl ap0nw ap0im ap0tl ap0sk ap0iq ap0pa ap0sn ap0be hp0 ip0tp ip0tr ip0rr hp0rl pxp0 ip0nw pimp0 hp0im ip0tl ip0sk ip0iq ip0pa ip0sn ip0be) (cwV 0 hts gX11_drawn_X11_hasTown rfl rfl rfl (by decide +kernel) ⟨Nat.le_of_ble_eq_true rfl, Nat.le_of_ble_eq_true rfl⟩) (hp_preV hG hw hp0 rfl trivial) rfl rfl hl.1 rfl (lv_room (Nat.le_of_ble_eq_true rfl)) dX11_drawn_1 ⟨Nat.zero_le _, Nat.zero_le _⟩) (fun x1 bx1 => ?_)
  have J37 : ∀ (H : Heap) (locs : List Loc), hp_w D T s H locs → ∀ (ls : Array Slot), lv_has ls 11 [] → WX11_drawn p l e s m below meth c D T ap0 xp1 xp2 xp3 H locs (F0 m 37 ls []) := by
    intro H37 locs37 hw ls hl
    refine lv_ldc (v := (-1000000)) hx hb hown K194 dX11_drawn_37 ?_
    exact W.iret (v := (-1000000)) hx hb hr (fun t ht hW => ⟨some (.int (-1000000)), rfl, ⟨((-1000000) : Int32), rfl, trivial⟩, by rw [ht]; exact hw.1, hw.2.F ht⟩) hw.2.2.2 dX11_drawn_39
  refine lv_if_eq (tgt := 37) hx hb dX11_drawn_4 (by decide) (fun c4 => ?_) (fun c4 => ?_)
  · have r4tp : iv x1 0 0 := (iv_both bx1 (iv_eq (show iv 0 0 0 from ⟨by decide, by decide⟩) c4)).mono (by decide) (by decide)
    exact J37 s.heap [] hw _ (lv_sub hl [] rfl)
  · have r4fp : iv x1 1 1 := (iv_ne_lo c4 bx1 rfl).mono (by decide) (by decide)
    refine lv_iload_n hx hb dX11_drawn_7 rfl (lv_at hl 1 rfl) ?_
    refine lv_iconst (v := 1) hx hb dX11_drawn_8 (by decide) ?_
    refine lv_icmp_lt (tgt := 37) hx hb dX11_drawn_9 (by decide) (fun c9 => ?_) (fun c9 => ?_)
    · have r9tp : iv xp1 (-2147483648) 0 := (iv_lt_l c9 (iv_any xp1) (show iv 1 1 1 from ⟨by decide, by decide⟩)).mono (by decide) (by decide)
      exact J37 s.heap [] hw _ (lv_sub hl [] rfl)
    · have r9fq : iv xp1 1 2147483647 := (iv_le_r (iv_nlt c9) (show iv 1 1 1 from ⟨by decide, by decide⟩) (iv_any xp1)).mono (by decide) (by decide)
      refine lv_iload_n hx hb dX11_drawn_12 rfl (lv_at hl 1 rfl) ?_
      refine lv_bipush (v := 20) hx hb dX11_drawn_13 (by decide) ?_
      refine lv_icmp_gt (tgt := 37) hx hb dX11_drawn_15 (by decide) (fun c15 => ?_) (fun c15 => ?_)
      · have r15tq : iv xp1 21 2147483647 := (iv_lt_r c15 (show iv 20 20 20 from ⟨by decide, by decide⟩) r9fq).mono (by decide) (by decide)
        exact J37 s.heap [] hw _ (lv_sub hl [] rfl)
      · have r15fp : iv xp1 1 20 := (iv_le_l (iv_nlt c15) r9fq (show iv 20 20 20 from ⟨by decide, by decide⟩)).mono (by decide) (by decide)
        refine lv_iload_n hx hb dX11_drawn_18 rfl (lv_at hl 2 rfl) ?_
        refine lv_if_lt (tgt := 37) hx hb dX11_drawn_19 (by decide) (fun c19 => ?_) (fun c19 => ?_)
        · have r19tp : iv xp2 (-2147483648) (-1) := (iv_lt_l c19 (iv_any xp2) (show iv 0 0 0 from ⟨by decide, by decide⟩)).mono (by decide) (by decide)
          exact J37 s.heap [] hw _ (lv_sub hl [] rfl)
        · have r19fq : iv xp2 0 2147483647 := (iv_le_r (iv_nlt c19) (show iv 0 0 0 from ⟨by decide, by decide⟩) (iv_any xp2)).mono (by decide) (by decide)
          refine lv_iload_n hx hb dX11_drawn_22 rfl (lv_at hl 2 rfl) ?_
          refine lv_bipush (v := 100) hx hb dX11_drawn_23 (by decide) ?_
          refine lv_icmp_gt (tgt := 37) hx hb dX11_drawn_25 (by decide) (fun c25 => ?_) (fun c25 => ?_)
          · have r25tq : iv xp2 101 2147483647 := (iv_lt_r c25 (show iv 100 100 100 from ⟨by decide, by decide⟩) r19fq).mono (by decide) (by decide)
            exact J37 s.heap [] hw _ (lv_sub hl [] rfl)
          · have r25fp : iv xp2 0 100 := (iv_le_l (iv_nlt c25) r19fq (show iv 100 100 100 from ⟨by decide, by decide⟩)).mono (by decide) (by decide)
            refine lv_iload_n hx hb dX11_drawn_28 rfl (lv_at hl 3 rfl) ?_
            refine lv_if_lt (tgt := 37) hx hb dX11_drawn_29 (by decide) (fun c29 => ?_) (fun c29 => ?_)
            · have r29tp : iv xp3 (-2147483648) (-1) := (iv_lt_l c29 (iv_any xp3) (show iv 0 0 0 from ⟨by decide, by decide⟩)).mono (by decide) (by decide)
              exact J37 s.heap [] hw _ (lv_sub hl [] rfl)
            · have r29fq : iv xp3 0 2147483647 := (iv_le_r (iv_nlt c29) (show iv 0 0 0 from ⟨by decide, by decide⟩) (iv_any xp3)).mono (by decide) (by decide)
              refine lv_iload_n hx hb dX11_drawn_32 rfl (lv_at hl 3 rfl) ?_
              refine lv_iconst (v := 2) hx hb dX11_drawn_33 (by decide) ?_
              refine lv_icmp_le (tgt := 40) hx hb dX11_drawn_34 (by decide) (fun c34 => ?_) (fun c34 => ?_)
              · have r34tp : iv xp3 0 2 := (iv_le_l c34 r29fq (show iv 2 2 2 from ⟨by decide, by decide⟩)).mono (by decide) (by decide)
                refine lv_aload_n hx hb dX11_drawn_40 rfl (lv_at hl 0 rfl) ?_
                refine hp_caller (va_runV (As := []) (rest := []) ⟨hx, hb, hml, hown, hts⟩ (sX11_counting l D T ap0 Ru hRu ap0tp ap0tr ap0rr ap0rl ap0nw ap0im ap0tl ap0sk ap0iq ap0pa ap0sn ap0be hp0 ip0tp ip0tr ip0rr hp0rl pxp0 ip0nw pimp0 hp0im ip0tl ip0sk ip0iq ip0pa ip0sn ip0be) (cwV 0 hts gX11_drawn_X11_counting rfl rfl rfl (by decide +kernel) ⟨Nat.le_of_ble_eq_true rfl, Nat.le_of_ble_eq_true rfl⟩) (hp_preV hG hw hp0 rfl trivial) rfl rfl hl.1 rfl (lv_room (Nat.le_of_ble_eq_true rfl)) dX11_drawn_41 ⟨Nat.zero_le _, Nat.zero_le _⟩) hw (fun st41 t41 H41 locs41 eh41 eg41 hw => ?_)
                refine lv_aload_n hx hb dX11_drawn_44 rfl (lv_at hl 0 rfl) ?_
                refine hp_getr hx hb hts IX11 hown hK hw.1 hp0 rfl 5 (by decide) L45 rfl dX11_drawn_45 ?_
                refine hp_getr hx hb hts IX1 hown hK hw.1 hp0nw rfl 0 (by decide) L116 rfl dX11_drawn_48 ?_
                refine hp_callei (va_runV (As := [.ref ap0nwtw]) (rest := []) ⟨hx, hb, hml, hown, hts⟩ (sX5_totalOf l D T ap0sk ap0nwtw Ru hRu ip0sk ip0nwtw) (cwV 1 hts gX11_drawn_X5_totalOf rfl rfl rfl (by decide +kernel) ⟨Nat.le_of_ble_eq_true rfl, Nat.le_of_ble_eq_true rfl⟩) (hp_preV hG hw hp0sk rfl trivial) rfl rfl hl.1 rfl (lv_room (Nat.le_of_ble_eq_true rfl)) dX11_drawn_51 ⟨Nat.zero_le _, Nat.zero_le _⟩) hw (fun x51 st51 t51 H51 locs51 eh51 eg51 bx51 hw => ?_)
                refine lv_istore (lv' := [(4, .int x51), (0, .ref ap0), (1, .int xp1), (2, .int xp2), (3, .int xp3)]) hx hb dX11_drawn_54 hl (by decide) rfl (fun ls hl => ?_)
                refine lv_aload_n hx hb dX11_drawn_56 rfl (lv_at hl 1 rfl) ?_
                refine hp_getr hx hb hts IX11 hown hK hw.1 hp0 rfl 5 (by decide) L45 rfl dX11_drawn_57 ?_
                refine hp_get hx hb hts IX1 hown hK hw.1 hp0nw rfl 2 (by decide) L329 rfl dX11_drawn_60 (fun v60 h60 fx60 => ?_)
                obtain ⟨x60, rfl⟩ := hpx v60 h60
                refine lv_istore (lv' := [(5, .int x60), (4, .int x51), (0, .ref ap0), (1, .int xp1), (2, .int xp2), (3, .int xp3)]) hx hb dX11_drawn_63 hl (by decide) rfl (fun ls hl => ?_)
                refine lv_iconst (v := 0) hx hb dX11_drawn_65 (by decide) ?_
                refine lv_istore (lv' := [(6, .int 0), (5, .int x60), (4, .int x51), (0, .ref ap0), (1, .int xp1), (2, .int xp2), (3, .int xp3)]) hx hb dX11_drawn_66 hl (by decide) rfl (fun ls hl => ?_)
                refine lv_iconst (v := 0) hx hb dX11_drawn_68 (by decide) ?_
                refine lv_istore (lv' := [(7, .int 0), (6, .int 0), (5, .int x60), (4, .int x51), (0, .ref ap0), (1, .int xp1), (2, .int xp2), (3, .int xp3)]) hx hb dX11_drawn_69 hl (by decide) rfl (fun ls hl => ?_)
                refine lv_iconst (v := 0) hx hb dX11_drawn_71 (by decide) ?_
                refine lv_istore (lv' := [(8, .int 0), (7, .int 0), (6, .int 0), (5, .int x60), (4, .int x51), (0, .ref ap0), (1, .int xp1), (2, .int xp2), (3, .int xp3)]) hx hb dX11_drawn_72 hl (by decide) rfl (fun ls hl => ?_)
                refine lv_iconst (v := 0) hx hb dX11_drawn_74 (by decide) ?_
                refine lv_istore (lv' := [(9, .int 0), (8, .int 0), (7, .int 0), (6, .int 0), (5, .int x60), (4, .int x51), (0, .ref ap0), (1, .int xp1), (2, .int xp2), (3, .int xp3)]) hx hb dX11_drawn_75 hl (by decide) rfl (fun ls hl => ?_)
                have J77 : ∀ (n : Nat) (y77_l5 y77_l6 y77_l7 y77_l8 y77_l9 : Int32), (20 - y77_l9.toInt).toNat < n → iv xp1 1 20 → iv xp2 0 100 → iv xp3 0 2 → iv y77_l9 0 20 → ∀ (H : Heap) (locs : List Loc), hp_w D T s H locs → ∀ (ls : Array Slot), lv_has ls 11 [(0, .ref ap0), (1, .int xp1), (2, .int xp2), (3, .int xp3), (4, .int x51), (5, .int y77_l5), (6, .int y77_l6), (7, .int y77_l7), (8, .int y77_l8), (9, .int y77_l9)] → WX11_drawn p l e s m below meth c D T ap0 xp1 xp2 xp3 H locs (F0 m 77 ls []) := by
                  intro n
                  induction n with
                  | zero => intro y77_l5 y77_l6 y77_l7 y77_l8 y77_l9 hmu77 c77_xp1 c77_xp2 c77_xp3 c77_y77_l9 H77 locs77 hw ls hl; exact absurd hmu77 (Nat.not_lt_zero _)
                  | succ n ih77 =>
                    intro y77_l5 y77_l6 y77_l7 y77_l8 y77_l9 hmu77 c77_xp1 c77_xp2 c77_xp3 c77_y77_l9 H77 locs77 hw ls hl
                    refine lv_iload hx hb dX11_drawn_77 (lv_at hl 9 rfl) ?_
                    refine lv_iload_n hx hb dX11_drawn_79 rfl (lv_at hl 1 rfl) ?_
                    refine lv_icmp_ge (tgt := 161) hx hb dX11_drawn_80 (by decide) (fun c80 => ?_) (fun c80 => ?_)
                    · have r80tq : iv y77_l9 1 20 := (iv_le_r c80 c77_xp1 c77_y77_l9).mono (by decide) (by decide)
                      refine lv_iload_n hx hb dX11_drawn_161 rfl (lv_at hl 3 rfl) ?_
                      have i162 := c77_xp3
                      unfold iv at i162
                      rcases (show (xp3.toInt ≠ 0 ∧ xp3.toInt ≠ 1) ∨ xp3.toInt = 0 ∨ xp3.toInt = 1 from by omega) with s162 | s162 | s162
                      · refine lv_lookup (off := 32) (tgt := 194) hx hb dX11_drawn_162 (by decide) (by obtain ⟨a0, a1⟩ := s162; simp [Op.lookupswitch.offset, Ne.symm a0, Ne.symm a1]) (by decide) ?_
                        have r162d : iv xp3 2 2 := ⟨by omega, by omega⟩
                        refine lv_iload hx hb dX11_drawn_194 (lv_at hl 8 rfl) ?_
                        exact W.iret (v := y77_l8) hx hb hr (fun t ht hW => ⟨some (.int y77_l8), rfl, ⟨y77_l8, rfl, trivial⟩, by rw [ht]; exact hw.1, hw.2.F ht⟩) hw.2.2.2 dX11_drawn_196
                      · refine lv_lookup (off := 26) (tgt := 188) hx hb dX11_drawn_162 (by decide) (by rw [s162]; rfl) (by decide) ?_
                        have r162k : iv xp3 0 0 := ⟨by omega, by omega⟩
                        refine lv_iload hx hb dX11_drawn_188 (lv_at hl 6 rfl) ?_
                        exact W.iret (v := y77_l6) hx hb hr (fun t ht hW => ⟨some (.int y77_l6), rfl, ⟨y77_l6, rfl, trivial⟩, by rw [ht]; exact hw.1, hw.2.F ht⟩) hw.2.2.2 dX11_drawn_190
                      · refine lv_lookup (off := 29) (tgt := 191) hx hb dX11_drawn_162 (by decide) (by rw [s162]; rfl) (by decide) ?_
                        have r162k : iv xp3 1 1 := ⟨by omega, by omega⟩
                        refine lv_iload hx hb dX11_drawn_191 (lv_at hl 7 rfl) ?_
                        exact W.iret (v := y77_l7) hx hb hr (fun t ht hW => ⟨some (.int y77_l7), rfl, ⟨y77_l7, rfl, trivial⟩, by rw [ht]; exact hw.1, hw.2.F ht⟩) hw.2.2.2 dX11_drawn_193
                    · have r80fp : iv y77_l9 0 19 := (iv_lt_l (iv_nle c80) c77_y77_l9 c77_xp1).mono (by decide) (by decide)
                      refine lv_aload_n hx hb dX11_drawn_83 rfl (lv_at hl 0 rfl) ?_
                      refine hp_getr hx hb hts IX11 hown hK hw.1 hp0 rfl 7 (by decide) L56 rfl dX11_drawn_84 ?_
                      refine lv_aload_n hx hb dX11_drawn_87 rfl (lv_at hl 0 rfl) ?_
                      refine hp_getr hx hb hts IX11 hown hK hw.1 hp0 rfl 5 (by decide) L45 rfl dX11_drawn_88 ?_
                      refine hp_getr hx hb hts IX1 hown hK hw.1 hp0nw rfl 0 (by decide) L116 rfl dX11_drawn_91 ?_
                      refine hp_callev (va_runV (As := [.ref ap0nwtw]) (rest := []) ⟨hx, hb, hml, hown, hts⟩ (sX8_copyFrom l D T ap0tl ap0nwtw ip0tl ip0nwtw) (cwV 1 hts gX11_drawn_X8_copyFrom rfl rfl rfl (by decide +kernel) ⟨Nat.le_of_ble_eq_true rfl, Nat.le_of_ble_eq_true rfl⟩) (hp_preV hG hw hp0tl rfl trivial) rfl rfl hl.1 rfl (lv_room (Nat.le_of_ble_eq_true rfl)) dX11_drawn_94 ⟨Nat.zero_le _, Nat.zero_le _⟩) hw (fun st94 t94 H94 locs94 eh94 eg94 bx94 hw => ?_)
                      refine lv_aload_n hx hb dX11_drawn_97 rfl (lv_at hl 0 rfl) ?_
                      refine hp_getr hx hb hts IX11 hown hK hw.1 hp0 rfl 7 (by decide) L56 rfl dX11_drawn_98 ?_
                      refine lv_iload hx hb dX11_drawn_101 (lv_at hl 5 rfl) ?_
                      refine lv_iload_n hx hb dX11_drawn_103 rfl (lv_at hl 2 rfl) ?_
                      refine hp_callei (va_runV (As := [.int y77_l5, .int xp2]) (rest := []) ⟨hx, hb, hml, hown, hts⟩ (sX8_scatter l D T ap0tl y77_l5 xp2 ip0tl) (cwV 2 hts gX11_drawn_X8_scatter rfl rfl rfl (by decide +kernel) ⟨Nat.le_of_ble_eq_true rfl, Nat.le_of_ble_eq_true rfl⟩) (hp_preV hG hw hp0tl rfl trivial) rfl rfl hl.1 rfl (lv_room (Nat.le_of_ble_eq_true rfl)) dX11_drawn_104 ⟨Nat.zero_le _, Nat.zero_le _⟩) hw (fun x104 st104 t104 H104 locs104 eh104 eg104 bx104 hw => ?_)
                      refine lv_istore (lv' := [(5, .int x104), (0, .ref ap0), (1, .int xp1), (2, .int xp2), (3, .int xp3), (4, .int x51), (6, .int y77_l6), (7, .int y77_l7), (8, .int y77_l8), (9, .int y77_l9)]) hx hb dX11_drawn_107 hl (by decide) rfl (fun ls hl => ?_)
                      refine lv_aload_n hx hb dX11_drawn_109 rfl (lv_at hl 1 rfl) ?_
                      refine hp_caller (va_runV (As := []) (rest := []) ⟨hx, hb, hml, hown, hts⟩ (sX11_counting l D T ap0 Ru hRu ap0tp ap0tr ap0rr ap0rl ap0nw ap0im ap0tl ap0sk ap0iq ap0pa ap0sn ap0be hp0 ip0tp ip0tr ip0rr hp0rl pxp0 ip0nw pimp0 hp0im ip0tl ip0sk ip0iq ip0pa ip0sn ip0be) (cwV 0 hts gX11_drawn_X11_counting rfl rfl rfl (by decide +kernel) ⟨Nat.le_of_ble_eq_true rfl, Nat.le_of_ble_eq_true rfl⟩) (hp_preV hG hw hp0 rfl trivial) rfl rfl hl.1 rfl (lv_room (Nat.le_of_ble_eq_true rfl)) dX11_drawn_110 ⟨Nat.zero_le _, Nat.zero_le _⟩) hw (fun st110 t110 H110 locs110 eh110 eg110 hw => ?_)
                      refine lv_aload_n hx hb dX11_drawn_113 rfl (lv_at hl 1 rfl) ?_
                      refine hp_getr hx hb hts IX11 hown hK hw.1 hp0 rfl 7 (by decide) L56 rfl dX11_drawn_114 ?_
                      refine hp_callei (va_runV (As := [.ref ap0tl]) (rest := []) ⟨hx, hb, hml, hown, hts⟩ (sX5_totalOf l D T ap0sk ap0tl Ru hRu ip0sk ip0tl) (cwV 1 hts gX11_drawn_X5_totalOf rfl rfl rfl (by decide +kernel) ⟨Nat.le_of_ble_eq_true rfl, Nat.le_of_ble_eq_true rfl⟩) (hp_preV hG hw hp0sk rfl trivial) rfl rfl hl.1 rfl (lv_room (Nat.le_of_ble_eq_true rfl)) dX11_drawn_117 ⟨Nat.zero_le _, Nat.zero_le _⟩) hw (fun x117 st117 t117 H117 locs117 eh117 eg117 bx117 hw => ?_)
                      refine lv_istore (lv' := [(10, .int x117), (5, .int x104), (0, .ref ap0), (1, .int xp1), (2, .int xp2), (3, .int xp3), (4, .int x51), (6, .int y77_l6), (7, .int y77_l7), (8, .int y77_l8), (9, .int y77_l9)]) hx hb dX11_drawn_120 hl (by decide) rfl (fun ls hl => ?_)
                      refine lv_iload hx hb dX11_drawn_122 (lv_at hl 7 rfl) ?_
                      refine lv_iload hx hb dX11_drawn_124 (lv_at hl 0 rfl) ?_
                      refine lv_iadd hx hb dX11_drawn_126 ?_
                      refine lv_topi (fun x126 ex126 => ?_)
                      refine lv_istore (lv' := [(6, .int x126), (10, .int x117), (5, .int x104), (0, .ref ap0), (1, .int xp1), (2, .int xp2), (3, .int xp3), (4, .int x51), (7, .int y77_l7), (8, .int y77_l8), (9, .int y77_l9)]) hx hb dX11_drawn_127 hl (by decide) rfl (fun ls hl => ?_)
                      refine lv_iload hx hb dX11_drawn_129 (lv_at hl 8 rfl) ?_
                      refine lv_iload hx hb dX11_drawn_131 (lv_at hl 1 rfl) ?_
                      refine lv_iconst (v := 1) hx hb dX11_drawn_133 (by decide) ?_
                      refine lv_iand hx hb dX11_drawn_134 ?_
                      refine lv_topi (fun x134 ex134 => ?_)
                      have bx134 : iv x134 0 1 := iv_and_r (show iv 1 0 1 from ⟨by decide, by decide⟩) ex134
                      refine lv_iadd hx hb dX11_drawn_135 ?_
                      refine lv_topi (fun x135 ex135 => ?_)
                      refine lv_istore (lv' := [(7, .int x135), (6, .int x126), (10, .int x117), (5, .int x104), (0, .ref ap0), (1, .int xp1), (2, .int xp2), (3, .int xp3), (4, .int x51), (8, .int y77_l8), (9, .int y77_l9)]) hx hb dX11_drawn_136 hl (by decide) rfl (fun ls hl => ?_)
                      refine lv_iload hx hb dX11_drawn_138 (lv_at hl 9 rfl) ?_
                      refine lv_iload hx hb dX11_drawn_140 (lv_at hl 2 rfl) ?_
                      refine lv_iload hx hb dX11_drawn_142 (lv_at hl 8 rfl) ?_
                      have J152 : ∀ (y152_s1 : Int32), iv xp1 1 20 → iv xp2 0 100 → iv xp3 0 2 → iv y77_l9 0 19 → iv y152_s1 0 1 → ∀ (H : Heap) (locs : List Loc), hp_w D T s H locs → ∀ (ls : Array Slot), lv_has ls 11 [(0, .ref ap0), (1, .int xp1), (2, .int xp2), (3, .int xp3), (4, .int x51), (5, .int x104), (6, .int x126), (7, .int x135), (9, .int y77_l9)] → WX11_drawn p l e s m below meth c D T ap0 xp1 xp2 xp3 H locs (F0 m 152 ls [.int y152_s1, .int y77_l8]) := by
                        intro y152_s1 c152_xp1 c152_xp2 c152_xp3 c152_y77_l9 c152_y152_s1 H152 locs152 hw ls hl
                        refine lv_iadd hx hb dX11_drawn_152 ?_
                        refine lv_topi (fun x152 ex152 => ?_)
                        refine lv_istore (lv' := [(8, .int x152), (0, .ref ap0), (1, .int xp1), (2, .int xp2), (3, .int xp3), (4, .int x51), (5, .int x104), (6, .int x126), (7, .int x135), (9, .int y77_l9)]) hx hb dX11_drawn_153 hl (by decide) rfl (fun ls hl => ?_)
                        obtain ⟨x155, ex155⟩ : ∃ y : Int32, y = y77_l9 + 1 := ⟨_, rfl⟩
                        have bx155 : iv x155 1 20 := iv_add c152_y77_l9 (show iv 1 1 1 from ⟨by decide, by decide⟩) ex155 (by decide)
                        have qx155 := iv_add_eq c152_y77_l9 (show iv 1 1 1 from ⟨by decide, by decide⟩) ex155 (by decide)
                        refine lv_iinc (v := x155) (lv' := [(9, .int x155), (8, .int x152), (0, .ref ap0), (1, .int xp1), (2, .int xp2), (3, .int xp3), (4, .int x51), (5, .int x104), (6, .int x126), (7, .int x135)]) hx hb dX11_drawn_155 hl (k := 9) rfl (by rw [ex155]; rfl) (by decide) rfl (fun ls hl => ?_)
                        refine lv_goto (tgt := 77) hx hb dX11_drawn_158 (by decide) ?_
                        exact ih77 x104 x126 x135 x152 x155 (mu_up 1 hmu77 (qx155) (by decide) (show iv x155 0 20 from (bx155.mono (by decide) (by decide))).2) c152_xp1 c152_xp2 c152_xp3 (bx155.mono (by decide) (by decide)) H152 locs152 hw _ (lv_sub hl [2, 3, 4, 5, 6, 7, 8, 9, 1, 0] rfl)
                      refine lv_icmp_ne (tgt := 151) hx hb dX11_drawn_144 (by decide) (fun c144 => ?_) (fun c144 => ?_)
                      · refine lv_iconst (v := 0) hx hb dX11_drawn_151 (by decide) ?_
                        exact J152 (0 : Int32) c77_xp1 c77_xp2 c77_xp3 r80fp (show iv 0 0 1 from ⟨by decide, by decide⟩) H117 locs117 hw _ (lv_sub hl [4, 5, 6, 7, 8, 3, 1, 0, 10] rfl)
                      · refine lv_iconst (v := 1) hx hb dX11_drawn_147 (by decide) ?_
                        refine lv_goto (tgt := 152) hx hb dX11_drawn_148 (by decide) ?_
                        exact J152 (1 : Int32) c77_xp1 c77_xp2 c77_xp3 r80fp (show iv 1 0 1 from ⟨by decide, by decide⟩) H117 locs117 hw _ (lv_sub hl [4, 5, 6, 7, 8, 3, 1, 0, 10] rfl)
                exact J77 _ x60 (0 : Int32) (0 : Int32) (0 : Int32) (0 : Int32) (Nat.lt_succ_self _) r15fp r25fp r34tp (show iv 0 0 20 from ⟨by decide, by decide⟩) H51 locs51 hw _ (lv_sub hl [6, 7, 8, 9, 5, 4, 3, 2, 1, 0] rfl)
              · have r34fq : iv xp3 3 2147483647 := (iv_lt_r (iv_nle c34) (show iv 2 2 2 from ⟨by decide, by decide⟩) r29fq).mono (by decide) (by decide)
                exact J37 s.heap [] hw _ (lv_sub hl [] rfl)
abbrev WX11_count (p : Program) (l : Launch) (e : Env) (s : State) (m : MethodId) (below : List Frame) (meth : Method) (c : Code) (D : hp_D) (T : hp_T) (ap0 : Nat) (xp1 : Int32) (H : Heap) (locs : List Loc) (g : JFrame) : Prop := W p l e (headSpec wsX11_count ({ frames := 4, cells := 0, slots := 0, locals := 88 })).room s m ([.ref ap0, .int xp1] : List Value).toArray below meth c H locs 0 0 (MQ below (hq_p (fun v => ∃ r : Int32, v = some (.int r) ∧ True)) ([.ref ap0, .int xp1] : List Value).toArray s 0 0 (fun _ => False)) g
set_option maxHeartbeats 4000000 in
set_option maxRecDepth 100000 in
theorem sX11_count (l : Launch) (D : hp_D) (T : hp_T) (ap0 : Nat) (xp1 : Int32) (Ru : Nat → Prop) (hRu : ∀ b, Ru b → isRule T b) (ap0tp ap0tr ap0rr ap0rl ap0nw ap0im ap0tl ap0sk ap0iq ap0pa ap0sn ap0be : Nat) (hp0 : T ap0 = some (.inr (11, [(rR ap0tp), (rR ap0tr), (rR ap0rr), (rR ap0rl), (rI 0 6), (rR ap0nw), (rR ap0im), (rR ap0tl), (rR ap0sk), (rR ap0iq), (rR ap0pa), (rR ap0sn), (rR ap0be)]))) (ip0tp : isTape T ap0tp) (ip0tr : isTownReader T ap0tr) (ip0rr : isRuleReader T ap0rr) (hp0rl : T ap0rl = some (.inl (5, 6, fun _ => rN Ru))) (pxp0 : Value → Prop) (ip0nw : isMemory T ap0nw pxp0) (pimp0 : Nat → Value → Prop) (hp0im : T ap0im = some (.inl (4, 4, pimp0))) (ip0tl : isTown T ap0tl) (ip0sk : isShaker T Ru ap0sk) (ip0iq : isWorlds T ap0iq) (ip0pa : isParity T ap0pa) (ip0sn : isShuns T ap0sn) (ip0be : isBest T ap0be) (hpx : ∀ v, pxp0 v → ∃ x : Int32, v = .int x) : Met l yX11_count wsX11_count ({ frames := 4, cells := 0, slots := 0, locals := 88 }) (hp_Pc D T [.ref ap0, .int xp1] (fun _ => True)) (hq_p (fun v => ∃ r : Int32, v = some (.int r) ∧ True)) 0 0 (fun _ => False) := by
  obtain ⟨ap0tpbt, hp0tp, hp0tpbt⟩ := id ip0tp
  obtain ⟨ap0trtp, ap0trtw, hp0tr, ip0trtp, ip0trtw⟩ := id ip0tr
  obtain ⟨ap0trtpbt, hp0trtp, hp0trtpbt⟩ := id ip0trtp
  obtain ⟨ap0trtwkin, ap0trtwpl, ap0trtwcr, hp0trtw, hp0trtwkin, hp0trtwpl, hp0trtwcr⟩ := id ip0trtw
  obtain ⟨ap0rrtp, ap0rrstp, hp0rr, ip0rrtp, hp0rrstp⟩ := id ip0rr
  obtain ⟨ap0rrtpbt, hp0rrtp, hp0rrtpbt⟩ := id ip0rrtp
  obtain ⟨ap0nwtw, ap0nwtg, ap0nwth, ap0nwts, ap0nwpm, ap0nwak, ap0nwao, ap0nwah, ap0nwaw, hp0nw, ip0nwtw, hp0nwtg, hp0nwth, hp0nwts, hp0nwpm, hp0nwak, hp0nwao, hp0nwah, hp0nwaw⟩ := id ip0nw
  obtain ⟨ap0nwtwkin, ap0nwtwpl, ap0nwtwcr, hp0nwtw, hp0nwtwkin, hp0nwtwpl, hp0nwtwcr⟩ := id ip0nwtw
  obtain ⟨ap0tlkin, ap0tlpl, ap0tlcr, hp0tl, hp0tlkin, hp0tlpl, hp0tlcr⟩ := id ip0tl
  obtain ⟨ap0skwd, ap0sksk, ap0skth, hp0sk, hp0skwd, hp0sksk, hp0skth⟩ := id ip0sk
  obtain ⟨ap0iqfi, ap0iqwo, ap0iqsu, ap0iqsh, ap0iqme, ap0iqs1, ap0iqs2, hp0iq, hp0iqfi, hp0iqwo, hp0iqsu, hp0iqsh, hp0iqme, hp0iqs1, hp0iqs2⟩ := id ip0iq
  obtain ⟨ap0pabo, hp0pa, hp0pabo⟩ := id ip0pa
  obtain ⟨ap0snle, ap0sngr, ap0sndu, ap0snit, ap0snop, hp0sn, hp0snle, hp0sngr, hp0sndu, hp0snit, hp0snop⟩ := id ip0sn
  have hp0be : T ap0be = some (.inr (0, [(rI 0 1), rA, rA, rA])) := ip0be
  refine Met.ofW (cc := cX11_count) (maxL := 2) (ret := (some .int)) (by decide) rfl ?_
  intro p e s m args below meth c s₁ B hml hv
  obtain ⟨rfl, hok, hG, hB⟩ := hv
  have hx := B.exec
  have hb := B.bytes
  have hr := B.returns
  have hts := atoms_spec (ws := wsX11_count) B.pre
  have hown : s.vm.findClass RX11 = some m.cls := findClass_of_methodNamed B.named
  have hlocks := B.notSynchronized
  have hK := hG.1
  have hw : hp_w D T s s.heap [] := hp_w.rf hok
  have IX1 : ∀ w ∈ wsX10, w ∈ wsX11_count := by decide +kernel
  have IX11 : ∀ w ∈ wsX110, w ∈ wsX11_count := by decide +kernel
  have IX7 : ∀ w ∈ wsX70, w ∈ wsX11_count := by decide +kernel
  have IX8 : ∀ w ∈ wsX80, w ∈ wsX11_count := by decide +kernel
  have L45 := hts (.fieldLink RX11 45 "PalmCensus" "now" "LPalmCensus$Memory;") (by decide +kernel)
  have L116 := hts (.fieldLink RX11 116 "PalmCensus$Memory" "town" "LPalmCensus$Town;") (by decide +kernel)
  have L202 := hts (.fieldLink RX11 202 "PalmCensus$Town" "gates" "I") (by decide +kernel)
  have L215 := hts (.fieldLink RX11 215 "PalmCensus$Town" "hours" "I") (by decide +kernel)
  have L117 := hts (.fieldLink RX11 117 "PalmCensus$Town" "people" "I") (by decide +kernel)
  have L38 := hts (.fieldLink RX11 38 "PalmCensus" "ruleCount" "I") (by decide +kernel)
  have L127 := hts (.fieldLink RX11 127 "PalmCensus$Memory" "force" "I") (by decide +kernel)
  have L241 := hts (.fieldLink RX11 241 "PalmCensus$Town" "day" "I") (by decide +kernel)
  have L195 := hts (.fieldLink RX11 195 "PalmCensus$Town" "counters" "I") (by decide +kernel)
  have L250 := hts (.fieldLink RX11 250 "PalmCensus$Memory" "toldCount" "I") (by decide +kernel)
  have L247 := hts (.fieldLink RX11 247 "PalmCensus$Memory" "acts" "I") (by decide +kernel)
  have L329 := hts (.fieldLink RX11 329 "PalmCensus$Memory" "x" "I") (by decide +kernel)
  have L12 := hts (.fieldLink RX11 12 "PalmCensus" "tape" "LPalmCensus$Tape;") (by decide +kernel)
  have L95 := hts (.fieldLink RX11 95 "PalmCensus$Tape" "length" "I") (by decide +kernel)
  have hl := lv_entry ([.ref ap0, .int xp1]) (n := 2) (Nat.le_of_ble_eq_true rfl)
  rw [lg_entry_eq]
  generalize (lg_sl ([.ref ap0, .int xp1]) ++ List.replicate (2 - (lg_sl ([.ref ap0, .int xp1])).length) Slot.unset).toArray = ls at hl ⊢
  have hl : lv_has ls 2 [(0, .ref ap0), (1, .int xp1)] := hl
  show WX11_count p l e s m below meth c D T ap0 xp1 s.heap [] (F0 m 0 ls [])
  refine lv_iload_n hx hb dX11_count_0 rfl (lv_at hl 1 rfl) ?_
  have i1 := (iv_any xp1)
  unfold iv at i1
  rcases (show (xp1.toInt < 0 ∨ 12 < xp1.toInt) ∨ xp1.toInt = 0 ∨ xp1.toInt = 1 ∨ xp1.toInt = 2 ∨ xp1.toInt = 3 ∨ xp1.toInt = 4 ∨ xp1.toInt = 5 ∨ xp1.toInt = 6 ∨ xp1.toInt = 7 ∨ xp1.toInt = 8 ∨ xp1.toInt = 9 ∨ xp1.toInt = 10 ∨ xp1.toInt = 11 ∨ xp1.toInt = 12 from by omega) with s1 | s1 | s1 | s1 | s1 | s1 | s1 | s1 | s1 | s1 | s1 | s1 | s1 | s1
  · refine lv_tableOut (tgt := 187) hx hb dX11_count_1 s1 (by decide) ?_
    refine lv_iconst (v := (-1)) hx hb dX11_count_187 (by decide) ?_
    exact W.iret (v := (-1)) hx hb hr (fun t ht hW => ⟨some (.int (-1)), rfl, ⟨((-1) : Int32), rfl, trivial⟩, ht⟩) (fun q h => by cases h) dX11_count_188
  · refine lv_tableIn (off := 67) (tgt := 68) hx hb dX11_count_1 (by omega) (by omega) (by rw [s1]; rfl) (by decide) ?_
    have r1k : iv xp1 0 0 := ⟨by omega, by omega⟩
    refine lv_aload_n hx hb dX11_count_68 rfl (lv_at hl 0 rfl) ?_
    refine hp_getr hx hb hts IX11 hown hK hw.1 hp0 rfl 5 (by decide) L45 rfl dX11_count_69 ?_
    refine hp_getr hx hb hts IX1 hown hK hw.1 hp0nw rfl 0 (by decide) L116 rfl dX11_count_72 ?_
    refine hp_geti hx hb hts IX8 hown hK hw.1 hp0nwtw rfl 0 (by decide) L202 rfl dX11_count_75 (fun x75 bx75 fx75 => ?_)
    exact W.iret (v := x75) hx hb hr (fun t ht hW => ⟨some (.int x75), rfl, ⟨x75, rfl, trivial⟩, ht⟩) (fun q h => by cases h) dX11_count_78
  · refine lv_tableIn (off := 78) (tgt := 79) hx hb dX11_count_1 (by omega) (by omega) (by rw [s1]; rfl) (by decide) ?_
    have r1k : iv xp1 1 1 := ⟨by omega, by omega⟩
    refine lv_aload_n hx hb dX11_count_79 rfl (lv_at hl 0 rfl) ?_
    refine hp_getr hx hb hts IX11 hown hK hw.1 hp0 rfl 5 (by decide) L45 rfl dX11_count_80 ?_
    refine hp_getr hx hb hts IX1 hown hK hw.1 hp0nw rfl 0 (by decide) L116 rfl dX11_count_83 ?_
    refine hp_geti hx hb hts IX8 hown hK hw.1 hp0nwtw rfl 1 (by decide) L215 rfl dX11_count_86 (fun x86 bx86 fx86 => ?_)
    exact W.iret (v := x86) hx hb hr (fun t ht hW => ⟨some (.int x86), rfl, ⟨x86, rfl, trivial⟩, ht⟩) (fun q h => by cases h) dX11_count_89
  · refine lv_tableIn (off := 89) (tgt := 90) hx hb dX11_count_1 (by omega) (by omega) (by rw [s1]; rfl) (by decide) ?_
    have r1k : iv xp1 2 2 := ⟨by omega, by omega⟩
    refine lv_aload_n hx hb dX11_count_90 rfl (lv_at hl 0 rfl) ?_
    refine hp_getr hx hb hts IX11 hown hK hw.1 hp0 rfl 5 (by decide) L45 rfl dX11_count_91 ?_
    refine hp_getr hx hb hts IX1 hown hK hw.1 hp0nw rfl 0 (by decide) L116 rfl dX11_count_94 ?_
    refine hp_geti hx hb hts IX8 hown hK hw.1 hp0nwtw rfl 2 (by decide) L117 rfl dX11_count_97 (fun x97 bx97 fx97 => ?_)
    exact W.iret (v := x97) hx hb hr (fun t ht hW => ⟨some (.int x97), rfl, ⟨x97, rfl, trivial⟩, ht⟩) (fun q h => by cases h) dX11_count_100
  · refine lv_tableIn (off := 100) (tgt := 101) hx hb dX11_count_1 (by omega) (by omega) (by rw [s1]; rfl) (by decide) ?_
    have r1k : iv xp1 3 3 := ⟨by omega, by omega⟩
    refine lv_aload_n hx hb dX11_count_101 rfl (lv_at hl 0 rfl) ?_
    refine hp_geti hx hb hts IX11 hown hK hw.1 hp0 rfl 4 (by decide) L38 rfl dX11_count_102 (fun x102 bx102 fx102 => ?_)
    exact W.iret (v := x102) hx hb hr (fun t ht hW => ⟨some (.int x102), rfl, ⟨x102, rfl, trivial⟩, ht⟩) (fun q h => by cases h) dX11_count_105
  · refine lv_tableIn (off := 105) (tgt := 106) hx hb dX11_count_1 (by omega) (by omega) (by rw [s1]; rfl) (by decide) ?_
    have r1k : iv xp1 4 4 := ⟨by omega, by omega⟩
    refine lv_aload_n hx hb dX11_count_106 rfl (lv_at hl 0 rfl) ?_
    refine hp_getr hx hb hts IX11 hown hK hw.1 hp0 rfl 5 (by decide) L45 rfl dX11_count_107 ?_
    refine hp_getA hx hb hts IX1 hown hK hw.1 hp0nw rfl 1 (by decide) L127 rfl dX11_count_110 (fun x110 fx110 => ?_)
    exact W.iret (v := x110) hx hb hr (fun t ht hW => ⟨some (.int x110), rfl, ⟨x110, rfl, trivial⟩, ht⟩) (fun q h => by cases h) dX11_count_113
  · refine lv_tableIn (off := 113) (tgt := 114) hx hb dX11_count_1 (by omega) (by omega) (by rw [s1]; rfl) (by decide) ?_
    have r1k : iv xp1 5 5 := ⟨by omega, by omega⟩
    refine lv_aload_n hx hb dX11_count_114 rfl (lv_at hl 0 rfl) ?_
    refine hp_getr hx hb hts IX11 hown hK hw.1 hp0 rfl 5 (by decide) L45 rfl dX11_count_115 ?_
    refine hp_getr hx hb hts IX1 hown hK hw.1 hp0nw rfl 0 (by decide) L116 rfl dX11_count_118 ?_
    refine hp_getA hx hb hts IX8 hown hK hw.1 hp0nwtw rfl 3 (by decide) L241 rfl dX11_count_121 (fun x121 fx121 => ?_)
    exact W.iret (v := x121) hx hb hr (fun t ht hW => ⟨some (.int x121), rfl, ⟨x121, rfl, trivial⟩, ht⟩) (fun q h => by cases h) dX11_count_124
  · refine lv_tableIn (off := 124) (tgt := 125) hx hb dX11_count_1 (by omega) (by omega) (by rw [s1]; rfl) (by decide) ?_
    have r1k : iv xp1 6 6 := ⟨by omega, by omega⟩
    refine lv_aload_n hx hb dX11_count_125 rfl (lv_at hl 0 rfl) ?_
    refine hp_getr hx hb hts IX11 hown hK hw.1 hp0 rfl 5 (by decide) L45 rfl dX11_count_126 ?_
    refine hp_getr hx hb hts IX1 hown hK hw.1 hp0nw rfl 0 (by decide) L116 rfl dX11_count_129 ?_
    refine hp_getA hx hb hts IX8 hown hK hw.1 hp0nwtw rfl 7 (by decide) L195 rfl dX11_count_132 (fun x132 fx132 => ?_)
    exact W.iret (v := x132) hx hb hr (fun t ht hW => ⟨some (.int x132), rfl, ⟨x132, rfl, trivial⟩, ht⟩) (fun q h => by cases h) dX11_count_135
  · refine lv_tableIn (off := 135) (tgt := 136) hx hb dX11_count_1 (by omega) (by omega) (by rw [s1]; rfl) (by decide) ?_
    have r1k : iv xp1 7 7 := ⟨by omega, by omega⟩
    refine lv_aload_n hx hb dX11_count_136 rfl (lv_at hl 0 rfl) ?_
    refine hp_getr hx hb hts IX11 hown hK hw.1 hp0 rfl 5 (by decide) L45 rfl dX11_count_137 ?_
    refine hp_getr hx hb hts IX1 hown hK hw.1 hp0nw rfl 0 (by decide) L116 rfl dX11_count_140 ?_
    refine hp_callpi (va_runV (As := []) (rest := []) ⟨hx, hb, hml, hown, hts⟩ (sX8_meetingTwos l D T ap0nwtw ip0nwtw) (cwV 0 hts gX11_count_X8_meetingTwos rfl rfl rfl (by decide +kernel) ⟨Nat.le_of_ble_eq_true rfl, Nat.le_of_ble_eq_true rfl⟩) (hp_preV hG hw hp0nwtw rfl trivial) rfl rfl hl.1 rfl (lv_room (Nat.le_of_ble_eq_true rfl)) dX11_count_143 ⟨Nat.zero_le _, Nat.zero_le _⟩) (fun x143 bx143 => ?_)
    exact W.iret (v := x143) hx hb hr (fun t ht hW => ⟨some (.int x143), rfl, ⟨x143, rfl, trivial⟩, ht⟩) (fun q h => by cases h) dX11_count_146
  · refine lv_tableIn (off := 146) (tgt := 147) hx hb dX11_count_1 (by omega) (by omega) (by rw [s1]; rfl) (by decide) ?_
    have r1k : iv xp1 8 8 := ⟨by omega, by omega⟩
    refine lv_aload_n hx hb dX11_count_147 rfl (lv_at hl 0 rfl) ?_
    refine hp_getr hx hb hts IX11 hown hK hw.1 hp0 rfl 5 (by decide) L45 rfl dX11_count_148 ?_
    refine hp_geti hx hb hts IX1 hown hK hw.1 hp0nw rfl 3 (by decide) L250 rfl dX11_count_151 (fun x151 bx151 fx151 => ?_)
    exact W.iret (v := x151) hx hb hr (fun t ht hW => ⟨some (.int x151), rfl, ⟨x151, rfl, trivial⟩, ht⟩) (fun q h => by cases h) dX11_count_154
  · refine lv_tableIn (off := 154) (tgt := 155) hx hb dX11_count_1 (by omega) (by omega) (by rw [s1]; rfl) (by decide) ?_
    have r1k : iv xp1 9 9 := ⟨by omega, by omega⟩
    refine lv_aload_n hx hb dX11_count_155 rfl (lv_at hl 0 rfl) ?_
    refine hp_getr hx hb hts IX11 hown hK hw.1 hp0 rfl 5 (by decide) L45 rfl dX11_count_156 ?_
    refine hp_callpi (va_runV (As := []) (rest := []) ⟨hx, hb, hml, hown, hts⟩ (sX1_palmsTold l D T ap0nw pxp0 ip0nw) (cwV 0 hts gX11_count_X1_palmsTold rfl rfl rfl (by decide +kernel) ⟨Nat.le_of_ble_eq_true rfl, Nat.le_of_ble_eq_true rfl⟩) (hp_preV hG hw hp0nw rfl trivial) rfl rfl hl.1 rfl (lv_room (Nat.le_of_ble_eq_true rfl)) dX11_count_159 ⟨Nat.zero_le _, Nat.zero_le _⟩) (fun x159 bx159 => ?_)
    exact W.iret (v := x159) hx hb hr (fun t ht hW => ⟨some (.int x159), rfl, ⟨x159, rfl, trivial⟩, ht⟩) (fun q h => by cases h) dX11_count_162
  · refine lv_tableIn (off := 162) (tgt := 163) hx hb dX11_count_1 (by omega) (by omega) (by rw [s1]; rfl) (by decide) ?_
    have r1k : iv xp1 10 10 := ⟨by omega, by omega⟩
    refine lv_aload_n hx hb dX11_count_163 rfl (lv_at hl 0 rfl) ?_
    refine hp_getr hx hb hts IX11 hown hK hw.1 hp0 rfl 5 (by decide) L45 rfl dX11_count_164 ?_
    refine hp_geti hx hb hts IX1 hown hK hw.1 hp0nw rfl 8 (by decide) L247 rfl dX11_count_167 (fun x167 bx167 fx167 => ?_)
    exact W.iret (v := x167) hx hb hr (fun t ht hW => ⟨some (.int x167), rfl, ⟨x167, rfl, trivial⟩, ht⟩) (fun q h => by cases h) dX11_count_170
  · refine lv_tableIn (off := 170) (tgt := 171) hx hb dX11_count_1 (by omega) (by omega) (by rw [s1]; rfl) (by decide) ?_
    have r1k : iv xp1 11 11 := ⟨by omega, by omega⟩
    refine lv_aload_n hx hb dX11_count_171 rfl (lv_at hl 0 rfl) ?_
    refine hp_getr hx hb hts IX11 hown hK hw.1 hp0 rfl 5 (by decide) L45 rfl dX11_count_172 ?_
    refine hp_get hx hb hts IX1 hown hK hw.1 hp0nw rfl 2 (by decide) L329 rfl dX11_count_175 (fun v175 h175 fx175 => ?_)
    obtain ⟨x175, rfl⟩ := hpx v175 h175
    exact W.iret (v := x175) hx hb hr (fun t ht hW => ⟨some (.int x175), rfl, ⟨x175, rfl, trivial⟩, ht⟩) (fun q h => by cases h) dX11_count_178
  · refine lv_tableIn (off := 178) (tgt := 179) hx hb dX11_count_1 (by omega) (by omega) (by rw [s1]; rfl) (by decide) ?_
    have r1k : iv xp1 12 12 := ⟨by omega, by omega⟩
    refine lv_aload_n hx hb dX11_count_179 rfl (lv_at hl 0 rfl) ?_
    refine hp_getr hx hb hts IX11 hown hK hw.1 hp0 rfl 0 (by decide) L12 rfl dX11_count_180 ?_
    refine hp_geti hx hb hts IX7 hown hK hw.1 hp0tp rfl 1 (by decide) L95 rfl dX11_count_183 (fun x183 bx183 fx183 => ?_)
    exact W.iret (v := x183) hx hb hr (fun t ht hW => ⟨some (.int x183), rfl, ⟨x183, rfl, trivial⟩, ht⟩) (fun q h => by cases h) dX11_count_186
