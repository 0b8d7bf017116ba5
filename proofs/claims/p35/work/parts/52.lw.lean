/-! BACK, SEED, IMAGE by the bundle -/
def bkX (G : Nat → Option (Nat × Int32)) (k xi : Int32) : Int32 := if ¬ k < 0 ∧ k < 4 then (match G k.toNatClampNeg with
  | none => xi
  | some q => q.2) else xi
theorem bkX_out {G : Nat → Option (Nat × Int32)} {k xi : Int32} (h : ¬ (¬ k < 0 ∧ k < 4)) : bkX G k xi = xi := by unfold bkX; rw [if_neg h]
theorem bkX_none {G : Nat → Option (Nat × Int32)} {k xi : Int32} (h : G k.toNatClampNeg = none) : bkX G k xi = xi := by unfold bkX; rw [h]; split <;> rfl
theorem bkX_some {G : Nat → Option (Nat × Int32)} {k xi x : Int32} {b : Nat} (h0 : ¬ k < 0 ∧ k < 4) (h : G k.toNatClampNeg = some (b, x)) : bkX G k xi = x := by unfold bkX; rw [if_pos h0, h]
set_option maxHeartbeats 4000000 in
set_option maxRecDepth 100000 in
theorem sX11_back (l : Launch) (D : hp_D) (T : hp_T) (ap0 : Nat) (xp1 xi : Int32) (Ru : Nat → Prop) (hRu : ∀ b, Ru b → isRule T b) (ap0tp ap0tr ap0rr ap0rl ap0nw ap0im ap0tl ap0sk ap0iq ap0pa ap0sn ap0be : Nat) (hp0 : T ap0 = some (.inr (11, [(rR ap0tp), (rR ap0tr), (rR ap0rr), (rR ap0rl), (rI 0 6), (rR ap0nw), (rR ap0im), (rR ap0tl), (rR ap0sk), (rR ap0iq), (rR ap0pa), (rR ap0sn), (rR ap0be)]))) (ip0tp : isTape T ap0tp) (ip0tr : isTownReader T ap0tr) (ip0rr : isRuleReader T ap0rr) (hp0rl : T ap0rl = some (.inl (5, 6, fun _ => rN Ru))) (ip0nw : isMemory T ap0nw rA) (G : Nat → Option (Nat × Int32)) (hp0im : T ap0im = some (.inl (4, 4, fun j => rV (imV (G j))))) (hGm : ∀ j b x, j < 4 → G j = some (b, x) → isMemory T b (rV (.int x))) (ip0tl : isTown T ap0tl) (ip0sk : isShaker T Ru ap0sk) (ip0iq : isWorlds T ap0iq) (ip0pa : isParity T ap0pa) (ip0sn : isShuns T ap0sn) (ip0be : isBest T ap0be) : Met l yX11_back wsX11_back ({ frames := 4, cells := 0, slots := 0, locals := 100 }) (hp_Pc D T [.ref ap0, .int xp1] (fun H => hp_f D H ap0nw 1 2 (.int xi))) (hq_e D T (fun v _ t => ∃ r : Int32, v = some (.int r) ∧ hp_f D t.heap ap0nw 1 2 (.int (bkX G xp1 xi)))) 0 0 (hp_F T) := by
  obtain ⟨ap0tpbt, hp0tp, hp0tpbt⟩ := id ip0tp
  obtain ⟨ap0trtp, ap0trtw, hp0tr, ip0trtp, ip0trtw⟩ := id ip0tr
  obtain ⟨ap0trtpbt, hp0trtp, hp0trtpbt⟩ := id ip0trtp
  obtain ⟨ap0trtwkin, ap0trtwpl, ap0trtwcr, hp0trtw, hp0trtwkin, hp0trtwpl, hp0trtwcr⟩ := id ip0trtw
  obtain ⟨ap0rrtp, ap0rrstp, hp0rr, ip0rrtp, hp0rrstp⟩ := id ip0rr
  obtain ⟨ap0rrtpbt, hp0rrtp, hp0rrtpbt⟩ := id ip0rrtp
  obtain ⟨ap0nwtw, ap0nwtg, ap0nwth, ap0nwts, ap0nwpm, ap0nwak, ap0nwao, ap0nwah, ap0nwaw, hp0nw, ip0nwtw, hp0nwtg, hp0nwth, hp0nwts, hp0nwpm, hp0nwak, hp0nwao, hp0nwah, hp0nwaw⟩ := id ip0nw
  obtain ⟨ap0nwtwkin, ap0nwtwpl, ap0nwtwcr, hp0nwtw, hp0nwtwkin, hp0nwtwpl, hp0nwtwcr⟩ := id ip0nwtw
  obtain ⟨ap0tlkin, ap0tlpl, ap0tlcr, hp0tl, hp0tlkin, hp0tlpl, hp0tlcr⟩ := id ip0tl
  obtain ⟨ap0skwd, ap0sksk, ap0skth, hp0sk, hp0skwd, hp0sksk, hp0skth⟩ := id ip0sk
  obtain ⟨ap0iqfi, ap0iqwo, ap0iqsu, ap0iqsh, ap0iqme, ap0iqs1, ap0iqs2, hp0iq, hp0iqfi, hp0iqwo, hp0iqsu, hp0iqsh, hp0iqme, hp0iqs1, hp0iqs2⟩ := id ip0iq
  obtain ⟨ap0pabo, hp0pa, hp0pabo⟩ := id ip0pa
  obtain ⟨ap0snle, ap0sngr, ap0sndu, ap0snit, ap0snop, hp0sn, hp0snle, hp0sngr, hp0sndu, hp0snit, hp0snop⟩ := id ip0sn
  have hp0be : T ap0be = some (.inr (0, [(rI 0 1), rA, rA, rA])) := ip0be
  refine Met.ofW (cc := cX11_back) (maxL := 2) (ret := (some .int)) (by decide) rfl ?_
  intro p e s m args below meth c s₁ B hml hv
  obtain ⟨rfl, hok, hG, hB⟩ := hv
  have hx := B.exec
  have hb := B.bytes
  have hr := B.returns
  have hts := atoms_spec (ws := wsX11_back) B.pre
  have hown : s.vm.findClass RX11 = some m.cls := findClass_of_methodNamed B.named
  have hlocks := B.notSynchronized
  have hK := hG.1
  have hw : hp_w D T s s.heap [] := hp_w.rf hok
  have IX1 : ∀ w ∈ wsX10, w ∈ wsX11_back := by decide +kernel
  have IX8 : ∀ w ∈ wsX80, w ∈ wsX11_back := by decide +kernel
  have IX11 : ∀ w ∈ wsX110, w ∈ wsX11_back := by decide +kernel
  have L45 := hts (.fieldLink RX11 45 "PalmCensus" "now" "LPalmCensus$Memory;") (by decide +kernel)
  have L49 := hts (.fieldLink RX11 49 "PalmCensus" "images" "[LPalmCensus$Memory;") (by decide +kernel)
  have L116 := hts (.fieldLink RX11 116 "PalmCensus$Memory" "town" "LPalmCensus$Town;") (by decide +kernel)
  have L241 := hts (.fieldLink RX11 241 "PalmCensus$Town" "day" "I") (by decide +kernel)
  have hl := lv_entry ([.ref ap0, .int xp1]) (n := 2) (Nat.le_of_ble_eq_true rfl)
  rw [lg_entry_eq]
  generalize (lg_sl ([.ref ap0, .int xp1]) ++ List.replicate (2 - (lg_sl ([.ref ap0, .int xp1])).length) Slot.unset).toArray = ls at hl ⊢
  have hl : lv_has ls 2 [(0, .ref ap0), (1, .int xp1)] := hl
  refine lv_iload_n hx hb dX11_back_0 rfl (lv_at hl 1 rfl) ?_
  refine lv_if_lt (tgt := 18) hx hb dX11_back_1 (by decide) (fun c1 => ?_) (fun c1 => ?_)
  · have z9 : bkX G xp1 xi = xi := bkX_out (fun z => z.1 c1)
    refine lv_iconst (v := (-1)) hx hb dX11_back_18 (by decide) ?_
    exact W.iret (v := (-1)) hx hb hr (fun t ht hW => ⟨some (.int (-1)), rfl, ⟨((-1) : Int32), rfl, by rw [ht, z9]; exact hB⟩, by rw [ht]; exact hw.1, hw.2.F ht⟩) hw.2.2.2 dX11_back_19
  refine lv_iload_n hx hb dX11_back_4 rfl (lv_at hl 1 rfl) ?_
  refine lv_iconst (v := 4) hx hb dX11_back_5 (by decide) ?_
  refine lv_icmp_ge (tgt := 18) hx hb dX11_back_6 (by decide) (fun c6 => ?_) (fun c6 => ?_)
  · have z9 : bkX G xp1 xi = xi := bkX_out (fun z => absurd z.2 (Int32.not_lt.mpr c6))
    refine lv_iconst (v := (-1)) hx hb dX11_back_18 (by decide) ?_
    exact W.iret (v := (-1)) hx hb hr (fun t ht hW => ⟨some (.int (-1)), rfl, ⟨((-1) : Int32), rfl, by rw [ht, z9]; exact hB⟩, by rw [ht]; exact hw.1, hw.2.F ht⟩) hw.2.2.2 dX11_back_19
  have c6' : xp1 < 4 := iv_nle c6
  have r0 : iv xp1 0 2147483647 := (iv_le_r (iv_nlt c1) (show iv 0 0 0 from ⟨by decide, by decide⟩) (iv_any xp1)).mono (by decide) (by decide)
  have r1 : iv xp1 0 3 := (iv_lt_l c6' r0 (show iv 4 4 4 from ⟨by decide, by decide⟩)).mono (by decide) (by decide)
  have hin : xp1.toNatClampNeg < 4 := Nat.not_le.mp fun q => (vp_iv (n := 4) r1 (by decide)) (Or.inr q)
  refine lv_aload_n hx hb dX11_back_9 rfl (lv_at hl 0 rfl) ?_
  refine hp_getr hx hb hts IX11 hown hK hw.1 hp0 rfl 6 (by decide) L49 rfl dX11_back_10 ?_
  refine lv_iload_n hx hb dX11_back_13 rfl (lv_at hl 1 rfl) ?_
  refine hp_aald hx hb hK hw.1 hp0im rfl rfl (vp_iv r1 (by decide)) dX11_back_14 (fun v14 h14 => ?_)
  cases hg : G xp1.toNatClampNeg with
  | none =>
    have z9 : bkX G xp1 xi = xi := bkX_none hg
    have e14 : v14 = .null := by
      have h9 : v14 = imV (G xp1.toNatClampNeg) := h14
      rw [h9, hg]
      rfl
    subst e14
    refine lv_ifnonnullN hx hb dX11_back_15 ?_
    refine lv_iconst (v := (-1)) hx hb dX11_back_18 (by decide) ?_
    exact W.iret (v := (-1)) hx hb hr (fun t ht hW => ⟨some (.int (-1)), rfl, ⟨((-1) : Int32), rfl, by rw [ht, z9]; exact hB⟩, by rw [ht]; exact hw.1, hw.2.F ht⟩) hw.2.2.2 dX11_back_19
  | some q =>
    obtain ⟨b, x⟩ := q
    have z9 : bkX G xp1 xi = x := bkX_some ⟨c1, c6'⟩ hg
    have e14 : ∀ v : Value, (rV (imV (G xp1.toNatClampNeg))) v → v = .ref b := fun v hv => by
      have h9 : v = imV (G xp1.toNatClampNeg) := hv
      rw [h9, hg]
      rfl
    have e15 := e14 v14 h14
    subst e15
    refine lv_ifnonnull (tgt := 20) hx hb dX11_back_15 (by decide) ?_
    refine lv_aload_n hx hb dX11_back_20 rfl (lv_at hl 0 rfl) ?_
    refine hp_getr hx hb hts IX11 hown hK hw.1 hp0 rfl 5 (by decide) L45 rfl dX11_back_21 ?_
    refine lv_aload_n hx hb dX11_back_24 rfl (lv_at hl 0 rfl) ?_
    refine hp_getr hx hb hts IX11 hown hK hw.1 hp0 rfl 6 (by decide) L49 rfl dX11_back_25 ?_
    refine lv_iload_n hx hb dX11_back_28 rfl (lv_at hl 1 rfl) ?_
    refine hp_aald hx hb hK hw.1 hp0im rfl rfl (vp_iv r1 (by decide)) dX11_back_29 (fun v29 h29 => ?_)
    have e29 := e14 v29 h29
    subst e29
    refine hp_callev (va_runV (As := [.ref b]) (rest := []) ⟨hx, hb, hml, hown, hts⟩ (sX1_copyFrom l D T ap0nw b ip0nw x (hGm _ b x hin hg)) (cwV 1 hts gX11_back_X1_copyFrom rfl rfl rfl (by decide +kernel) ⟨Nat.le_of_ble_eq_true rfl, Nat.le_of_ble_eq_true rfl⟩) (hp_preV hG hw hp0nw rfl trivial) rfl rfl hl.1 rfl (lv_room (Nat.le_of_ble_eq_true rfl)) dX11_back_30 ⟨Nat.zero_le _, Nat.zero_le _⟩) hw (fun st30 t30 H30 locs30 eh30 eg30 bx30 hw => ?_)
    refine lv_aload_n hx hb dX11_back_33 rfl (lv_at hl 0 rfl) ?_
    refine hp_getr hx hb hts IX11 hown hK hw.1 hp0 rfl 5 (by decide) L45 rfl dX11_back_34 ?_
    refine hp_getr hx hb hts IX1 hown hK hw.1 hp0nw rfl 0 (by decide) L116 rfl dX11_back_37 ?_
    refine hp_getA hx hb hts IX8 hown hK hw.1 hp0nwtw rfl 3 (by decide) L241 rfl dX11_back_40 (fun x40 fx40 => ?_)
    exact W.iret (v := x40) hx hb hr (fun t ht hW => ⟨some (.int x40), rfl, ⟨x40, rfl, by rw [ht, z9, ← eg30]; exact bx30⟩, by rw [ht]; exact hw.1, hw.2.F ht⟩) hw.2.2.2 dX11_back_43
theorem lX1_copyFrom (l : Launch) (D : hp_D) (T : hp_T) (A : Nat → Prop) {b b2 : Nat} {x y : Int32} {Ps : List (Value → Prop)} (hb : isMemory T b (rV (.int x))) (hb2 : isMemory T b2 (rV (.int y))) (hne : b2 ≠ b) (hT : T b = some (.inr (1, Ps))) (h2 : Ps[2]? = some (rV (.int x))) (hTA : ∀ q, hp_F T q → A q) : Met l yX1_copyFrom wsX1_copyFrom ({ frames := 2, cells := 0, slots := 0, locals := 60 }) (lx_Pc D T A [.ref b, .ref b2] (fun _ => True)) (lw_q D A (fun v T1 _ _ => v = none ∧ T1 = hp_up T b (.inr (1, Ps.set 2 (rV (.int y)))))) 0 0 A := by
  obtain ⟨Ps', k1, k2, k3⟩ := hb.self
  cases hT.symm.trans k1
  have hF : ∀ q, hp_F (hp_up T b (.inr (1, Ps.set 2 rA))) q → A q := fun q hq => by
    rcases hp_F_up hq with h | h
    · exact hTA q h
    · rw [h]
      exact hTA b ⟨_, hT⟩
  refine met_mono (sX1_copyFrom l D (hp_up T b (.inr (1, Ps.set 2 rA))) b b2 (k3 rA) y (isMemory.other hT hne hb2)) (fun av U h => ?_) (fun av U oc t h hq => ?_) hF
  · obtain ⟨h1, hok, hG, -, -, -⟩ := h
    exact ⟨h1, hp_setP hok hT (hp_getv hok hT h2) ⟨x, rfl⟩, hG.hp hF, trivial⟩
  · obtain ⟨v, ho, ⟨hv, hf⟩, hok, hz, hk⟩ := hq
    have h8 := hp_setP (P := rV (.int y)) hok (hp_up_s _ _ _) hf rfl
    rw [hp_upup, List.set_set] at h8
    refine ⟨v, _, ho, ⟨hv, rfl⟩, h8, fun q hq2 => ?_, hz, fun q h1 h3 => hk q h1 (fun z => h3 (hF q z))⟩
    rcases hp_F_up hq2 with h | h
    · exact hTA q h
    · rw [h]
      exact hTA b ⟨_, hT⟩
theorem lX11_seed (l : Launch) (D : hp_D) (T : hp_T) (A : Nat → Prop) (k xi : Int32) {Ru : Nat → Prop} {a tp tr rr rl nw im tl sk iq pa sn be : Nat} {G : Nat → Option (Nat × Int32)} (hS : pcS T Ru a tp tr rr rl nw im tl sk iq pa sn be (rV (.int xi)) G) (hTA : ∀ q, hp_F T q → A q) : Met l yX11_seed wsX11_seed ({ frames := 0, cells := 0, slots := 0, locals := 0 }) (lx_Pc D T A [.ref a, .int k] (fun _ => True)) (lw_q D A (fun v T1 _ _ => ∃ r : Int32, v = some (.int r) ∧ ((¬ 0 ≤ k ∧ r = -1 ∧ pcS T1 Ru a tp tr rr rl nw im tl sk iq pa sn be (rV (.int xi)) G) ∨ (0 ≤ k ∧ r = xi ∧ pcS T1 Ru a tp tr rr rl nw im tl sk iq pa sn be (rV (.int k)) G)))) 0 0 A := by
  obtain ⟨Ps, k1, k2, k3⟩ := hS.nw
  have hF : ∀ q, hp_F (hp_up T nw (.inr (1, Ps.set 2 rA))) q → A q := fun q hq => by
    rcases hp_F_up hq with h | h
    · exact hTA q h
    · rw [h]
      exact hTA nw ⟨_, k1⟩
  obtain ⟨h0, jtp, jtr, jrr, jrl, jnw, jim, jtl, jsk, jiq, jpa, jsn, jbe, jRu, jG, jI⟩ := k3 rA
  refine met_mono (sX11_seed l D (hp_up T nw (.inr (1, Ps.set 2 rA))) a k xi Ru jRu tp tr rr rl nw im tl sk iq pa sn be h0 jtp jtr jrr jrl jnw _ jim jtl jsk jiq jpa jsn jbe) (fun av U h => ?_) (fun av U oc t h hq => ?_) hF
  · obtain ⟨h1, hok, hG, -, -, -⟩ := h
    exact ⟨h1, hp_setP hok k1 (hp_getv hok k1 k2) ⟨xi, rfl⟩, hG.hp hF, hp_getv hok k1 k2⟩
  · obtain ⟨v, ho, hv, hok, hz, hk⟩ := hq
    have fin : ∀ y : Int32, hp_f D t.heap nw 1 2 (.int y) → hp_ok D (hp_up T nw (.inr (1, Ps.set 2 (rV (.int y))))) t.heap := fun y hf => by
      have h8 := hp_setP (P := rV (.int y)) hok (hp_up_s _ _ _) hf rfl
      rw [hp_upup, List.set_set] at h8
      exact h8
    have fA : ∀ (y : Int32) (q : Nat), hp_F (hp_up T nw (.inr (1, Ps.set 2 (rV (.int y))))) q → A q := fun y q hq2 => by
      rcases hp_F_up hq2 with h | h
      · exact hTA q h
      · rw [h]
        exact hTA nw ⟨_, k1⟩
    have fF : va_F A U t := ⟨hz, fun q h1 h3 => hk q h1 (fun z => h3 (hF q z))⟩
    obtain ⟨r, hr, hc⟩ := hv
    rcases hc with ⟨c1, c2, c3⟩ | ⟨c1, c2, c3⟩
    · exact ⟨v, _, ho, ⟨r, hr, Or.inl ⟨c1, c2, k3 _⟩⟩, fin _ c3, fA _, fF⟩
    · exact ⟨v, _, ho, ⟨r, hr, Or.inr ⟨c1, c2, k3 _⟩⟩, fin _ c3, fA _, fF⟩
theorem lX11_back (l : Launch) (D : hp_D) (T : hp_T) (A : Nat → Prop) (k xi : Int32) {Ru : Nat → Prop} {a tp tr rr rl nw im tl sk iq pa sn be : Nat} {G : Nat → Option (Nat × Int32)} (hS : pcS T Ru a tp tr rr rl nw im tl sk iq pa sn be (rV (.int xi)) G) (hTA : ∀ q, hp_F T q → A q) : Met l yX11_back wsX11_back ({ frames := 4, cells := 0, slots := 0, locals := 100 }) (lx_Pc D T A [.ref a, .int k] (fun _ => True)) (lw_q D A (fun v T1 _ _ => ∃ r : Int32, v = some (.int r) ∧ pcS T1 Ru a tp tr rr rl nw im tl sk iq pa sn be (rV (.int (bkX G k xi))) G)) 0 0 A := by
  obtain ⟨Ps, k1, k2, k3⟩ := hS.nw
  have hF : ∀ q, hp_F (hp_up T nw (.inr (1, Ps.set 2 rA))) q → A q := fun q hq => by
    rcases hp_F_up hq with h | h
    · exact hTA q h
    · rw [h]
      exact hTA nw ⟨_, k1⟩
  obtain ⟨h0, jtp, jtr, jrr, jrl, jnw, jim, jtl, jsk, jiq, jpa, jsn, jbe, jRu, jG, jI⟩ := k3 rA
  refine met_mono (sX11_back l D (hp_up T nw (.inr (1, Ps.set 2 rA))) a k xi Ru jRu tp tr rr rl nw im tl sk iq pa sn be h0 jtp jtr jrr jrl jnw G jim (fun j b x hj hb => (jG j b x hj hb).1) jtl jsk jiq jpa jsn jbe) (fun av U h => ?_) (fun av U oc t h hq => ?_) hF
  · obtain ⟨h1, hok, hG, -, -, -⟩ := h
    exact ⟨h1, hp_setP hok k1 (hp_getv hok k1 k2) ⟨xi, rfl⟩, hG.hp hF, hp_getv hok k1 k2⟩
  · obtain ⟨v, ho, hv, hok, hz, hk⟩ := hq
    have fin : ∀ y : Int32, hp_f D t.heap nw 1 2 (.int y) → hp_ok D (hp_up T nw (.inr (1, Ps.set 2 (rV (.int y))))) t.heap := fun y hf => by
      have h8 := hp_setP (P := rV (.int y)) hok (hp_up_s _ _ _) hf rfl
      rw [hp_upup, List.set_set] at h8
      exact h8
    have fA : ∀ (y : Int32) (q : Nat), hp_F (hp_up T nw (.inr (1, Ps.set 2 (rV (.int y))))) q → A q := fun y q hq2 => by
      rcases hp_F_up hq2 with h | h
      · exact hTA q h
      · rw [h]
        exact hTA nw ⟨_, k1⟩
    have fF : va_F A U t := ⟨hz, fun q h1 h3 => hk q h1 (fun z => h3 (hF q z))⟩
    obtain ⟨r, hr, hc⟩ := hv
    exact ⟨v, _, ho, ⟨r, hr, k3 _⟩, fin _ hc, fA _, fF⟩
