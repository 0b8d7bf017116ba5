/-! IMAGE of the class -/
theorem imU_u {G : Nat → Option (Nat × Int32)} {k : Nat} {q r : Nat × Int32} : imU (imU G k q) k r = imU G k r := by
  funext j
  by_cases e : j = k
  · rw [e, imU_s, imU_s]
  · rw [imU_n e, imU_n e, imU_n e]
def imP (k xi : Int32) (Ru : Nat → Prop) (a tp tr rr rl nw im tl sk iq pa sn be : Nat) (G : Nat → Option (Nat × Int32)) : Option Value → hp_T → State → State → Prop := fun v T1 _ _ => ∃ r : Int32, v = some (.int r) ∧ ∃ G1 : Nat → Option (Nat × Int32), pcS T1 Ru a tp tr rr rl nw im tl sk iq pa sn be (rV (.int xi)) G1 ∧ (((¬ k < 0 ∧ k < 4) ∧ ∃ b : Nat, G1 = imU G k.toNatClampNeg (b, xi)) ∨ (¬ (¬ k < 0 ∧ k < 4) ∧ G1 = G))
abbrev WX11_image (p : Program) (l : Launch) (e : Env) (s : State) (m : MethodId) (below : List Frame) (meth : Method) (c : Code) (D : hp_D) (A : Nat → Prop) (a : Nat) (k : Int32) (post : Option Value → hp_T → State → State → Prop) (H : Heap) (locs : List Loc) (cells slots : Nat) (g : JFrame) : Prop := W p l e (headSpec wsX11_image ({ frames := 4, cells := 13, slots := 346, locals := 140 })).room s m ([.ref a, .int k] : List Value).toArray below meth c H locs cells slots (MQ below (lw_q D A post) ([.ref a, .int k] : List Value).toArray s 13 346 A) g
set_option maxHeartbeats 4000000 in
set_option maxRecDepth 100000 in
theorem lX11_image (l : Launch) (D : hp_D) (T : hp_T) (A : Nat → Prop) (k xi : Int32) {Ru : Nat → Prop} {a tp tr rr rl nw im tl sk iq pa sn be : Nat} {G : Nat → Option (Nat × Int32)} (hS : pcS T Ru a tp tr rr rl nw im tl sk iq pa sn be (rV (.int xi)) G) : Met l yX11_image wsX11_image ({ frames := 4, cells := 13, slots := 346, locals := 140 }) (lx_Pc D T A [.ref a, .int k] (fun _ => True)) (lw_q D A (imP k xi Ru a tp tr rr rl nw im tl sk iq pa sn be G)) 13 346 A := by
  refine Met.ofW (cc := cX11_image) (maxL := 2) (ret := (some .int)) (by decide) rfl ?_
  intro p e s m args below meth c s₁ B hml hv
  obtain ⟨rfl, hok, hG, hTA, hA, -⟩ := hv
  have hx := B.exec
  have hb := B.bytes
  have hr := B.returns
  have hts := atoms_spec (ws := wsX11_image) B.pre
  have hown : s.vm.findClass RX11 = some m.cls := findClass_of_methodNamed B.named
  have hlocks := B.notSynchronized
  have hK := hG.1.1
  have hw : mk_w D T A s s.heap [] := ⟨hok, va_S.rf⟩
  have IX1 : ∀ w ∈ wsX10, w ∈ wsX11_image := by decide +kernel
  have IX8 : ∀ w ∈ wsX80, w ∈ wsX11_image := by decide +kernel
  have IX11 : ∀ w ∈ wsX110, w ∈ wsX11_image := by decide +kernel
  have L45 := hts (.fieldLink RX11 45 "PalmCensus" "now" "LPalmCensus$Memory;") (by decide +kernel)
  have L49 := hts (.fieldLink RX11 49 "PalmCensus" "images" "[LPalmCensus$Memory;") (by decide +kernel)
  have L116 := hts (.fieldLink RX11 116 "PalmCensus$Memory" "town" "LPalmCensus$Town;") (by decide +kernel)
  have L241 := hts (.fieldLink RX11 241 "PalmCensus$Town" "day" "I") (by decide +kernel)
  have CL42 := hts (.classLink RX11 42 RX1) (by decide +kernel)
  have ISX1 := hts (.instantiable RX1 13) (by decide +kernel)
  have INX1 := hts (.initialized RX1) (by decide +kernel)
  have LK44 := hts (.methodLink RX11 44 yX1_init) (by decide +kernel)
  have IMX1_init := hts (.instanceMethod yX1_init) (by decide +kernel)
  have hl := lv_entry ([.ref a, .int k]) (n := 2) (Nat.le_of_ble_eq_true rfl)
  rw [lg_entry_eq]
  generalize (lg_sl ([.ref a, .int k]) ++ List.replicate (2 - (lg_sl ([.ref a, .int k])).length) Slot.unset).toArray = ls at hl ⊢
  have hl : lv_has ls 2 [(0, .ref a), (1, .int k)] := hl
  show WX11_image p l e s m below meth c D A a k (imP k xi Ru a tp tr rr rl nw im tl sk iq pa sn be G) s.heap [] 0 0 (F0 m 0 ls [])
  refine lv_iload_n hx hb dX11_image_0 rfl (lv_at hl 1 rfl) ?_
  refine lv_if_lt (tgt := 9) hx hb dX11_image_1 (by decide) (fun c1 => ?_) (fun c1 => ?_)
  · refine lv_iconst (v := (-1)) hx hb dX11_image_9 (by decide) ?_
    refine W.widen (k := 13) (n := 346) (by omega) (by omega) ?_
    exact W.iret (v := (-1)) hx hb hr (fun t ht hW => ⟨some (.int (-1)), T, rfl, ⟨((-1) : Int32), rfl, G, hS, Or.inr ⟨fun z => z.1 c1, rfl⟩⟩, by rw [ht]; exact hw.1, hTA, hw.2.F ht⟩) hw.2.2.2 dX11_image_10
  refine lv_iload_n hx hb dX11_image_4 rfl (lv_at hl 1 rfl) ?_
  refine lv_iconst (v := 4) hx hb dX11_image_5 (by decide) ?_
  refine lv_icmp_lt (tgt := 11) hx hb dX11_image_6 (by decide) (fun c6 => ?_) (fun c6 => ?_)
  rotate_left
  · refine lv_iconst (v := (-1)) hx hb dX11_image_9 (by decide) ?_
    refine W.widen (k := 13) (n := 346) (by omega) (by omega) ?_
    exact W.iret (v := (-1)) hx hb hr (fun t ht hW => ⟨some (.int (-1)), T, rfl, ⟨((-1) : Int32), rfl, G, hS, Or.inr ⟨fun z => c6 z.2, rfl⟩⟩, by rw [ht]; exact hw.1, hTA, hw.2.F ht⟩) hw.2.2.2 dX11_image_10
  have hkr : ¬ k < 0 ∧ k < 4 := ⟨c1, c6⟩
  have r1 : iv k 0 3 := iv_in3 c1 c6
  have hin : k.toNatClampNeg < 4 := iv_ltn r1 (by decide)
  have J33 : ∀ (T1 : hp_T) (G1 : Nat → Option (Nat × Int32)) (b : Nat) (x0 : Int32) (H : Heap) (locs : List Loc) (ls : Array Slot), pcS T1 Ru a tp tr rr rl nw im tl sk iq pa sn be (rV (.int xi)) G1 → G1 k.toNatClampNeg = some (b, x0) → imU G1 k.toNatClampNeg (b, xi) = imU G k.toNatClampNeg (b, xi) → mk_w D T1 A s H locs → (∀ q, hp_F T1 q → A q) → lv_has ls 2 [(0, .ref a), (1, .int k)] → WX11_image p l e s m below meth c D A a k (imP k xi Ru a tp tr rr rl nw im tl sk iq pa sn be G) H locs 13 346 (F0 m 33 ls []) := by
    intro T1 G1 b x0 H locs ls S1 hb1 hU hw hTA1 hl
    have hA1 : ∀ q, H.size ≤ q → A q := fun q hq => hA q (Nat.le_trans hw.2.1 hq)
    obtain ⟨h0, jtp, jtr, jrr, jrl, jnw, jim, jtl, jsk, jiq, jpa, jsn, jbe, jRu, jG, jI⟩ := id S1
    obtain ⟨hbm, hbn⟩ := jG _ b x0 hin hb1
    obtain ⟨Ps, k1, k2, k3⟩ := S1.img hin hb1
    refine lv_aload_n hx hb dX11_image_33 rfl (lv_at hl 0 rfl) ?_
    refine hp_getr hx hb hts IX11 hown hK hw.1 h0 rfl 6 (by decide) L49 rfl dX11_image_34 ?_
    refine lv_iload_n hx hb dX11_image_37 rfl (lv_at hl 1 rfl) ?_
    refine hp_aald hx hb hK hw.1 jim rfl rfl (vp_iv r1 (by decide)) dX11_image_38 (fun v38 h38 => ?_)
    have e38 : v38 = .ref b := by
      have h9 : v38 = imV (G1 k.toNatClampNeg) := h38
      rw [h9, hb1]
      rfl
    rw [e38]
    refine lv_aload_n hx hb dX11_image_39 rfl (lv_at hl 0 rfl) ?_
    refine hp_getr hx hb hts IX11 hown hK hw.1 h0 rfl 5 (by decide) L45 rfl dX11_image_40 ?_
    refine mk_callq (va_runV (As := [.ref nw]) (rest := []) ⟨hx, hb, hml, hown, hts⟩ (lX1_copyFrom l D T1 A hbm jnw (fun z => hbn z.symm) k1 k2 hTA1) (cwV 1 hts gX11_image_X1_copyFrom rfl rfl rfl (by decide +kernel) ⟨Nat.le_of_ble_eq_true rfl, Nat.le_of_ble_eq_true rfl⟩) (lw_preW hG hw hTA1 hA1 k1 rfl trivial) rfl rfl hl.1 rfl (lv_room (Nat.le_of_ble_eq_true rfl)) dX11_image_43 ⟨Nat.le_of_ble_eq_true rfl, Nat.le_of_ble_eq_true rfl⟩) hw (fun v T2 st t H2 locs2 eh eg hp hw hTA2 hz hq => ?_)
    obtain ⟨ev, eT⟩ := hp
    rw [ev]
    rw [eT] at hw hTA2
    have S2 := k3 xi
    obtain ⟨g0, jtp2, jtr2, jrr2, jrl2, jnw2, jR2⟩ := id S2
    obtain ⟨ntw, ntg, nth, nts, npm, nak, nao, nah, naw, hn0, jtw, jN2⟩ := jnw2
    obtain ⟨nkin, npl, ncr, ht0, jt2⟩ := jtw
    refine lv_aload_n hx hb dX11_image_46 rfl (lv_at hl 0 rfl) ?_
    refine hp_getr hx hb hts IX11 hown hK hw.1 g0 rfl 5 (by decide) L45 rfl dX11_image_47 ?_
    refine hp_getr hx hb hts IX1 hown hK hw.1 hn0 rfl 0 (by decide) L116 rfl dX11_image_50 ?_
    refine hp_getA hx hb hts IX8 hown hK hw.1 ht0 rfl 3 (by decide) L241 rfl dX11_image_53 (fun x53 fx53 => ?_)
    exact W.iret (v := x53) hx hb hr (fun t ht hW => ⟨some (.int x53), _, rfl, ⟨x53, rfl, _, S2, Or.inl ⟨hkr, b, hU⟩⟩, by rw [ht]; exact hw.1, hTA2, hw.2.F ht⟩) hw.2.2.2 dX11_image_56
  obtain ⟨h0, jtp, jtr, jrr, jrl, jnw, jim, jR⟩ := id hS
  refine lv_aload_n hx hb dX11_image_11 rfl (lv_at hl 0 rfl) ?_
  refine hp_getr hx hb hts IX11 hown hK hw.1 h0 rfl 6 (by decide) L49 rfl dX11_image_12 ?_
  refine lv_iload_n hx hb dX11_image_15 rfl (lv_at hl 1 rfl) ?_
  refine hp_aald hx hb hK hw.1 jim rfl rfl (vp_iv r1 (by decide)) dX11_image_16 (fun v16 h16 => ?_)
  have e16 : v16 = imV (G k.toNatClampNeg) := h16
  cases hg : G k.toNatClampNeg with
  | some q =>
    obtain ⟨b, x0⟩ := q
    rw [hg] at e16
    rw [e16]
    refine lv_ifnonnull (tgt := 33) hx hb dX11_image_17 (by decide) ?_
    refine W.widen (k := 13) (n := 346) (by omega) (by omega) ?_
    exact J33 T G b x0 _ _ _ hS hg rfl hw hTA hl
  | none =>
    rw [hg] at e16
    rw [e16]
    refine lv_ifnonnullN hx hb dX11_image_17 ?_
    refine lv_aload_n hx hb dX11_image_20 rfl (lv_at hl 0 rfl) ?_
    refine hp_getr hx hb hts IX11 hown hK hw.1 h0 rfl 6 (by decide) L49 rfl dX11_image_21 ?_
    refine lv_iload_n hx hb dX11_image_24 rfl (lv_at hl 1 rfl) ?_
    refine mk_new (ci := 1) (C := RX1) (TT := TX1) (N := 13) hx hb hts IX1 tyX1 tyX1_ok hown CL42 ISX1 INX1 hK hw rfl (Nat.le_of_ble_eq_true rfl) (Nat.le_of_ble_eq_true rfl) dX11_image_25 (fun q25 H25 hw oq25 eq25 k25 nq25 => ?_)
    refine lv_dup hx hb dX11_image_28 rfl ?_
    refine mk_call (va_runI (As := []) (rest := [.ref q25, .int k, .ref im]) ⟨hx, hb, hml, hown, hts⟩ (mX1_init l D T q25 H25.size nq25) (cwI 0 hts gX11_image_X1_init rfl rfl rfl INX1 LK44 IMX1_init rfl (by decide +kernel) ⟨Nat.le_of_ble_eq_true rfl, Nat.le_of_ble_eq_true rfl⟩) (mk_pre hG.1 hw ⟨rfl, oq25⟩) rfl rfl hl.1 rfl (lv_room (Nat.le_of_ble_eq_true rfl)) dX11_image_29 ⟨Nat.le_of_ble_eq_true rfl, Nat.le_of_ble_eq_true rfl⟩) hw hA (by rw [eq25]; exact Nat.le_refl _) (fun T29 H29 locs29 iq25 hw x29 k29 => ?_)
    obtain ⟨p1, p2⟩ := hS.new x29.1 hin nq25 iq25
    obtain ⟨Ps, s1, s2, s3⟩ := iq25.self
    have hAa : A im := hTA im ⟨_, jim⟩
    refine mk_aast (P' := fun j => rV (imV (imU G k.toNatClampNeg (q25, 0) j))) hx hb hK hw p1 hAa rfl s1 rfl (vp_iv r1 (by decide)) (show _ = imV (imU G k.toNatClampNeg (q25, 0) k.toNatClampNeg) by rw [imU_s]; rfl) (fun j x _ hj h => show x = imV (imU G k.toNatClampNeg (q25, 0) j) by rw [imU_n hj]; exact h) dX11_image_32 (fun H32 locs32 hw o32 z32 => ?_)
    have hTA3 : ∀ q, hp_F (hp_up T29 im (.inl (4, 4, fun j => rV (imV (imU G k.toNatClampNeg (q25, 0) j))))) q → A q := fun q hq => by
      obtain ⟨ct, hct⟩ := hp_F_upk p1 hq
      rcases x29.2 q ct hct with y | y | y
      · exact hTA q ⟨_, y⟩
      · exact hA q (by rw [y, eq25]; exact Nat.le_refl _)
      · exact hA q (Nat.le_trans (by have := oq25.lt; rw [eq25] at this; omega) y)
    exact J33 _ _ q25 0 _ _ _ p2 imU_s imU_u hw hTA3 hl
