def hp_g0 (T T1 : hp_T) (sz : Nat) : Prop := hp_sub T T1 ∧ ∀ q ct, T1 q = some ct → T q = some ct ∨ sz ≤ q
theorem hp_g0.rf {T : hp_T} {sz : Nat} : hp_g0 T T sz := ⟨fun _ _ h => h, fun _ _ h => Or.inl h⟩
theorem hp_g0.up {T T1 : hp_T} {sz q : Nat} {ct : hp_C} (h : hp_g0 T T1 sz) (z : sz ≤ q) (n : T1 q = none) : hp_g0 T (hp_up T1 q ct) sz := ⟨h.1.trans (hp_sub_up n), fun x c hx => by
  by_cases e : x = q
  · exact Or.inr (by rw [e]; exact z)
  · rw [hp_up_n e] at hx
    exact h.2 x c hx⟩
theorem hp_g0.call {T T1 T2 : hp_T} {sz q h0 : Nat} (h : hp_g0 T T1 sz) (x : hp_gr T1 T2 q h0) (hsz : sz ≤ h0) (z : sz ≤ q) : hp_g0 T T2 sz := ⟨h.1.trans x.1, fun y c hy => by
  rcases x.2 y c hy with a | a | a
  · exact h.2 y c a
  · exact Or.inr (by rw [a]; exact z)
  · exact Or.inr (Nat.le_trans hsz a)⟩
theorem hp_g0.nn {T T1 : hp_T} {sz a : Nat} (h : hp_g0 T T1 sz) (h0 : T a = none) (ha : a < sz) : T1 a = none := by
  cases e : T1 a with
  | none => rfl
  | some ct =>
    rcases h.2 a ct e with g | g
    · rw [h0] at g
      cases g
    · exact absurd ha (Nat.not_lt.mpr g)
theorem hp_g0.end_ {T T1 : hp_T} {sz a : Nat} {ct : hp_C} (h : hp_g0 T T1 sz) (n : T1 a = none) : hp_gr T (hp_up T1 a ct) a sz := ⟨h.1.trans (hp_sub_up n), fun x c hx => by
  by_cases e : x = a
  · exact Or.inr (Or.inl e)
  · rw [hp_up_n e] at hx
    exact (h.2 x c hx).imp id Or.inr⟩
theorem mk_end {D : hp_D} {T : hp_T} {H : Heap} {a ci : Nat} {V : Nat → Value} {Ps : List (Value → Prop)} (hH : hp_ok D T H) (n : T a = none) (ho : hp_o D H a ci V) (hPs : ∀ (k : Nat) (P : Value → Prop), Ps[k]? = some P → P (V k)) : hp_ok D (hp_up T a (.inr (ci, Ps))) H := fun b t hbt => by
  by_cases e : b = a
  · subst e
    rw [hp_up_s] at hbt
    cases hbt
    obtain ⟨r, h1, h2⟩ := ho
    exact ⟨r, V, h1, h2, hPs⟩
  · rw [hp_up_n e] at hbt
    exact hH b t hbt
theorem isBest.mono {T T1 : hp_T} {a : Nat} (g : hp_sub T T1) (h : isBest T a) : isBest T1 a := g _ _ h
theorem isTown.mono {T T1 : hp_T} {a : Nat} (g : hp_sub T T1) (h : isTown T a) : isTown T1 a := by
  obtain ⟨kin, pl, cr, h0, jkin, jpl, jcr⟩ := h
  exact ⟨kin, pl, cr, g _ _ h0, g _ _ jkin, g _ _ jpl, g _ _ jcr⟩
theorem isTape.mono {T T1 : hp_T} {a : Nat} (g : hp_sub T T1) (h : isTape T a) : isTape T1 a := by
  obtain ⟨bt, h0, jbt⟩ := h
  exact ⟨bt, g _ _ h0, g _ _ jbt⟩
theorem isTownReader.mono {T T1 : hp_T} {a : Nat} (g : hp_sub T T1) (h : isTownReader T a) : isTownReader T1 a := by
  obtain ⟨tp, tw, h0, jtp, jtw⟩ := h
  exact ⟨tp, tw, g _ _ h0, isTape.mono g jtp, isTown.mono g jtw⟩
theorem isRule.mono {T T1 : hp_T} {a : Nat} (g : hp_sub T T1) (h : isRule T a) : isRule T1 a := by
  obtain ⟨stp, nstp, h0, bstp, jstp⟩ := h
  exact ⟨stp, nstp, g _ _ h0, bstp, g _ _ jstp⟩
theorem isRuleReader.mono {T T1 : hp_T} {a : Nat} (g : hp_sub T T1) (h : isRuleReader T a) : isRuleReader T1 a := by
  obtain ⟨tp, stp, h0, jtp, jstp⟩ := h
  exact ⟨tp, stp, g _ _ h0, isTape.mono g jtp, g _ _ jstp⟩
theorem isMemory.mono {T T1 : hp_T} {a : Nat} {px : Value → Prop} (g : hp_sub T T1) (h : isMemory T a px) : isMemory T1 a px := by
  obtain ⟨tw, tg, th, ts, pm, ak, ao, ah, aw, h0, jtw, jtg, jth, jts, jpm, jak, jao, jah, jaw⟩ := h
  exact ⟨tw, tg, th, ts, pm, ak, ao, ah, aw, g _ _ h0, isTown.mono g jtw, g _ _ jtg, g _ _ jth, g _ _ jts, g _ _ jpm, g _ _ jak, g _ _ jao, g _ _ jah, g _ _ jaw⟩
theorem isShaker.mono {T T1 : hp_T} {a : Nat} {Ru : Nat → Prop} (g : hp_sub T T1) (h : isShaker T Ru a) : isShaker T1 Ru a := by
  obtain ⟨wd, sk, th, h0, jwd, jsk, jth⟩ := h
  exact ⟨wd, sk, th, g _ _ h0, g _ _ jwd, g _ _ jsk, g _ _ jth⟩
theorem isWorlds.mono {T T1 : hp_T} {a : Nat} (g : hp_sub T T1) (h : isWorlds T a) : isWorlds T1 a := by
  obtain ⟨fi, wo, su, sh, me, s1, s2, h0, jfi, jwo, jsu, jsh, jme, js1, js2⟩ := h
  exact ⟨fi, wo, su, sh, me, s1, s2, g _ _ h0, g _ _ jfi, g _ _ jwo, g _ _ jsu, g _ _ jsh, g _ _ jme, g _ _ js1, g _ _ js2⟩
theorem isParity.mono {T T1 : hp_T} {a : Nat} (g : hp_sub T T1) (h : isParity T a) : isParity T1 a := by
  obtain ⟨bo, h0, jbo⟩ := h
  exact ⟨bo, g _ _ h0, g _ _ jbo⟩
theorem isShuns.mono {T T1 : hp_T} {a : Nat} (g : hp_sub T T1) (h : isShuns T a) : isShuns T1 a := by
  obtain ⟨le, gr, du, it, op, h0, jle, jgr, jdu, jit, jop⟩ := h
  exact ⟨le, gr, du, it, op, g _ _ h0, g _ _ jle, g _ _ jgr, g _ _ jdu, g _ _ jit, g _ _ jop⟩
/-- a new one -/
def isPC (T : hp_T) (Ru : Nat → Prop) (a : Nat) : Prop := ∃ tp tr rr rl nw im tl sk iq pa sn be : Nat, T a = some (.inr (11, [(rR tp), (rR tr), (rR rr), (rR rl), (rI 0 6), (rR nw), (rR im), (rR tl), (rR sk), (rR iq), (rR pa), (rR sn), (rR be)])) ∧ isTape T tp ∧ isTownReader T tr ∧ isRuleReader T rr ∧ T rl = some (.inl (5, 6, fun _ => rN Ru)) ∧ isMemory T nw (rV (.int 0)) ∧ T im = some (.inl (4, 4, fun _ => rV .null)) ∧ isTown T tl ∧ isShaker T Ru sk ∧ isWorlds T iq ∧ isParity T pa ∧ isShuns T sn ∧ isBest T be
abbrev WM_fill (p : Program) (l : Launch) (e : Env) (s : State) (m : MethodId) (below : List Frame) (meth : Method) (c : Code) (D : hp_D) (T : hp_T) (ap0 : Nat) (xp1 : Int32) (H : Heap) (locs : List Loc) (g : JFrame) : Prop := W p l e (headSpec wsJ7_fill_53178 ({ frames := 0, cells := 0, slots := 0, locals := 0 })).room s m ([.ref ap0, .int xp1] : List Value).toArray below meth c H locs 0 0 (MQ below (hq_e D T (fun v st t => v = none ∧ (True ∧ hp_ar D st.heap t.heap))) ([.ref ap0, .int xp1] : List Value).toArray s 0 0 (hp_F T)) g
set_option maxHeartbeats 4000000 in
set_option maxRecDepth 100000 in
theorem sM_fill (l : Launch) (D : hp_D) (T : hp_T) (ap0 : Nat) (xp1 : Int32) (np0 : Nat) (P : Value → Prop) (hp0 : T ap0 = some (.inl (0, np0, fun _ => P))) (nb0 : np0 ≤ 1000000) (hPv : P (.int xp1)) : Met l yJ7_fill_53178 wsJ7_fill_53178 ({ frames := 0, cells := 0, slots := 0, locals := 0 }) (mk_Pc D T [.ref ap0, .int xp1] (fun _ => True)) (hq_e D T (fun v st t => v = none ∧ (True ∧ hp_ar D st.heap t.heap))) 0 0 (hp_F T) := by
  refine Met.ofW (cc := cJ7_fill_53178) (maxL := 4) (ret := none) (by decide) rfl ?_
  intro p e s m args below meth c s₁ B hml hv
  obtain ⟨rfl, hok, hG, hB⟩ := hv
  have hx := B.exec
  have hb := B.bytes
  have hr := B.returns
  have hts := atoms_spec (ws := wsJ7_fill_53178) B.pre
  have hown : s.vm.findClass RJ7 = some m.cls := findClass_of_methodNamed B.named
  have hlocks := B.notSynchronized
  have hK := hG.1
  have hw : hp_w D T s s.heap [] := hp_w.rf hok
  have har : hp_ar D s.heap s.heap := fun _ _ _ _ h => h
  have hl := lv_entry ([.ref ap0, .int xp1]) (n := 4) (Nat.le_of_ble_eq_true rfl)
  rw [lg_entry_eq]
  generalize (lg_sl ([.ref ap0, .int xp1]) ++ List.replicate (4 - (lg_sl ([.ref ap0, .int xp1])).length) Slot.unset).toArray = ls at hl ⊢
  have hl : lv_has ls 4 [(0, .ref ap0), (1, .int xp1)] := hl
  show WM_fill p l e s m below meth c D T ap0 xp1 s.heap [] (F0 m 0 ls [])
  refine lv_iconst (v := 0) hx hb dJ7_fill_53178_0 (by decide) ?_
  refine lv_istore_n (lv' := [(2, .int 0), (0, .ref ap0), (1, .int xp1)]) hx hb dJ7_fill_53178_1 rfl hl (by decide) rfl (fun ls hl => ?_)
  refine lv_aload_n hx hb dJ7_fill_53178_2 rfl (lv_at hl 1 rfl) ?_
  obtain ⟨x3, ex3⟩ : ∃ y : Int32, Int32.ofNat np0 = y := ⟨_, rfl⟩
  have bx3 : iv x3 0 1000000 := iv_eq (iv_nI (n := np0) (by have := nb0; omega) (by omega) (by have := nb0; omega)) ex3.symm
  refine hp_alen (v := x3) hx hb hK hw.1 hp0 rfl ex3 dJ7_fill_53178_3 ?_
  refine lv_istore_n (lv' := [(3, .int x3), (2, .int 0), (0, .ref ap0), (1, .int xp1)]) hx hb dJ7_fill_53178_4 rfl hl (by decide) rfl (fun ls hl => ?_)
  have J5 : ∀ (n : Nat) (y5_l2 : Int32), (1000000 - y5_l2.toInt).toNat < n → iv y5_l2 0 1000000 → iv x3 0 1000000 → ∀ (H : Heap) (locs : List Loc), hp_w D T s H locs → hp_ar D s.heap H → ∀ (ls : Array Slot), lv_has ls 4 [(0, .ref ap0), (1, .int xp1), (2, .int y5_l2), (3, .int x3)] → WM_fill p l e s m below meth c D T ap0 xp1 H locs (F0 m 5 ls []) := by
    intro n
    induction n with
    | zero => intro y5_l2 hmu5 c5_y5_l2 c5_x3 H5 locs5 hw har ls hl; exact absurd hmu5 (Nat.not_lt_zero _)
    | succ n ih5 =>
      intro y5_l2 hmu5 c5_y5_l2 c5_x3 H5 locs5 hw har ls hl
      refine lv_iload_n hx hb dJ7_fill_53178_5 rfl (lv_at hl 2 rfl) ?_
      refine lv_iload_n hx hb dJ7_fill_53178_6 rfl (lv_at hl 3 rfl) ?_
      refine lv_icmp_ge (tgt := 20) hx hb dJ7_fill_53178_7 (by decide) (fun c7 => ?_) (fun c7 => ?_)
      · exact W.vret hx hb hr (fun t ht hW => ⟨none, rfl, ⟨rfl, ⟨trivial, by rw [ht]; exact har⟩⟩, by rw [ht]; exact hw.1, hw.2.F ht⟩) hw.2.2.2 dJ7_fill_53178_20
      · have r7fp : iv y5_l2 0 999999 := (iv_lt_l (iv_nle c7) c5_y5_l2 c5_x3).mono (by decide) (by decide)
        have r7fq : iv x3 1 1000000 := (iv_lt_r (iv_nle c7) c5_y5_l2 c5_x3).mono (by decide) (by decide)
        refine lv_aload_n hx hb dJ7_fill_53178_10 rfl (lv_at hl 0 rfl) ?_
        refine lv_iload_n hx hb dJ7_fill_53178_11 rfl (lv_at hl 2 rfl) ?_
        refine lv_iload_n hx hb dJ7_fill_53178_12 rfl (lv_at hl 1 rfl) ?_
        refine hp_iast hx hb hK hw hp0 (vp_len ex3 (iv_nle c7) r7fp (by decide) nb0) hPv dJ7_fill_53178_13 (fun H13 locs13 hw g13 => ?_)
        have har := har.trans g13
        obtain ⟨x14, ex14⟩ : ∃ y : Int32, y = y5_l2 + 1 := ⟨_, rfl⟩
        have bx14 : iv x14 1 1000000 := iv_add r7fp (show iv 1 1 1 from ⟨by decide, by decide⟩) ex14 (by decide)
        have qx14 := iv_add_eq r7fp (show iv 1 1 1 from ⟨by decide, by decide⟩) ex14 (by decide)
        refine lv_iinc (v := x14) (lv' := [(2, .int x14), (0, .ref ap0), (1, .int xp1), (3, .int x3)]) hx hb dJ7_fill_53178_14 hl (k := 2) rfl (by rw [ex14]; rfl) (by decide) rfl (fun ls hl => ?_)
        refine lv_goto (tgt := 5) hx hb dJ7_fill_53178_17 (by decide) ?_
        exact ih5 x14 (mu_up 1 hmu5 (qx14) (by decide) (show iv x14 0 1000000 from (bx14.mono (by decide) (by decide))).2) (bx14.mono (by decide) (by decide)) (r7fq.mono (by decide) (by decide)) H13 locs13 hw har _ (lv_sub hl [1, 2, 0, 3] rfl)
  exact J5 _ (0 : Int32) (Nat.lt_succ_self _) (show iv 0 0 1000000 from ⟨by decide, by decide⟩) bx3 s.heap [] hw har _ (lv_sub hl [2, 3, 1, 0] rfl)

set_option maxHeartbeats 4000000 in
set_option maxRecDepth 100000 in
theorem mX0_init (l : Launch) (D : hp_D) (T : hp_T) (a0 sz : Nat) (hT0 : T a0 = none) : Met l yX0_init wsX0_init ({ frames := 1, cells := 0, slots := 0, locals := 12 }) (mk_Pc D T [.ref a0] (fun H => H.size = sz ∧ hp_o D H a0 0 (fun k => defaultValue (tyX0 k)))) (hq_m D T a0 (fun T1 => isBest T1 a0)) 0 0 (fun q => q = a0 ∨ sz ≤ q) := by
  refine Met.ofW (cc := cX0_init) (maxL := 1) (ret := none) (by decide) rfl ?_
  intro p e s m args below meth c s₁ B hml hv
  obtain ⟨rfl, hok0, hMK, hsz0, ho⟩ := hv
  subst hsz0
  have hx := B.exec
  have hb := B.bytes
  have hr := B.returns
  have hts := atoms_spec (ws := wsX0_init) B.pre
  have hown : s.vm.findClass RX0 = some m.cls := findClass_of_methodNamed B.named
  have hlocks := B.notSynchronized
  have hin0 : meth.name = "<init>" := (name_of_methodNamed B.named B.method).1
  have hK := hMK.1
  have hw : mk_w D T (fun q => q = a0 ∨ s.heap.size ≤ q) s s.heap [] := ⟨hok0, va_S.rf⟩
  have hA : ∀ q, s.heap.size ≤ q → (fun q => q = a0 ∨ s.heap.size ≤ q) q := fun q h => Or.inr h
  have ha0 : a0 < s.heap.size := ho.lt
  have hTa : T a0 = none := hT0
  have hgr : hp_g0 T T s.heap.size := hp_g0.rf
  have hsz : s.heap.size ≤ s.heap.size := Nat.le_refl _
  have IX0 : ∀ w ∈ wsX00, w ∈ wsX0_init := by decide +kernel
  have ML := hts (.methodLink RX0 1 objectInit) (by decide +kernel)
  have IM := hts (.instanceMethod objectInit) (by decide +kernel)
  have CO := hts (.code objectInit ⟨#[0xb1]⟩ 1 none) (by decide +kernel)
  have L7 := hts (.fieldLink RX0 7 "PalmCensus$Best" "any" "Z") (by decide +kernel)
  have L13 := hts (.fieldLink RX0 13 "PalmCensus$Best" "value" "I") (by decide +kernel)
  have L17 := hts (.fieldLink RX0 17 "PalmCensus$Best" "hour" "I") (by decide +kernel)
  have L20 := hts (.fieldLink RX0 20 "PalmCensus$Best" "place" "I") (by decide +kernel)
  have hl := lv_entry ([.ref a0]) (n := 1) (Nat.le_of_ble_eq_true rfl)
  rw [lg_entry_eq]
  generalize (lg_sl ([.ref a0]) ++ List.replicate (1 - (lg_sl ([.ref a0])).length) Slot.unset).toArray = ls at hl ⊢
  have hl : lv_has ls 1 [(0, .ref a0)] := hl
  refine lv_aload_n hx hb dX0_init_0 rfl (lv_at hl 0 rfl) ?_
  refine W.objInit hx hb hown ML IM CO rfl (by rw [hml]; exact hl.1) rfl dX0_init_1 (Nat.le_of_ble_eq_true rfl) (Nat.le_of_ble_eq_true rfl) ?_
  refine W.eq (g2 := F0 m 4 ls []) rfl ?_
  refine lv_aload_n hx hb dX0_init_4 rfl (lv_at hl 0 rfl) ?_
  refine lv_iconst (v := 0) hx hb dX0_init_5 (by decide) ?_
  refine mk_put hx hb hts IX0 tyX0 tyX0_ok nmX0 hown hK hw ho hTa (Or.inl rfl) rfl 0 (by decide) L7 rfl (by decide) (by decide) dX0_init_6 (fun H6 locs6 hw ho => ?_)
  have hsz : s.heap.size ≤ H6.size := hw.2.1
  refine lv_aload_n hx hb dX0_init_9 rfl (lv_at hl 0 rfl) ?_
  refine lv_iconst (v := 0) hx hb dX0_init_10 (by decide) ?_
  refine mk_put hx hb hts IX0 tyX0 tyX0_ok nmX0 hown hK hw ho hTa (Or.inl rfl) rfl 1 (by decide) L13 rfl rfl rfl dX0_init_11 (fun H11 locs11 hw ho => ?_)
  have hsz : s.heap.size ≤ H11.size := hw.2.1
  refine lv_aload_n hx hb dX0_init_14 rfl (lv_at hl 0 rfl) ?_
  refine lv_iconst (v := 0) hx hb dX0_init_15 (by decide) ?_
  refine mk_put hx hb hts IX0 tyX0 tyX0_ok nmX0 hown hK hw ho hTa (Or.inl rfl) rfl 2 (by decide) L17 rfl rfl rfl dX0_init_16 (fun H16 locs16 hw ho => ?_)
  have hsz : s.heap.size ≤ H16.size := hw.2.1
  refine lv_aload_n hx hb dX0_init_19 rfl (lv_at hl 0 rfl) ?_
  refine lv_iconst (v := 0) hx hb dX0_init_20 (by decide) ?_
  refine mk_put hx hb hts IX0 tyX0 tyX0_ok nmX0 hown hK hw ho hTa (Or.inl rfl) rfl 3 (by decide) L20 rfl rfl rfl dX0_init_21 (fun H21 locs21 hw ho => ?_)
  have hsz : s.heap.size ≤ H21.size := hw.2.1
  have hsu := hp_sub_up (ct := .inr (0, [(rI 0 1), rA, rA, rA])) hTa
  have hfin : isBest (hp_up T a0 (.inr (0, [(rI 0 1), rA, rA, rA]))) a0 := hp_up_s _ _ _
  have hok : hp_ok D (hp_up T a0 (.inr (0, [(rI 0 1), rA, rA, rA]))) H21 := mk_end hw.1 hTa ho (by
    intro k P hk
    match k, hk with
    | 0, hk => cases hk; exact ⟨0, rfl, ⟨by decide, by decide⟩⟩
    | 1, hk => cases hk; exact ⟨0, rfl⟩
    | 2, hk => cases hk; exact ⟨0, rfl⟩
    | 3, hk => cases hk; exact ⟨0, rfl⟩
    | k + 4, hk => simp at hk)
  exact W.vret hx hb hr (fun t ht hW => ⟨rfl, _, hgr.end_ hTa, hfin, by rw [ht]; exact hok, hw.2.F ht⟩) hw.2.2.2 dX0_init_24
set_option maxHeartbeats 4000000 in
set_option maxRecDepth 100000 in
theorem mX8_init (l : Launch) (D : hp_D) (T : hp_T) (a0 sz : Nat) (hT0 : T a0 = none) : Met l yX8_init wsX8_init ({ frames := 1, cells := 3, slots := 202, locals := 23 }) (mk_Pc D T [.ref a0] (fun H => H.size = sz ∧ hp_o D H a0 8 (fun k => defaultValue (tyX8 k)))) (hq_m D T a0 (fun T1 => isTown T1 a0)) 3 202 (fun q => q = a0 ∨ sz ≤ q) := by
  refine Met.ofW (cc := cX8_init) (maxL := 1) (ret := none) (by decide) rfl ?_
  intro p e s m args below meth c s₁ B hml hv
  obtain ⟨rfl, hok0, hMK, hsz0, ho⟩ := hv
  subst hsz0
  have hx := B.exec
  have hb := B.bytes
  have hr := B.returns
  have hts := atoms_spec (ws := wsX8_init) B.pre
  have hown : s.vm.findClass RX8 = some m.cls := findClass_of_methodNamed B.named
  have hlocks := B.notSynchronized
  have hin0 : meth.name = "<init>" := (name_of_methodNamed B.named B.method).1
  have hK := hMK.1
  have hw : mk_w D T (fun q => q = a0 ∨ s.heap.size ≤ q) s s.heap [] := ⟨hok0, va_S.rf⟩
  have hA : ∀ q, s.heap.size ≤ q → (fun q => q = a0 ∨ s.heap.size ≤ q) q := fun q h => Or.inr h
  have ha0 : a0 < s.heap.size := ho.lt
  have hTa : T a0 = none := hT0
  have hgr : hp_g0 T T s.heap.size := hp_g0.rf
  have hsz : s.heap.size ≤ s.heap.size := Nat.le_refl _
  have IX8 : ∀ w ∈ wsX80, w ∈ wsX8_init := by decide +kernel
  have ML := hts (.methodLink RX8 3 objectInit) (by decide +kernel)
  have IM := hts (.instanceMethod objectInit) (by decide +kernel)
  have CO := hts (.code objectInit ⟨#[0xb1]⟩ 1 none) (by decide +kernel)
  have L9 := hts (.fieldLink RX8 9 "PalmCensus$Town" "gates" "I") (by decide +kernel)
  have L15 := hts (.fieldLink RX8 15 "PalmCensus$Town" "hours" "I") (by decide +kernel)
  have L18 := hts (.fieldLink RX8 18 "PalmCensus$Town" "people" "I") (by decide +kernel)
  have L21 := hts (.fieldLink RX8 21 "PalmCensus$Town" "day" "I") (by decide +kernel)
  have L24 := hts (.fieldLink RX8 24 "PalmCensus$Town" "left" "I") (by decide +kernel)
  have L27 := hts (.fieldLink RX8 27 "PalmCensus$Town" "gloved" "I") (by decide +kernel)
  have L30 := hts (.fieldLink RX8 30 "PalmCensus$Town" "children" "I") (by decide +kernel)
  have L33 := hts (.fieldLink RX8 33 "PalmCensus$Town" "counters" "I") (by decide +kernel)
  have ACint := hts (.arrayClass .int) (by decide +kernel)
  have L36 := hts (.fieldLink RX8 36 "PalmCensus$Town" "kin" "[I") (by decide +kernel)
  have L40 := hts (.fieldLink RX8 40 "PalmCensus$Town" "places" "[I") (by decide +kernel)
  have L43 := hts (.fieldLink RX8 43 "PalmCensus$Town" "crowds" "[I") (by decide +kernel)
  have hl := lv_entry ([.ref a0]) (n := 1) (Nat.le_of_ble_eq_true rfl)
  rw [lg_entry_eq]
  generalize (lg_sl ([.ref a0]) ++ List.replicate (1 - (lg_sl ([.ref a0])).length) Slot.unset).toArray = ls at hl ⊢
  have hl : lv_has ls 1 [(0, .ref a0)] := hl
  refine lv_aload_n hx hb dX8_init_0 rfl (lv_at hl 0 rfl) ?_
  refine W.objInit hx hb hown ML IM CO rfl (by rw [hml]; exact hl.1) rfl dX8_init_1 (Nat.le_of_ble_eq_true rfl) (Nat.le_of_ble_eq_true rfl) ?_
  refine W.eq (g2 := F0 m 4 ls []) rfl ?_
  refine lv_aload_n hx hb dX8_init_4 rfl (lv_at hl 0 rfl) ?_
  refine lv_iconst (v := 0) hx hb dX8_init_5 (by decide) ?_
  refine mk_put hx hb hts IX8 tyX8 tyX8_ok nmX8 hown hK hw ho hTa (Or.inl rfl) rfl 0 (by decide) L9 rfl rfl rfl dX8_init_6 (fun H6 locs6 hw ho => ?_)
  have hsz : s.heap.size ≤ H6.size := hw.2.1
  refine lv_aload_n hx hb dX8_init_9 rfl (lv_at hl 0 rfl) ?_
  refine lv_iconst (v := 0) hx hb dX8_init_10 (by decide) ?_
  refine mk_put hx hb hts IX8 tyX8 tyX8_ok nmX8 hown hK hw ho hTa (Or.inl rfl) rfl 1 (by decide) L15 rfl rfl rfl dX8_init_11 (fun H11 locs11 hw ho => ?_)
  have hsz : s.heap.size ≤ H11.size := hw.2.1
  refine lv_aload_n hx hb dX8_init_14 rfl (lv_at hl 0 rfl) ?_
  refine lv_iconst (v := 0) hx hb dX8_init_15 (by decide) ?_
  refine mk_put hx hb hts IX8 tyX8 tyX8_ok nmX8 hown hK hw ho hTa (Or.inl rfl) rfl 2 (by decide) L18 rfl rfl rfl dX8_init_16 (fun H16 locs16 hw ho => ?_)
  have hsz : s.heap.size ≤ H16.size := hw.2.1
  refine lv_aload_n hx hb dX8_init_19 rfl (lv_at hl 0 rfl) ?_
  refine lv_iconst (v := 0) hx hb dX8_init_20 (by decide) ?_
  refine mk_put hx hb hts IX8 tyX8 tyX8_ok nmX8 hown hK hw ho hTa (Or.inl rfl) rfl 3 (by decide) L21 rfl rfl rfl dX8_init_21 (fun H21 locs21 hw ho => ?_)
  have hsz : s.heap.size ≤ H21.size := hw.2.1
  refine lv_aload_n hx hb dX8_init_24 rfl (lv_at hl 0 rfl) ?_
  refine lv_iconst (v := 0) hx hb dX8_init_25 (by decide) ?_
  refine mk_put hx hb hts IX8 tyX8 tyX8_ok nmX8 hown hK hw ho hTa (Or.inl rfl) rfl 4 (by decide) L24 rfl rfl rfl dX8_init_26 (fun H26 locs26 hw ho => ?_)
  have hsz : s.heap.size ≤ H26.size := hw.2.1
  refine lv_aload_n hx hb dX8_init_29 rfl (lv_at hl 0 rfl) ?_
  refine lv_iconst (v := 0) hx hb dX8_init_30 (by decide) ?_
  refine mk_put hx hb hts IX8 tyX8 tyX8_ok nmX8 hown hK hw ho hTa (Or.inl rfl) rfl 5 (by decide) L27 rfl rfl rfl dX8_init_31 (fun H31 locs31 hw ho => ?_)
  have hsz : s.heap.size ≤ H31.size := hw.2.1
  refine lv_aload_n hx hb dX8_init_34 rfl (lv_at hl 0 rfl) ?_
  refine lv_iconst (v := 0) hx hb dX8_init_35 (by decide) ?_
  refine mk_put hx hb hts IX8 tyX8 tyX8_ok nmX8 hown hK hw ho hTa (Or.inl rfl) rfl 6 (by decide) L30 rfl rfl rfl dX8_init_36 (fun H36 locs36 hw ho => ?_)
  have hsz : s.heap.size ≤ H36.size := hw.2.1
  refine lv_aload_n hx hb dX8_init_39 rfl (lv_at hl 0 rfl) ?_
  refine lv_iconst (v := 0) hx hb dX8_init_40 (by decide) ?_
  refine mk_put hx hb hts IX8 tyX8 tyX8_ok nmX8 hown hK hw ho hTa (Or.inl rfl) rfl 7 (by decide) L33 rfl rfl rfl dX8_init_41 (fun H41 locs41 hw ho => ?_)
  have hsz : s.heap.size ≤ H41.size := hw.2.1
  refine lv_aload_n hx hb dX8_init_44 rfl (lv_at hl 0 rfl) ?_
  refine lv_bipush (v := 10) hx hb dX8_init_45 (by decide) ?_
  refine mk_newa (atype := .int) (t0 := 0) (N' := 10) (P := (fun _ => rA)) hx hb ACint rfl (fun C h => by cases h) rfl hK hw (fun j _ => ⟨0, rfl⟩) (by decide) (by decide) (by decide) (Nat.le_of_ble_eq_true rfl) (Nat.le_of_ble_eq_true rfl) dX8_init_47 (fun q47 H47 hw eq47 k47 nq47 => ?_)
  have zq47 : s.heap.size ≤ q47 := by rw [eq47]; exact hsz
  have ho := ho.kept (k47 a0 ho.lt)
  have g47 := hp_sub_up (ct := .inl (0, 10, (fun _ => rA))) nq47
  have hgr := hgr.up (ct := .inl (0, 10, (fun _ => rA))) zq47 nq47
  have hq47 := hp_up_s T q47 (.inl (0, 10, (fun _ => rA)))
  generalize hp_up T q47 (.inl (0, 10, (fun _ => rA))) = T47 at hw g47 hgr hq47
  have hTa : T47 a0 = none := hgr.nn hT0 ha0
  have hsz : s.heap.size ≤ H47.size := hw.2.1
  refine W.widen (k := 1) (n := 10) (by omega) (by omega) ?_
  refine mk_putF hx hb hts IX8 tyX8 tyX8_ok nmX8 hown hK hw ho hTa (Or.inl rfl) rfl 8 (by decide) L36 rfl hin0 rfl rfl rfl dX8_init_49 (fun H49 locs49 hw ho => ?_)
  have hsz : s.heap.size ≤ H49.size := hw.2.1
  refine lv_aload_n hx hb dX8_init_52 rfl (lv_at hl 0 rfl) ?_
  refine lv_bipush (v := 120) hx hb dX8_init_53 (by decide) ?_
  refine mk_newa (atype := .int) (t0 := 0) (N' := 120) (P := (fun _ => rA)) hx hb ACint rfl (fun C h => by cases h) rfl hK hw (fun j _ => ⟨0, rfl⟩) (by decide) (by decide) (by decide) (Nat.le_of_ble_eq_true rfl) (Nat.le_of_ble_eq_true rfl) dX8_init_55 (fun q55 H55 hw eq55 k55 nq55 => ?_)
  have zq55 : s.heap.size ≤ q55 := by rw [eq55]; exact hsz
  have ho := ho.kept (k55 a0 ho.lt)
  have g55 := hp_sub_up (ct := .inl (0, 120, (fun _ => rA))) nq55
  have hgr := hgr.up (ct := .inl (0, 120, (fun _ => rA))) zq55 nq55
  have hq55 := hp_up_s T47 q55 (.inl (0, 120, (fun _ => rA)))
  generalize hp_up T47 q55 (.inl (0, 120, (fun _ => rA))) = T55 at hw g55 hgr hq55
  have hq47 : T55 q47 = some (.inl (0, 10, (fun _ => rA))) := g55 _ _ hq47
  have hTa : T55 a0 = none := hgr.nn hT0 ha0
  have hsz : s.heap.size ≤ H55.size := hw.2.1
  refine W.widen (k := 2) (n := 130) (by omega) (by omega) ?_
  refine mk_putF hx hb hts IX8 tyX8 tyX8_ok nmX8 hown hK hw ho hTa (Or.inl rfl) rfl 9 (by decide) L40 rfl hin0 rfl rfl rfl dX8_init_57 (fun H57 locs57 hw ho => ?_)
  have hsz : s.heap.size ≤ H57.size := hw.2.1
  refine lv_aload_n hx hb dX8_init_60 rfl (lv_at hl 0 rfl) ?_
  refine lv_bipush (v := 72) hx hb dX8_init_61 (by decide) ?_
  refine mk_newa (atype := .int) (t0 := 0) (N' := 72) (P := (fun _ => (rI 0 1023))) hx hb ACint rfl (fun C h => by cases h) rfl hK hw (fun j _ => ⟨0, rfl, by decide, by decide⟩) (by decide) (by decide) (by decide) (Nat.le_of_ble_eq_true rfl) (Nat.le_of_ble_eq_true rfl) dX8_init_63 (fun q63 H63 hw eq63 k63 nq63 => ?_)
  have zq63 : s.heap.size ≤ q63 := by rw [eq63]; exact hsz
  have ho := ho.kept (k63 a0 ho.lt)
  have g63 := hp_sub_up (ct := .inl (0, 72, (fun _ => (rI 0 1023)))) nq63
  have hgr := hgr.up (ct := .inl (0, 72, (fun _ => (rI 0 1023)))) zq63 nq63
  have hq63 := hp_up_s T55 q63 (.inl (0, 72, (fun _ => (rI 0 1023))))
  generalize hp_up T55 q63 (.inl (0, 72, (fun _ => (rI 0 1023)))) = T63 at hw g63 hgr hq63
  have hq47 : T63 q47 = some (.inl (0, 10, (fun _ => rA))) := g63 _ _ hq47
  have hq55 : T63 q55 = some (.inl (0, 120, (fun _ => rA))) := g63 _ _ hq55
  have hTa : T63 a0 = none := hgr.nn hT0 ha0
  have hsz : s.heap.size ≤ H63.size := hw.2.1
  refine W.widen (k := 3) (n := 202) (by omega) (by omega) ?_
  refine mk_putF hx hb hts IX8 tyX8 tyX8_ok nmX8 hown hK hw ho hTa (Or.inl rfl) rfl 10 (by decide) L43 rfl hin0 rfl rfl rfl dX8_init_65 (fun H65 locs65 hw ho => ?_)
  have hsz : s.heap.size ≤ H65.size := hw.2.1
  refine lv_aload_n hx hb dX8_init_68 rfl (lv_at hl 0 rfl) ?_
  refine mk_get (v := .ref q55) hx hb hts IX8 hown hK ho rfl 9 (by decide) L40 rfl dX8_init_69 ?_
  refine lv_bipush (v := 99) hx hb dX8_init_72 (by decide) ?_
  refine mk_one (va_runS (As := [.ref q55, .int 99]) (rest := []) ⟨hx, hb, hml, hown, hts⟩ (sM_fill l D (hp_one q55 (.inl (0, 120, (fun _ => rA)))) q55 (99 : Int32) 120 rA (hp_up_s _ _ _) (by decide) ⟨_, rfl⟩) (va_cwS 2 hts gX8_init_J7_fill_53178 rfl rfl rfl (by decide +kernel) ⟨Nat.le_of_ble_eq_true rfl, Nat.le_of_ble_eq_true rfl⟩) (mk_pre (T := hp_one q55 (.inl (0, 120, (fun _ => rA)))) (A := fun _ => True) (locs := []) hMK ⟨hp_one_ok hw.1 hq55, hw.2.1, fun _ _ h => absurd trivial h, fun _ _ => trivial⟩ trivial) rfl rfl hl.1 rfl (lv_room (Nat.le_of_ble_eq_true rfl)) dX8_init_74 ⟨Nat.le_of_ble_eq_true rfl, Nat.le_of_ble_eq_true rfl⟩) hw hq55 (Or.inr zq55) (fun H74 locs74 hw k74 s74 => ?_)
  have ho := ho.kept (k74 a0 ho.lt (fun h => absurd zq55 (by rw [← h]; exact Nat.not_le.mpr ha0)))
  have hsz : s.heap.size ≤ H74.size := hw.2.1
  have hsu := hp_sub_up (ct := .inr (8, [(rI 0 6), (rI 0 12), (rI 0 10), rA, rA, rA, rA, rA, (rR q47), (rR q55), (rR q63)])) hTa
  have hfin : isTown (hp_up T63 a0 (.inr (8, [(rI 0 6), (rI 0 12), (rI 0 10), rA, rA, rA, rA, rA, (rR q47), (rR q55), (rR q63)]))) a0 := ⟨q47, q55, q63, hp_up_s _ _ _, hsu _ _ hq47, hsu _ _ hq55, hsu _ _ hq63⟩
  have hok : hp_ok D (hp_up T63 a0 (.inr (8, [(rI 0 6), (rI 0 12), (rI 0 10), rA, rA, rA, rA, rA, (rR q47), (rR q55), (rR q63)]))) H74 := mk_end hw.1 hTa ho (by
    intro k P hk
    match k, hk with
    | 0, hk => cases hk; exact ⟨0, rfl, ⟨by decide, by decide⟩⟩
    | 1, hk => cases hk; exact ⟨0, rfl, ⟨by decide, by decide⟩⟩
    | 2, hk => cases hk; exact ⟨0, rfl, ⟨by decide, by decide⟩⟩
    | 3, hk => cases hk; exact ⟨0, rfl⟩
    | 4, hk => cases hk; exact ⟨0, rfl⟩
    | 5, hk => cases hk; exact ⟨0, rfl⟩
    | 6, hk => cases hk; exact ⟨0, rfl⟩
    | 7, hk => cases hk; exact ⟨0, rfl⟩
    | 8, hk => cases hk; exact rfl
    | 9, hk => cases hk; exact rfl
    | 10, hk => cases hk; exact rfl
    | k + 11, hk => simp at hk)
  exact W.vret hx hb hr (fun t ht hW => ⟨rfl, _, hgr.end_ hTa, hfin, by rw [ht]; exact hok, hw.2.F ht⟩) hw.2.2.2 dX8_init_77
set_option maxHeartbeats 4000000 in
set_option maxRecDepth 100000 in
theorem mX7_init (l : Launch) (D : hp_D) (T : hp_T) (a0 sz : Nat) (hT0 : T a0 = none) : Met l yX7_init wsX7_init ({ frames := 1, cells := 1, slots := 400, locals := 12 }) (mk_Pc D T [.ref a0] (fun H => H.size = sz ∧ hp_o D H a0 7 (fun k => defaultValue (tyX7 k)))) (hq_m D T a0 (fun T1 => isTape T1 a0)) 1 400 (fun q => q = a0 ∨ sz ≤ q) := by
  refine Met.ofW (cc := cX7_init) (maxL := 1) (ret := none) (by decide) rfl ?_
  intro p e s m args below meth c s₁ B hml hv
  obtain ⟨rfl, hok0, hMK, hsz0, ho⟩ := hv
  subst hsz0
  have hx := B.exec
  have hb := B.bytes
  have hr := B.returns
  have hts := atoms_spec (ws := wsX7_init) B.pre
  have hown : s.vm.findClass RX7 = some m.cls := findClass_of_methodNamed B.named
  have hlocks := B.notSynchronized
  have hin0 : meth.name = "<init>" := (name_of_methodNamed B.named B.method).1
  have hK := hMK.1
  have hw : mk_w D T (fun q => q = a0 ∨ s.heap.size ≤ q) s s.heap [] := ⟨hok0, va_S.rf⟩
  have hA : ∀ q, s.heap.size ≤ q → (fun q => q = a0 ∨ s.heap.size ≤ q) q := fun q h => Or.inr h
  have ha0 : a0 < s.heap.size := ho.lt
  have hTa : T a0 = none := hT0
  have hgr : hp_g0 T T s.heap.size := hp_g0.rf
  have hsz : s.heap.size ≤ s.heap.size := Nat.le_refl _
  have IX7 : ∀ w ∈ wsX70, w ∈ wsX7_init := by decide +kernel
  have ML := hts (.methodLink RX7 3 objectInit) (by decide +kernel)
  have IM := hts (.instanceMethod objectInit) (by decide +kernel)
  have CO := hts (.code objectInit ⟨#[0xb1]⟩ 1 none) (by decide +kernel)
  have ACbyte := hts (.arrayClass .byte) (by decide +kernel)
  have L9 := hts (.fieldLink RX7 9 "PalmCensus$Tape" "bytes" "[B") (by decide +kernel)
  have L15 := hts (.fieldLink RX7 15 "PalmCensus$Tape" "length" "I") (by decide +kernel)
  have L19 := hts (.fieldLink RX7 19 "PalmCensus$Tape" "place" "I") (by decide +kernel)
  have L22 := hts (.fieldLink RX7 22 "PalmCensus$Tape" "fault" "I") (by decide +kernel)
  have L25 := hts (.fieldLink RX7 25 "PalmCensus$Tape" "start" "I") (by decide +kernel)
  have hl := lv_entry ([.ref a0]) (n := 1) (Nat.le_of_ble_eq_true rfl)
  rw [lg_entry_eq]
  generalize (lg_sl ([.ref a0]) ++ List.replicate (1 - (lg_sl ([.ref a0])).length) Slot.unset).toArray = ls at hl ⊢
  have hl : lv_has ls 1 [(0, .ref a0)] := hl
  refine lv_aload_n hx hb dX7_init_0 rfl (lv_at hl 0 rfl) ?_
  refine W.objInit hx hb hown ML IM CO rfl (by rw [hml]; exact hl.1) rfl dX7_init_1 (Nat.le_of_ble_eq_true rfl) (Nat.le_of_ble_eq_true rfl) ?_
  refine W.eq (g2 := F0 m 4 ls []) rfl ?_
  refine lv_aload_n hx hb dX7_init_4 rfl (lv_at hl 0 rfl) ?_
  refine lv_sipush (v := 400) hx hb dX7_init_5 (by decide) ?_
  refine mk_newa (atype := .byte) (t0 := 1) (N' := 400) (P := (fun _ => rA)) hx hb ACbyte rfl (fun C h => by cases h) rfl hK hw (fun j _ => ⟨0, rfl⟩) (by decide) (by decide) (by decide) (Nat.le_of_ble_eq_true rfl) (Nat.le_of_ble_eq_true rfl) dX7_init_8 (fun q8 H8 hw eq8 k8 nq8 => ?_)
  have zq8 : s.heap.size ≤ q8 := by rw [eq8]; exact hsz
  have ho := ho.kept (k8 a0 ho.lt)
  have g8 := hp_sub_up (ct := .inl (1, 400, (fun _ => rA))) nq8
  have hgr := hgr.up (ct := .inl (1, 400, (fun _ => rA))) zq8 nq8
  have hq8 := hp_up_s T q8 (.inl (1, 400, (fun _ => rA)))
  generalize hp_up T q8 (.inl (1, 400, (fun _ => rA))) = T8 at hw g8 hgr hq8
  have hTa : T8 a0 = none := hgr.nn hT0 ha0
  have hsz : s.heap.size ≤ H8.size := hw.2.1
  refine W.widen (k := 1) (n := 400) (by omega) (by omega) ?_
  refine mk_putF hx hb hts IX7 tyX7 tyX7_ok nmX7 hown hK hw ho hTa (Or.inl rfl) rfl 0 (by decide) L9 rfl hin0 rfl rfl rfl dX7_init_10 (fun H10 locs10 hw ho => ?_)
  have hsz : s.heap.size ≤ H10.size := hw.2.1
  refine lv_aload_n hx hb dX7_init_13 rfl (lv_at hl 0 rfl) ?_
  refine lv_iconst (v := 0) hx hb dX7_init_14 (by decide) ?_
  refine mk_put hx hb hts IX7 tyX7 tyX7_ok nmX7 hown hK hw ho hTa (Or.inl rfl) rfl 1 (by decide) L15 rfl rfl rfl dX7_init_15 (fun H15 locs15 hw ho => ?_)
  have hsz : s.heap.size ≤ H15.size := hw.2.1
  refine lv_aload_n hx hb dX7_init_18 rfl (lv_at hl 0 rfl) ?_
  refine lv_iconst (v := 0) hx hb dX7_init_19 (by decide) ?_
  refine mk_put hx hb hts IX7 tyX7 tyX7_ok nmX7 hown hK hw ho hTa (Or.inl rfl) rfl 2 (by decide) L19 rfl rfl rfl dX7_init_20 (fun H20 locs20 hw ho => ?_)
  have hsz : s.heap.size ≤ H20.size := hw.2.1
  refine lv_aload_n hx hb dX7_init_23 rfl (lv_at hl 0 rfl) ?_
  refine lv_iconst (v := 0) hx hb dX7_init_24 (by decide) ?_
  refine mk_put hx hb hts IX7 tyX7 tyX7_ok nmX7 hown hK hw ho hTa (Or.inl rfl) rfl 3 (by decide) L22 rfl rfl rfl dX7_init_25 (fun H25 locs25 hw ho => ?_)
  have hsz : s.heap.size ≤ H25.size := hw.2.1
  refine lv_aload_n hx hb dX7_init_28 rfl (lv_at hl 0 rfl) ?_
  refine lv_iconst (v := 0) hx hb dX7_init_29 (by decide) ?_
  refine mk_put hx hb hts IX7 tyX7 tyX7_ok nmX7 hown hK hw ho hTa (Or.inl rfl) rfl 4 (by decide) L25 rfl rfl rfl dX7_init_30 (fun H30 locs30 hw ho => ?_)
  have hsz : s.heap.size ≤ H30.size := hw.2.1
  have hsu := hp_sub_up (ct := .inr (7, [(rR q8), (rI 0 400), (rI 0 400), rA, (rI 0 400)])) hTa
  have hfin : isTape (hp_up T8 a0 (.inr (7, [(rR q8), (rI 0 400), (rI 0 400), rA, (rI 0 400)]))) a0 := ⟨q8, hp_up_s _ _ _, hsu _ _ hq8⟩
  have hok : hp_ok D (hp_up T8 a0 (.inr (7, [(rR q8), (rI 0 400), (rI 0 400), rA, (rI 0 400)]))) H30 := mk_end hw.1 hTa ho (by
    intro k P hk
    match k, hk with
    | 0, hk => cases hk; exact rfl
    | 1, hk => cases hk; exact ⟨0, rfl, ⟨by decide, by decide⟩⟩
    | 2, hk => cases hk; exact ⟨0, rfl, ⟨by decide, by decide⟩⟩
    | 3, hk => cases hk; exact ⟨0, rfl⟩
    | 4, hk => cases hk; exact ⟨0, rfl, ⟨by decide, by decide⟩⟩
    | k + 5, hk => simp at hk)
  exact W.vret hx hb hr (fun t ht hW => ⟨rfl, _, hgr.end_ hTa, hfin, by rw [ht]; exact hok, hw.2.F ht⟩) hw.2.2.2 dX7_init_33
set_option maxHeartbeats 4000000 in
set_option maxRecDepth 100000 in
theorem mX9_init (l : Launch) (D : hp_D) (T : hp_T) (a0 sz : Nat) (a1 : Nat) (hT0 : T a0 = none) (i1 : isTape T a1) : Met l yX9_init wsX9_init ({ frames := 2, cells := 4, slots := 213, locals := 43 }) (mk_Pc D T [.ref a0, .ref a1] (fun H => H.size = sz ∧ hp_o D H a0 9 (fun k => defaultValue (tyX9 k)))) (hq_m D T a0 (fun T1 => isTownReader T1 a0)) 4 213 (fun q => q = a0 ∨ sz ≤ q) := by
  refine Met.ofW (cc := cX9_init) (maxL := 2) (ret := none) (by decide) rfl ?_
  intro p e s m args below meth c s₁ B hml hv
  obtain ⟨rfl, hok0, hMK, hsz0, ho⟩ := hv
  subst hsz0
  have hx := B.exec
  have hb := B.bytes
  have hr := B.returns
  have hts := atoms_spec (ws := wsX9_init) B.pre
  have hown : s.vm.findClass RX9 = some m.cls := findClass_of_methodNamed B.named
  have hlocks := B.notSynchronized
  have hin0 : meth.name = "<init>" := (name_of_methodNamed B.named B.method).1
  have hK := hMK.1
  have hw : mk_w D T (fun q => q = a0 ∨ s.heap.size ≤ q) s s.heap [] := ⟨hok0, va_S.rf⟩
  have hA : ∀ q, s.heap.size ≤ q → (fun q => q = a0 ∨ s.heap.size ≤ q) q := fun q h => Or.inr h
  have ha0 : a0 < s.heap.size := ho.lt
  have hTa : T a0 = none := hT0
  have hgr : hp_g0 T T s.heap.size := hp_g0.rf
  have hsz : s.heap.size ≤ s.heap.size := Nat.le_refl _
  have IX8 : ∀ w ∈ wsX80, w ∈ wsX9_init := by decide +kernel
  have IX9 : ∀ w ∈ wsX90, w ∈ wsX9_init := by decide +kernel
  have ML := hts (.methodLink RX9 3 objectInit) (by decide +kernel)
  have IM := hts (.instanceMethod objectInit) (by decide +kernel)
  have CO := hts (.code objectInit ⟨#[0xb1]⟩ 1 none) (by decide +kernel)
  have CL9 := hts (.classLink RX9 9 RX8) (by decide +kernel)
  have ISX8 := hts (.instantiable RX8 11) (by decide +kernel)
  have INX8 := hts (.initialized RX8) (by decide +kernel)
  have IMX8_init := hts (.instanceMethod yX8_init) (by decide +kernel)
  have LK11 := hts (.methodLink RX9 11 yX8_init) (by decide +kernel)
  have L12 := hts (.fieldLink RX9 12 "PalmCensus$TownReader" "town" "LPalmCensus$Town;") (by decide +kernel)
  have L18 := hts (.fieldLink RX9 18 "PalmCensus$TownReader" "tape" "LPalmCensus$Tape;") (by decide +kernel)
  have hl := lv_entry ([.ref a0, .ref a1]) (n := 2) (Nat.le_of_ble_eq_true rfl)
  rw [lg_entry_eq]
  generalize (lg_sl ([.ref a0, .ref a1]) ++ List.replicate (2 - (lg_sl ([.ref a0, .ref a1])).length) Slot.unset).toArray = ls at hl ⊢
  have hl : lv_has ls 2 [(0, .ref a0), (1, .ref a1)] := hl
  refine lv_aload_n hx hb dX9_init_0 rfl (lv_at hl 0 rfl) ?_
  refine W.objInit hx hb hown ML IM CO rfl (by rw [hml]; exact hl.1) rfl dX9_init_1 (Nat.le_of_ble_eq_true rfl) (Nat.le_of_ble_eq_true rfl) ?_
  refine W.eq (g2 := F0 m 4 ls []) rfl ?_
  refine lv_aload_n hx hb dX9_init_4 rfl (lv_at hl 0 rfl) ?_
  refine mk_new (ci := 8) (C := RX8) (TT := TX8) (N := 11) hx hb hts IX8 tyX8 tyX8_ok hown CL9 ISX8 INX8 hK hw rfl (Nat.le_of_ble_eq_true rfl) (Nat.le_of_ble_eq_true rfl) dX9_init_5 (fun q5 H5 hw oq5 eq5 k5 nq5 => ?_)
  have zq5 : s.heap.size ≤ q5 := by rw [eq5]; exact hsz
  have lq5 : q5 < H5.size := oq5.lt
  have ho := ho.kept (k5 a0 ho.lt)
  have hsz : s.heap.size ≤ H5.size := hw.2.1
  refine W.widen (k := 1) (n := 11) (by omega) (by omega) ?_
  refine lv_dup hx hb dX9_init_8 rfl ?_
  refine mk_call (va_runI (As := []) (rest := [.ref q5, .ref a0]) ⟨hx, hb, hml, hown, hts⟩ (mX8_init l D T q5 H5.size nq5) (cwI 0 hts gX9_init_X8_init rfl rfl rfl INX8 LK11 IMX8_init rfl (by decide +kernel) ⟨Nat.le_of_ble_eq_true rfl, Nat.le_of_ble_eq_true rfl⟩) (mk_pre hMK hw ⟨rfl, oq5⟩) rfl rfl hl.1 rfl (lv_room (Nat.le_of_ble_eq_true rfl)) dX9_init_9 ⟨Nat.le_of_ble_eq_true rfl, Nat.le_of_ble_eq_true rfl⟩) hw hA zq5 (fun T9 H9 locs9 iq5 hw x9 k9 => ?_)
  have ho := ho.kept (k9 a0 ho.lt (fun h => absurd zq5 (by rw [← h]; exact Nat.not_le.mpr ha0)))
  have hgr := hgr.call x9 hsz zq5
  have i1 : isTape T9 a1 := isTape.mono x9.1 i1
  have hTa : T9 a0 = none := hgr.nn hT0 ha0
  have hsz : s.heap.size ≤ H9.size := hw.2.1
  refine mk_putF hx hb hts IX9 tyX9 tyX9_ok nmX9 hown hK hw ho hTa (Or.inl rfl) rfl 1 (by decide) L12 rfl hin0 rfl rfl rfl dX9_init_12 (fun H12 locs12 hw ho => ?_)
  have hsz : s.heap.size ≤ H12.size := hw.2.1
  refine lv_aload_n hx hb dX9_init_15 rfl (lv_at hl 0 rfl) ?_
  refine lv_aload_n hx hb dX9_init_16 rfl (lv_at hl 1 rfl) ?_
  refine mk_putF hx hb hts IX9 tyX9 tyX9_ok nmX9 hown hK hw ho hTa (Or.inl rfl) rfl 0 (by decide) L18 rfl hin0 rfl rfl rfl dX9_init_17 (fun H17 locs17 hw ho => ?_)
  have hsz : s.heap.size ≤ H17.size := hw.2.1
  have hsu := hp_sub_up (ct := .inr (9, [(rR a1), (rR q5)])) hTa
  have hfin : isTownReader (hp_up T9 a0 (.inr (9, [(rR a1), (rR q5)]))) a0 := ⟨a1, q5, hp_up_s _ _ _, isTape.mono hsu i1, isTown.mono hsu iq5⟩
  have hok : hp_ok D (hp_up T9 a0 (.inr (9, [(rR a1), (rR q5)]))) H17 := mk_end hw.1 hTa ho (by
    intro k P hk
    match k, hk with
    | 0, hk => cases hk; exact rfl
    | 1, hk => cases hk; exact rfl
    | k + 2, hk => simp at hk)
  exact W.vret hx hb hr (fun t ht hW => ⟨rfl, _, hgr.end_ hTa, hfin, by rw [ht]; exact hok, hw.2.F ht⟩) hw.2.2.2 dX9_init_20
set_option maxHeartbeats 4000000 in
set_option maxRecDepth 100000 in
theorem mX3_init (l : Launch) (D : hp_D) (T : hp_T) (a0 sz : Nat) (a1 n1 : Nat) (x2 : Int32) (hT0 : T a0 = none) (b1 : n1 ≤ 400) (i1 : T a1 = some (.inl (0, n1, fun _ => rA))) (b2 : iv x2 0 1) : Met l yX3_init wsX3_init ({ frames := 1, cells := 0, slots := 0, locals := 12 }) (mk_Pc D T [.ref a0, .ref a1, .int x2] (fun H => H.size = sz ∧ hp_o D H a0 3 (fun k => defaultValue (tyX3 k)))) (hq_m D T a0 (fun T1 => isRule T1 a0)) 0 0 (fun q => q = a0 ∨ sz ≤ q) := by
  refine Met.ofW (cc := cX3_init) (maxL := 3) (ret := none) (by decide) rfl ?_
  intro p e s m args below meth c s₁ B hml hv
  obtain ⟨rfl, hok0, hMK, hsz0, ho⟩ := hv
  subst hsz0
  have hx := B.exec
  have hb := B.bytes
  have hr := B.returns
  have hts := atoms_spec (ws := wsX3_init) B.pre
  have hown : s.vm.findClass RX3 = some m.cls := findClass_of_methodNamed B.named
  have hlocks := B.notSynchronized
  have hin0 : meth.name = "<init>" := (name_of_methodNamed B.named B.method).1
  have hK := hMK.1
  have hw : mk_w D T (fun q => q = a0 ∨ s.heap.size ≤ q) s s.heap [] := ⟨hok0, va_S.rf⟩
  have hA : ∀ q, s.heap.size ≤ q → (fun q => q = a0 ∨ s.heap.size ≤ q) q := fun q h => Or.inr h
  have ha0 : a0 < s.heap.size := ho.lt
  have hTa : T a0 = none := hT0
  have hgr : hp_g0 T T s.heap.size := hp_g0.rf
  have hsz : s.heap.size ≤ s.heap.size := Nat.le_refl _
  have IX3 : ∀ w ∈ wsX30, w ∈ wsX3_init := by decide +kernel
  have ML := hts (.methodLink RX3 1 objectInit) (by decide +kernel)
  have IM := hts (.instanceMethod objectInit) (by decide +kernel)
  have CO := hts (.code objectInit ⟨#[0xb1]⟩ 1 none) (by decide +kernel)
  have L7 := hts (.fieldLink RX3 7 "PalmCensus$Rule" "steps" "[I") (by decide +kernel)
  have L13 := hts (.fieldLink RX3 13 "PalmCensus$Rule" "mindsCrowd" "Z") (by decide +kernel)
  have hl := lv_entry ([.ref a0, .ref a1, .int x2]) (n := 3) (Nat.le_of_ble_eq_true rfl)
  rw [lg_entry_eq]
  generalize (lg_sl ([.ref a0, .ref a1, .int x2]) ++ List.replicate (3 - (lg_sl ([.ref a0, .ref a1, .int x2])).length) Slot.unset).toArray = ls at hl ⊢
  have hl : lv_has ls 3 [(0, .ref a0), (1, .ref a1), (2, .int x2)] := hl
  refine lv_aload_n hx hb dX3_init_0 rfl (lv_at hl 0 rfl) ?_
  refine W.objInit hx hb hown ML IM CO rfl (by rw [hml]; exact hl.1) rfl dX3_init_1 (Nat.le_of_ble_eq_true rfl) (Nat.le_of_ble_eq_true rfl) ?_
  refine W.eq (g2 := F0 m 4 ls []) rfl ?_
  refine lv_aload_n hx hb dX3_init_4 rfl (lv_at hl 0 rfl) ?_
  refine lv_aload_n hx hb dX3_init_5 rfl (lv_at hl 1 rfl) ?_
  refine mk_putF hx hb hts IX3 tyX3 tyX3_ok nmX3 hown hK hw ho hTa (Or.inl rfl) rfl 0 (by decide) L7 rfl hin0 rfl rfl rfl dX3_init_6 (fun H6 locs6 hw ho => ?_)
  have hsz : s.heap.size ≤ H6.size := hw.2.1
  refine lv_aload_n hx hb dX3_init_9 rfl (lv_at hl 0 rfl) ?_
  refine lv_iload_n hx hb dX3_init_10 rfl (lv_at hl 2 rfl) ?_
  refine mk_putF hx hb hts IX3 tyX3 tyX3_ok nmX3 hown hK hw ho hTa (Or.inl rfl) rfl 1 (by decide) L13 rfl hin0 rfl (iv_nz b2) (iv_fz b2) dX3_init_11 (fun H11 locs11 hw ho => ?_)
  have hsz : s.heap.size ≤ H11.size := hw.2.1
  have hsu := hp_sub_up (ct := .inr (3, [(rR a1), (rI 0 1)])) hTa
  have hfin : isRule (hp_up T a0 (.inr (3, [(rR a1), (rI 0 1)]))) a0 := ⟨a1, n1, hp_up_s _ _ _, b1, hsu _ _ i1⟩
  have hok : hp_ok D (hp_up T a0 (.inr (3, [(rR a1), (rI 0 1)]))) H11 := mk_end hw.1 hTa ho (by
    intro k P hk
    match k, hk with
    | 0, hk => cases hk; exact rfl
    | 1, hk => cases hk; exact ⟨x2, rfl, b2⟩
    | k + 2, hk => simp at hk)
  exact W.vret hx hb hr (fun t ht hW => ⟨rfl, _, hgr.end_ hTa, hfin, by rw [ht]; exact hok, hw.2.F ht⟩) hw.2.2.2 dX3_init_14
set_option maxHeartbeats 4000000 in
set_option maxRecDepth 100000 in
theorem mX4_init (l : Launch) (D : hp_D) (T : hp_T) (a0 sz : Nat) (a1 : Nat) (hT0 : T a0 = none) (i1 : isTape T a1) : Met l yX4_init wsX4_init ({ frames := 1, cells := 1, slots := 400, locals := 12 }) (mk_Pc D T [.ref a0, .ref a1] (fun H => H.size = sz ∧ hp_o D H a0 4 (fun k => defaultValue (tyX4 k)))) (hq_m D T a0 (fun T1 => isRuleReader T1 a0)) 1 400 (fun q => q = a0 ∨ sz ≤ q) := by
  refine Met.ofW (cc := cX4_init) (maxL := 2) (ret := none) (by decide) rfl ?_
  intro p e s m args below meth c s₁ B hml hv
  obtain ⟨rfl, hok0, hMK, hsz0, ho⟩ := hv
  subst hsz0
  have hx := B.exec
  have hb := B.bytes
  have hr := B.returns
  have hts := atoms_spec (ws := wsX4_init) B.pre
  have hown : s.vm.findClass RX4 = some m.cls := findClass_of_methodNamed B.named
  have hlocks := B.notSynchronized
  have hin0 : meth.name = "<init>" := (name_of_methodNamed B.named B.method).1
  have hK := hMK.1
  have hw : mk_w D T (fun q => q = a0 ∨ s.heap.size ≤ q) s s.heap [] := ⟨hok0, va_S.rf⟩
  have hA : ∀ q, s.heap.size ≤ q → (fun q => q = a0 ∨ s.heap.size ≤ q) q := fun q h => Or.inr h
  have ha0 : a0 < s.heap.size := ho.lt
  have hTa : T a0 = none := hT0
  have hgr : hp_g0 T T s.heap.size := hp_g0.rf
  have hsz : s.heap.size ≤ s.heap.size := Nat.le_refl _
  have IX4 : ∀ w ∈ wsX40, w ∈ wsX4_init := by decide +kernel
  have ML := hts (.methodLink RX4 3 objectInit) (by decide +kernel)
  have IM := hts (.instanceMethod objectInit) (by decide +kernel)
  have CO := hts (.code objectInit ⟨#[0xb1]⟩ 1 none) (by decide +kernel)
  have ACint := hts (.arrayClass .int) (by decide +kernel)
  have L9 := hts (.fieldLink RX4 9 "PalmCensus$RuleReader" "steps" "[I") (by decide +kernel)
  have L15 := hts (.fieldLink RX4 15 "PalmCensus$RuleReader" "size" "I") (by decide +kernel)
  have L19 := hts (.fieldLink RX4 19 "PalmCensus$RuleReader" "counted" "I") (by decide +kernel)
  have L22 := hts (.fieldLink RX4 22 "PalmCensus$RuleReader" "mindsCrowd" "Z") (by decide +kernel)
  have L26 := hts (.fieldLink RX4 26 "PalmCensus$RuleReader" "tape" "LPalmCensus$Tape;") (by decide +kernel)
  have hl := lv_entry ([.ref a0, .ref a1]) (n := 2) (Nat.le_of_ble_eq_true rfl)
  rw [lg_entry_eq]
  generalize (lg_sl ([.ref a0, .ref a1]) ++ List.replicate (2 - (lg_sl ([.ref a0, .ref a1])).length) Slot.unset).toArray = ls at hl ⊢
  have hl : lv_has ls 2 [(0, .ref a0), (1, .ref a1)] := hl
  refine lv_aload_n hx hb dX4_init_0 rfl (lv_at hl 0 rfl) ?_
  refine W.objInit hx hb hown ML IM CO rfl (by rw [hml]; exact hl.1) rfl dX4_init_1 (Nat.le_of_ble_eq_true rfl) (Nat.le_of_ble_eq_true rfl) ?_
  refine W.eq (g2 := F0 m 4 ls []) rfl ?_
  refine lv_aload_n hx hb dX4_init_4 rfl (lv_at hl 0 rfl) ?_
  refine lv_sipush (v := 400) hx hb dX4_init_5 (by decide) ?_
  refine mk_newa (atype := .int) (t0 := 0) (N' := 400) (P := (fun _ => rA)) hx hb ACint rfl (fun C h => by cases h) rfl hK hw (fun j _ => ⟨0, rfl⟩) (by decide) (by decide) (by decide) (Nat.le_of_ble_eq_true rfl) (Nat.le_of_ble_eq_true rfl) dX4_init_8 (fun q8 H8 hw eq8 k8 nq8 => ?_)
  have zq8 : s.heap.size ≤ q8 := by rw [eq8]; exact hsz
  have ho := ho.kept (k8 a0 ho.lt)
  have g8 := hp_sub_up (ct := .inl (0, 400, (fun _ => rA))) nq8
  have hgr := hgr.up (ct := .inl (0, 400, (fun _ => rA))) zq8 nq8
  have hq8 := hp_up_s T q8 (.inl (0, 400, (fun _ => rA)))
  generalize hp_up T q8 (.inl (0, 400, (fun _ => rA))) = T8 at hw g8 hgr hq8
  have i1 : isTape T8 a1 := isTape.mono g8 i1
  have hTa : T8 a0 = none := hgr.nn hT0 ha0
  have hsz : s.heap.size ≤ H8.size := hw.2.1
  refine W.widen (k := 1) (n := 400) (by omega) (by omega) ?_
  refine mk_putF hx hb hts IX4 tyX4 tyX4_ok nmX4 hown hK hw ho hTa (Or.inl rfl) rfl 1 (by decide) L9 rfl hin0 rfl rfl rfl dX4_init_10 (fun H10 locs10 hw ho => ?_)
  have hsz : s.heap.size ≤ H10.size := hw.2.1
  refine lv_aload_n hx hb dX4_init_13 rfl (lv_at hl 0 rfl) ?_
  refine lv_iconst (v := 0) hx hb dX4_init_14 (by decide) ?_
  refine mk_put hx hb hts IX4 tyX4 tyX4_ok nmX4 hown hK hw ho hTa (Or.inl rfl) rfl 2 (by decide) L15 rfl rfl rfl dX4_init_15 (fun H15 locs15 hw ho => ?_)
  have hsz : s.heap.size ≤ H15.size := hw.2.1
  refine lv_aload_n hx hb dX4_init_18 rfl (lv_at hl 0 rfl) ?_
  refine lv_iconst (v := 0) hx hb dX4_init_19 (by decide) ?_
  refine mk_put hx hb hts IX4 tyX4 tyX4_ok nmX4 hown hK hw ho hTa (Or.inl rfl) rfl 3 (by decide) L19 rfl rfl rfl dX4_init_20 (fun H20 locs20 hw ho => ?_)
  have hsz : s.heap.size ≤ H20.size := hw.2.1
  refine lv_aload_n hx hb dX4_init_23 rfl (lv_at hl 0 rfl) ?_
  refine lv_iconst (v := 0) hx hb dX4_init_24 (by decide) ?_
  refine mk_put hx hb hts IX4 tyX4 tyX4_ok nmX4 hown hK hw ho hTa (Or.inl rfl) rfl 4 (by decide) L22 rfl (by decide) (by decide) dX4_init_25 (fun H25 locs25 hw ho => ?_)
  have hsz : s.heap.size ≤ H25.size := hw.2.1
  refine lv_aload_n hx hb dX4_init_28 rfl (lv_at hl 0 rfl) ?_
  refine lv_aload_n hx hb dX4_init_29 rfl (lv_at hl 1 rfl) ?_
  refine mk_putF hx hb hts IX4 tyX4 tyX4_ok nmX4 hown hK hw ho hTa (Or.inl rfl) rfl 0 (by decide) L26 rfl hin0 rfl rfl rfl dX4_init_30 (fun H30 locs30 hw ho => ?_)
  have hsz : s.heap.size ≤ H30.size := hw.2.1
  have hsu := hp_sub_up (ct := .inr (4, [(rR a1), (rR q8), (rI 0 400), rA, (rI 0 1)])) hTa
  have hfin : isRuleReader (hp_up T8 a0 (.inr (4, [(rR a1), (rR q8), (rI 0 400), rA, (rI 0 1)]))) a0 := ⟨a1, q8, hp_up_s _ _ _, isTape.mono hsu i1, hsu _ _ hq8⟩
  have hok : hp_ok D (hp_up T8 a0 (.inr (4, [(rR a1), (rR q8), (rI 0 400), rA, (rI 0 1)]))) H30 := mk_end hw.1 hTa ho (by
    intro k P hk
    match k, hk with
    | 0, hk => cases hk; exact rfl
    | 1, hk => cases hk; exact rfl
    | 2, hk => cases hk; exact ⟨0, rfl, ⟨by decide, by decide⟩⟩
    | 3, hk => cases hk; exact ⟨0, rfl⟩
    | 4, hk => cases hk; exact ⟨0, rfl, ⟨by decide, by decide⟩⟩
    | k + 5, hk => simp at hk)
  exact W.vret hx hb hr (fun t ht hW => ⟨rfl, _, hgr.end_ hTa, hfin, by rw [ht]; exact hok, hw.2.F ht⟩) hw.2.2.2 dX4_init_33
set_option maxHeartbeats 4000000 in
set_option maxRecDepth 100000 in
theorem mX1_init (l : Launch) (D : hp_D) (T : hp_T) (a0 sz : Nat) (hT0 : T a0 = none) : Met l yX1_init wsX1_init ({ frames := 2, cells := 12, slots := 333, locals := 43 }) (mk_Pc D T [.ref a0] (fun H => H.size = sz ∧ hp_o D H a0 1 (fun k => defaultValue (tyX1 k)))) (hq_m D T a0 (fun T1 => isMemory T1 a0 (rV (.int 0)))) 12 333 (fun q => q = a0 ∨ sz ≤ q) := by
  refine Met.ofW (cc := cX1_init) (maxL := 1) (ret := none) (by decide) rfl ?_
  intro p e s m args below meth c s₁ B hml hv
  obtain ⟨rfl, hok0, hMK, hsz0, ho⟩ := hv
  subst hsz0
  have hx := B.exec
  have hb := B.bytes
  have hr := B.returns
  have hts := atoms_spec (ws := wsX1_init) B.pre
  have hown : s.vm.findClass RX1 = some m.cls := findClass_of_methodNamed B.named
  have hlocks := B.notSynchronized
  have hin0 : meth.name = "<init>" := (name_of_methodNamed B.named B.method).1
  have hK := hMK.1
  have hw : mk_w D T (fun q => q = a0 ∨ s.heap.size ≤ q) s s.heap [] := ⟨hok0, va_S.rf⟩
  have hA : ∀ q, s.heap.size ≤ q → (fun q => q = a0 ∨ s.heap.size ≤ q) q := fun q h => Or.inr h
  have ha0 : a0 < s.heap.size := ho.lt
  have hTa : T a0 = none := hT0
  have hgr : hp_g0 T T s.heap.size := hp_g0.rf
  have hsz : s.heap.size ≤ s.heap.size := Nat.le_refl _
  have IX1 : ∀ w ∈ wsX10, w ∈ wsX1_init := by decide +kernel
  have IX8 : ∀ w ∈ wsX80, w ∈ wsX1_init := by decide +kernel
  have ML := hts (.methodLink RX1 3 objectInit) (by decide +kernel)
  have IM := hts (.instanceMethod objectInit) (by decide +kernel)
  have CO := hts (.code objectInit ⟨#[0xb1]⟩ 1 none) (by decide +kernel)
  have CL9 := hts (.classLink RX1 9 RX8) (by decide +kernel)
  have ISX8 := hts (.instantiable RX8 11) (by decide +kernel)
  have INX8 := hts (.initialized RX8) (by decide +kernel)
  have IMX8_init := hts (.instanceMethod yX8_init) (by decide +kernel)
  have LK11 := hts (.methodLink RX1 11 yX8_init) (by decide +kernel)
  have L12 := hts (.fieldLink RX1 12 "PalmCensus$Memory" "town" "LPalmCensus$Town;") (by decide +kernel)
  have L18 := hts (.fieldLink RX1 18 "PalmCensus$Memory" "force" "I") (by decide +kernel)
  have L22 := hts (.fieldLink RX1 22 "PalmCensus$Memory" "x" "I") (by decide +kernel)
  have L25 := hts (.fieldLink RX1 25 "PalmCensus$Memory" "toldCount" "I") (by decide +kernel)
  have ACint := hts (.arrayClass .int) (by decide +kernel)
  have L28 := hts (.fieldLink RX1 28 "PalmCensus$Memory" "toldGate" "[I") (by decide +kernel)
  have L32 := hts (.fieldLink RX1 32 "PalmCensus$Memory" "toldHour" "[I") (by decide +kernel)
  have L35 := hts (.fieldLink RX1 35 "PalmCensus$Memory" "toldSum" "[I") (by decide +kernel)
  have L38 := hts (.fieldLink RX1 38 "PalmCensus$Memory" "palms" "[I") (by decide +kernel)
  have L41 := hts (.fieldLink RX1 41 "PalmCensus$Memory" "acts" "I") (by decide +kernel)
  have L44 := hts (.fieldLink RX1 44 "PalmCensus$Memory" "actKind" "[I") (by decide +kernel)
  have L47 := hts (.fieldLink RX1 47 "PalmCensus$Memory" "actOf" "[I") (by decide +kernel)
  have L50 := hts (.fieldLink RX1 50 "PalmCensus$Memory" "actHour" "[I") (by decide +kernel)
  have L53 := hts (.fieldLink RX1 53 "PalmCensus$Memory" "actWas" "[I") (by decide +kernel)
  have hl := lv_entry ([.ref a0]) (n := 1) (Nat.le_of_ble_eq_true rfl)
  rw [lg_entry_eq]
  generalize (lg_sl ([.ref a0]) ++ List.replicate (1 - (lg_sl ([.ref a0])).length) Slot.unset).toArray = ls at hl ⊢
  have hl : lv_has ls 1 [(0, .ref a0)] := hl
  refine lv_aload_n hx hb dX1_init_0 rfl (lv_at hl 0 rfl) ?_
  refine W.objInit hx hb hown ML IM CO rfl (by rw [hml]; exact hl.1) rfl dX1_init_1 (Nat.le_of_ble_eq_true rfl) (Nat.le_of_ble_eq_true rfl) ?_
  refine W.eq (g2 := F0 m 4 ls []) rfl ?_
  refine lv_aload_n hx hb dX1_init_4 rfl (lv_at hl 0 rfl) ?_
  refine mk_new (ci := 8) (C := RX8) (TT := TX8) (N := 11) hx hb hts IX8 tyX8 tyX8_ok hown CL9 ISX8 INX8 hK hw rfl (Nat.le_of_ble_eq_true rfl) (Nat.le_of_ble_eq_true rfl) dX1_init_5 (fun q5 H5 hw oq5 eq5 k5 nq5 => ?_)
  have zq5 : s.heap.size ≤ q5 := by rw [eq5]; exact hsz
  have lq5 : q5 < H5.size := oq5.lt
  have ho := ho.kept (k5 a0 ho.lt)
  have hsz : s.heap.size ≤ H5.size := hw.2.1
  refine W.widen (k := 1) (n := 11) (by omega) (by omega) ?_
  refine lv_dup hx hb dX1_init_8 rfl ?_
  refine mk_call (va_runI (As := []) (rest := [.ref q5, .ref a0]) ⟨hx, hb, hml, hown, hts⟩ (mX8_init l D T q5 H5.size nq5) (cwI 0 hts gX1_init_X8_init rfl rfl rfl INX8 LK11 IMX8_init rfl (by decide +kernel) ⟨Nat.le_of_ble_eq_true rfl, Nat.le_of_ble_eq_true rfl⟩) (mk_pre hMK hw ⟨rfl, oq5⟩) rfl rfl hl.1 rfl (lv_room (Nat.le_of_ble_eq_true rfl)) dX1_init_9 ⟨Nat.le_of_ble_eq_true rfl, Nat.le_of_ble_eq_true rfl⟩) hw hA zq5 (fun T9 H9 locs9 iq5 hw x9 k9 => ?_)
  have ho := ho.kept (k9 a0 ho.lt (fun h => absurd zq5 (by rw [← h]; exact Nat.not_le.mpr ha0)))
  have hgr := hgr.call x9 hsz zq5
  have hTa : T9 a0 = none := hgr.nn hT0 ha0
  have hsz : s.heap.size ≤ H9.size := hw.2.1
  refine mk_putF hx hb hts IX1 tyX1 tyX1_ok nmX1 hown hK hw ho hTa (Or.inl rfl) rfl 0 (by decide) L12 rfl hin0 rfl rfl rfl dX1_init_12 (fun H12 locs12 hw ho => ?_)
  have hsz : s.heap.size ≤ H12.size := hw.2.1
  refine lv_aload_n hx hb dX1_init_15 rfl (lv_at hl 0 rfl) ?_
  refine lv_iconst (v := (-1)) hx hb dX1_init_16 (by decide) ?_
  refine mk_put hx hb hts IX1 tyX1 tyX1_ok nmX1 hown hK hw ho hTa (Or.inl rfl) rfl 1 (by decide) L18 rfl rfl rfl dX1_init_17 (fun H17 locs17 hw ho => ?_)
  have hsz : s.heap.size ≤ H17.size := hw.2.1
  refine lv_aload_n hx hb dX1_init_20 rfl (lv_at hl 0 rfl) ?_
  refine lv_iconst (v := 0) hx hb dX1_init_21 (by decide) ?_
  refine mk_put hx hb hts IX1 tyX1 tyX1_ok nmX1 hown hK hw ho hTa (Or.inl rfl) rfl 2 (by decide) L22 rfl rfl rfl dX1_init_22 (fun H22 locs22 hw ho => ?_)
  have hsz : s.heap.size ≤ H22.size := hw.2.1
  refine lv_aload_n hx hb dX1_init_25 rfl (lv_at hl 0 rfl) ?_
  refine lv_iconst (v := 0) hx hb dX1_init_26 (by decide) ?_
  refine mk_put hx hb hts IX1 tyX1 tyX1_ok nmX1 hown hK hw ho hTa (Or.inl rfl) rfl 3 (by decide) L25 rfl rfl rfl dX1_init_27 (fun H27 locs27 hw ho => ?_)
  have hsz : s.heap.size ≤ H27.size := hw.2.1
  refine lv_aload_n hx hb dX1_init_30 rfl (lv_at hl 0 rfl) ?_
  refine lv_bipush (v := 10) hx hb dX1_init_31 (by decide) ?_
  refine mk_newa (atype := .int) (t0 := 0) (N' := 10) (P := (fun _ => rA)) hx hb ACint rfl (fun C h => by cases h) rfl hK hw (fun j _ => ⟨0, rfl⟩) (by decide) (by decide) (by decide) (Nat.le_of_ble_eq_true rfl) (Nat.le_of_ble_eq_true rfl) dX1_init_33 (fun q33 H33 hw eq33 k33 nq33 => ?_)
  have zq33 : s.heap.size ≤ q33 := by rw [eq33]; exact hsz
  have ho := ho.kept (k33 a0 ho.lt)
  have g33 := hp_sub_up (ct := .inl (0, 10, (fun _ => rA))) nq33
  have hgr := hgr.up (ct := .inl (0, 10, (fun _ => rA))) zq33 nq33
  have hq33 := hp_up_s T9 q33 (.inl (0, 10, (fun _ => rA)))
  generalize hp_up T9 q33 (.inl (0, 10, (fun _ => rA))) = T33 at hw g33 hgr hq33
  have iq5 : isTown T33 q5 := isTown.mono g33 iq5
  have hTa : T33 a0 = none := hgr.nn hT0 ha0
  have hsz : s.heap.size ≤ H33.size := hw.2.1
  refine W.widen (k := 5) (n := 223) (by omega) (by omega) ?_
  refine mk_putF hx hb hts IX1 tyX1 tyX1_ok nmX1 hown hK hw ho hTa (Or.inl rfl) rfl 4 (by decide) L28 rfl hin0 rfl rfl rfl dX1_init_35 (fun H35 locs35 hw ho => ?_)
  have hsz : s.heap.size ≤ H35.size := hw.2.1
  refine lv_aload_n hx hb dX1_init_38 rfl (lv_at hl 0 rfl) ?_
  refine lv_bipush (v := 10) hx hb dX1_init_39 (by decide) ?_
  refine mk_newa (atype := .int) (t0 := 0) (N' := 10) (P := (fun _ => rA)) hx hb ACint rfl (fun C h => by cases h) rfl hK hw (fun j _ => ⟨0, rfl⟩) (by decide) (by decide) (by decide) (Nat.le_of_ble_eq_true rfl) (Nat.le_of_ble_eq_true rfl) dX1_init_41 (fun q41 H41 hw eq41 k41 nq41 => ?_)
  have zq41 : s.heap.size ≤ q41 := by rw [eq41]; exact hsz
  have ho := ho.kept (k41 a0 ho.lt)
  have g41 := hp_sub_up (ct := .inl (0, 10, (fun _ => rA))) nq41
  have hgr := hgr.up (ct := .inl (0, 10, (fun _ => rA))) zq41 nq41
  have hq41 := hp_up_s T33 q41 (.inl (0, 10, (fun _ => rA)))
  generalize hp_up T33 q41 (.inl (0, 10, (fun _ => rA))) = T41 at hw g41 hgr hq41
  have iq5 : isTown T41 q5 := isTown.mono g41 iq5
  have hq33 : T41 q33 = some (.inl (0, 10, (fun _ => rA))) := g41 _ _ hq33
  have hTa : T41 a0 = none := hgr.nn hT0 ha0
  have hsz : s.heap.size ≤ H41.size := hw.2.1
  refine W.widen (k := 6) (n := 233) (by omega) (by omega) ?_
  refine mk_putF hx hb hts IX1 tyX1 tyX1_ok nmX1 hown hK hw ho hTa (Or.inl rfl) rfl 5 (by decide) L32 rfl hin0 rfl rfl rfl dX1_init_43 (fun H43 locs43 hw ho => ?_)
  have hsz : s.heap.size ≤ H43.size := hw.2.1
  refine lv_aload_n hx hb dX1_init_46 rfl (lv_at hl 0 rfl) ?_
  refine lv_bipush (v := 10) hx hb dX1_init_47 (by decide) ?_
  refine mk_newa (atype := .int) (t0 := 0) (N' := 10) (P := (fun _ => rA)) hx hb ACint rfl (fun C h => by cases h) rfl hK hw (fun j _ => ⟨0, rfl⟩) (by decide) (by decide) (by decide) (Nat.le_of_ble_eq_true rfl) (Nat.le_of_ble_eq_true rfl) dX1_init_49 (fun q49 H49 hw eq49 k49 nq49 => ?_)
  have zq49 : s.heap.size ≤ q49 := by rw [eq49]; exact hsz
  have ho := ho.kept (k49 a0 ho.lt)
  have g49 := hp_sub_up (ct := .inl (0, 10, (fun _ => rA))) nq49
  have hgr := hgr.up (ct := .inl (0, 10, (fun _ => rA))) zq49 nq49
  have hq49 := hp_up_s T41 q49 (.inl (0, 10, (fun _ => rA)))
  generalize hp_up T41 q49 (.inl (0, 10, (fun _ => rA))) = T49 at hw g49 hgr hq49
  have iq5 : isTown T49 q5 := isTown.mono g49 iq5
  have hq33 : T49 q33 = some (.inl (0, 10, (fun _ => rA))) := g49 _ _ hq33
  have hq41 : T49 q41 = some (.inl (0, 10, (fun _ => rA))) := g49 _ _ hq41
  have hTa : T49 a0 = none := hgr.nn hT0 ha0
  have hsz : s.heap.size ≤ H49.size := hw.2.1
  refine W.widen (k := 7) (n := 243) (by omega) (by omega) ?_
  refine mk_putF hx hb hts IX1 tyX1 tyX1_ok nmX1 hown hK hw ho hTa (Or.inl rfl) rfl 6 (by decide) L35 rfl hin0 rfl rfl rfl dX1_init_51 (fun H51 locs51 hw ho => ?_)
  have hsz : s.heap.size ≤ H51.size := hw.2.1
  refine lv_aload_n hx hb dX1_init_54 rfl (lv_at hl 0 rfl) ?_
  refine lv_bipush (v := 10) hx hb dX1_init_55 (by decide) ?_
  refine mk_newa (atype := .int) (t0 := 0) (N' := 10) (P := (fun _ => rA)) hx hb ACint rfl (fun C h => by cases h) rfl hK hw (fun j _ => ⟨0, rfl⟩) (by decide) (by decide) (by decide) (Nat.le_of_ble_eq_true rfl) (Nat.le_of_ble_eq_true rfl) dX1_init_57 (fun q57 H57 hw eq57 k57 nq57 => ?_)
  have zq57 : s.heap.size ≤ q57 := by rw [eq57]; exact hsz
  have ho := ho.kept (k57 a0 ho.lt)
  have g57 := hp_sub_up (ct := .inl (0, 10, (fun _ => rA))) nq57
  have hgr := hgr.up (ct := .inl (0, 10, (fun _ => rA))) zq57 nq57
  have hq57 := hp_up_s T49 q57 (.inl (0, 10, (fun _ => rA)))
  generalize hp_up T49 q57 (.inl (0, 10, (fun _ => rA))) = T57 at hw g57 hgr hq57
  have iq5 : isTown T57 q5 := isTown.mono g57 iq5
  have hq33 : T57 q33 = some (.inl (0, 10, (fun _ => rA))) := g57 _ _ hq33
  have hq41 : T57 q41 = some (.inl (0, 10, (fun _ => rA))) := g57 _ _ hq41
  have hq49 : T57 q49 = some (.inl (0, 10, (fun _ => rA))) := g57 _ _ hq49
  have hTa : T57 a0 = none := hgr.nn hT0 ha0
  have hsz : s.heap.size ≤ H57.size := hw.2.1
  refine W.widen (k := 8) (n := 253) (by omega) (by omega) ?_
  refine mk_putF hx hb hts IX1 tyX1 tyX1_ok nmX1 hown hK hw ho hTa (Or.inl rfl) rfl 7 (by decide) L38 rfl hin0 rfl rfl rfl dX1_init_59 (fun H59 locs59 hw ho => ?_)
  have hsz : s.heap.size ≤ H59.size := hw.2.1
  refine lv_aload_n hx hb dX1_init_62 rfl (lv_at hl 0 rfl) ?_
  refine lv_iconst (v := 0) hx hb dX1_init_63 (by decide) ?_
  refine mk_put hx hb hts IX1 tyX1 tyX1_ok nmX1 hown hK hw ho hTa (Or.inl rfl) rfl 8 (by decide) L41 rfl rfl rfl dX1_init_64 (fun H64 locs64 hw ho => ?_)
  have hsz : s.heap.size ≤ H64.size := hw.2.1
  refine lv_aload_n hx hb dX1_init_67 rfl (lv_at hl 0 rfl) ?_
  refine lv_bipush (v := 20) hx hb dX1_init_68 (by decide) ?_
  refine mk_newa (atype := .int) (t0 := 0) (N' := 20) (P := (fun _ => rA)) hx hb ACint rfl (fun C h => by cases h) rfl hK hw (fun j _ => ⟨0, rfl⟩) (by decide) (by decide) (by decide) (Nat.le_of_ble_eq_true rfl) (Nat.le_of_ble_eq_true rfl) dX1_init_70 (fun q70 H70 hw eq70 k70 nq70 => ?_)
  have zq70 : s.heap.size ≤ q70 := by rw [eq70]; exact hsz
  have ho := ho.kept (k70 a0 ho.lt)
  have g70 := hp_sub_up (ct := .inl (0, 20, (fun _ => rA))) nq70
  have hgr := hgr.up (ct := .inl (0, 20, (fun _ => rA))) zq70 nq70
  have hq70 := hp_up_s T57 q70 (.inl (0, 20, (fun _ => rA)))
  generalize hp_up T57 q70 (.inl (0, 20, (fun _ => rA))) = T70 at hw g70 hgr hq70
  have iq5 : isTown T70 q5 := isTown.mono g70 iq5
  have hq33 : T70 q33 = some (.inl (0, 10, (fun _ => rA))) := g70 _ _ hq33
  have hq41 : T70 q41 = some (.inl (0, 10, (fun _ => rA))) := g70 _ _ hq41
  have hq49 : T70 q49 = some (.inl (0, 10, (fun _ => rA))) := g70 _ _ hq49
  have hq57 : T70 q57 = some (.inl (0, 10, (fun _ => rA))) := g70 _ _ hq57
  have hTa : T70 a0 = none := hgr.nn hT0 ha0
  have hsz : s.heap.size ≤ H70.size := hw.2.1
  refine W.widen (k := 9) (n := 273) (by omega) (by omega) ?_
  refine mk_putF hx hb hts IX1 tyX1 tyX1_ok nmX1 hown hK hw ho hTa (Or.inl rfl) rfl 9 (by decide) L44 rfl hin0 rfl rfl rfl dX1_init_72 (fun H72 locs72 hw ho => ?_)
  have hsz : s.heap.size ≤ H72.size := hw.2.1
  refine lv_aload_n hx hb dX1_init_75 rfl (lv_at hl 0 rfl) ?_
  refine lv_bipush (v := 20) hx hb dX1_init_76 (by decide) ?_
  refine mk_newa (atype := .int) (t0 := 0) (N' := 20) (P := (fun _ => rA)) hx hb ACint rfl (fun C h => by cases h) rfl hK hw (fun j _ => ⟨0, rfl⟩) (by decide) (by decide) (by decide) (Nat.le_of_ble_eq_true rfl) (Nat.le_of_ble_eq_true rfl) dX1_init_78 (fun q78 H78 hw eq78 k78 nq78 => ?_)
  have zq78 : s.heap.size ≤ q78 := by rw [eq78]; exact hsz
  have ho := ho.kept (k78 a0 ho.lt)
  have g78 := hp_sub_up (ct := .inl (0, 20, (fun _ => rA))) nq78
  have hgr := hgr.up (ct := .inl (0, 20, (fun _ => rA))) zq78 nq78
  have hq78 := hp_up_s T70 q78 (.inl (0, 20, (fun _ => rA)))
  generalize hp_up T70 q78 (.inl (0, 20, (fun _ => rA))) = T78 at hw g78 hgr hq78
  have iq5 : isTown T78 q5 := isTown.mono g78 iq5
  have hq33 : T78 q33 = some (.inl (0, 10, (fun _ => rA))) := g78 _ _ hq33
  have hq41 : T78 q41 = some (.inl (0, 10, (fun _ => rA))) := g78 _ _ hq41
  have hq49 : T78 q49 = some (.inl (0, 10, (fun _ => rA))) := g78 _ _ hq49
  have hq57 : T78 q57 = some (.inl (0, 10, (fun _ => rA))) := g78 _ _ hq57
  have hq70 : T78 q70 = some (.inl (0, 20, (fun _ => rA))) := g78 _ _ hq70
  have hTa : T78 a0 = none := hgr.nn hT0 ha0
  have hsz : s.heap.size ≤ H78.size := hw.2.1
  refine W.widen (k := 10) (n := 293) (by omega) (by omega) ?_
  refine mk_putF hx hb hts IX1 tyX1 tyX1_ok nmX1 hown hK hw ho hTa (Or.inl rfl) rfl 10 (by decide) L47 rfl hin0 rfl rfl rfl dX1_init_80 (fun H80 locs80 hw ho => ?_)
  have hsz : s.heap.size ≤ H80.size := hw.2.1
  refine lv_aload_n hx hb dX1_init_83 rfl (lv_at hl 0 rfl) ?_
  refine lv_bipush (v := 20) hx hb dX1_init_84 (by decide) ?_
  refine mk_newa (atype := .int) (t0 := 0) (N' := 20) (P := (fun _ => rA)) hx hb ACint rfl (fun C h => by cases h) rfl hK hw (fun j _ => ⟨0, rfl⟩) (by decide) (by decide) (by decide) (Nat.le_of_ble_eq_true rfl) (Nat.le_of_ble_eq_true rfl) dX1_init_86 (fun q86 H86 hw eq86 k86 nq86 => ?_)
  have zq86 : s.heap.size ≤ q86 := by rw [eq86]; exact hsz
  have ho := ho.kept (k86 a0 ho.lt)
  have g86 := hp_sub_up (ct := .inl (0, 20, (fun _ => rA))) nq86
  have hgr := hgr.up (ct := .inl (0, 20, (fun _ => rA))) zq86 nq86
  have hq86 := hp_up_s T78 q86 (.inl (0, 20, (fun _ => rA)))
  generalize hp_up T78 q86 (.inl (0, 20, (fun _ => rA))) = T86 at hw g86 hgr hq86
  have iq5 : isTown T86 q5 := isTown.mono g86 iq5
  have hq33 : T86 q33 = some (.inl (0, 10, (fun _ => rA))) := g86 _ _ hq33
  have hq41 : T86 q41 = some (.inl (0, 10, (fun _ => rA))) := g86 _ _ hq41
  have hq49 : T86 q49 = some (.inl (0, 10, (fun _ => rA))) := g86 _ _ hq49
  have hq57 : T86 q57 = some (.inl (0, 10, (fun _ => rA))) := g86 _ _ hq57
  have hq70 : T86 q70 = some (.inl (0, 20, (fun _ => rA))) := g86 _ _ hq70
  have hq78 : T86 q78 = some (.inl (0, 20, (fun _ => rA))) := g86 _ _ hq78
  have hTa : T86 a0 = none := hgr.nn hT0 ha0
  have hsz : s.heap.size ≤ H86.size := hw.2.1
  refine W.widen (k := 11) (n := 313) (by omega) (by omega) ?_
  refine mk_putF hx hb hts IX1 tyX1 tyX1_ok nmX1 hown hK hw ho hTa (Or.inl rfl) rfl 11 (by decide) L50 rfl hin0 rfl rfl rfl dX1_init_88 (fun H88 locs88 hw ho => ?_)
  have hsz : s.heap.size ≤ H88.size := hw.2.1
  refine lv_aload_n hx hb dX1_init_91 rfl (lv_at hl 0 rfl) ?_
  refine lv_bipush (v := 20) hx hb dX1_init_92 (by decide) ?_
  refine mk_newa (atype := .int) (t0 := 0) (N' := 20) (P := (fun _ => rA)) hx hb ACint rfl (fun C h => by cases h) rfl hK hw (fun j _ => ⟨0, rfl⟩) (by decide) (by decide) (by decide) (Nat.le_of_ble_eq_true rfl) (Nat.le_of_ble_eq_true rfl) dX1_init_94 (fun q94 H94 hw eq94 k94 nq94 => ?_)
  have zq94 : s.heap.size ≤ q94 := by rw [eq94]; exact hsz
  have ho := ho.kept (k94 a0 ho.lt)
  have g94 := hp_sub_up (ct := .inl (0, 20, (fun _ => rA))) nq94
  have hgr := hgr.up (ct := .inl (0, 20, (fun _ => rA))) zq94 nq94
  have hq94 := hp_up_s T86 q94 (.inl (0, 20, (fun _ => rA)))
  generalize hp_up T86 q94 (.inl (0, 20, (fun _ => rA))) = T94 at hw g94 hgr hq94
  have iq5 : isTown T94 q5 := isTown.mono g94 iq5
  have hq33 : T94 q33 = some (.inl (0, 10, (fun _ => rA))) := g94 _ _ hq33
  have hq41 : T94 q41 = some (.inl (0, 10, (fun _ => rA))) := g94 _ _ hq41
  have hq49 : T94 q49 = some (.inl (0, 10, (fun _ => rA))) := g94 _ _ hq49
  have hq57 : T94 q57 = some (.inl (0, 10, (fun _ => rA))) := g94 _ _ hq57
  have hq70 : T94 q70 = some (.inl (0, 20, (fun _ => rA))) := g94 _ _ hq70
  have hq78 : T94 q78 = some (.inl (0, 20, (fun _ => rA))) := g94 _ _ hq78
  have hq86 : T94 q86 = some (.inl (0, 20, (fun _ => rA))) := g94 _ _ hq86
  have hTa : T94 a0 = none := hgr.nn hT0 ha0
  have hsz : s.heap.size ≤ H94.size := hw.2.1
  refine W.widen (k := 12) (n := 333) (by omega) (by omega) ?_
  refine mk_putF hx hb hts IX1 tyX1 tyX1_ok nmX1 hown hK hw ho hTa (Or.inl rfl) rfl 12 (by decide) L53 rfl hin0 rfl rfl rfl dX1_init_96 (fun H96 locs96 hw ho => ?_)
  have hsz : s.heap.size ≤ H96.size := hw.2.1
  refine lv_aload_n hx hb dX1_init_99 rfl (lv_at hl 0 rfl) ?_
  refine mk_get (v := .ref q57) hx hb hts IX1 hown hK ho rfl 7 (by decide) L38 rfl dX1_init_100 ?_
  refine lv_iconst (v := (-1)) hx hb dX1_init_103 (by decide) ?_
  refine mk_one (va_runS (As := [.ref q57, .int (-1)]) (rest := []) ⟨hx, hb, hml, hown, hts⟩ (sM_fill l D (hp_one q57 (.inl (0, 10, (fun _ => rA)))) q57 ((-1) : Int32) 10 rA (hp_up_s _ _ _) (by decide) ⟨_, rfl⟩) (va_cwS 2 hts gX1_init_J7_fill_53178 rfl rfl rfl (by decide +kernel) ⟨Nat.le_of_ble_eq_true rfl, Nat.le_of_ble_eq_true rfl⟩) (mk_pre (T := hp_one q57 (.inl (0, 10, (fun _ => rA)))) (A := fun _ => True) (locs := []) hMK ⟨hp_one_ok hw.1 hq57, hw.2.1, fun _ _ h => absurd trivial h, fun _ _ => trivial⟩ trivial) rfl rfl hl.1 rfl (lv_room (Nat.le_of_ble_eq_true rfl)) dX1_init_104 ⟨Nat.le_of_ble_eq_true rfl, Nat.le_of_ble_eq_true rfl⟩) hw hq57 (Or.inr zq57) (fun H104 locs104 hw k104 s104 => ?_)
  have ho := ho.kept (k104 a0 ho.lt (fun h => absurd zq57 (by rw [← h]; exact Nat.not_le.mpr ha0)))
  have hsz : s.heap.size ≤ H104.size := hw.2.1
  have hsu := hp_sub_up (ct := .inr (1, [(rR q5), rA, (rV (.int 0)), (rI 0 10), (rR q33), (rR q41), (rR q49), (rR q57), (rI 0 20), (rR q70), (rR q78), (rR q86), (rR q94)])) hTa
  have hfin : isMemory (hp_up T94 a0 (.inr (1, [(rR q5), rA, (rV (.int 0)), (rI 0 10), (rR q33), (rR q41), (rR q49), (rR q57), (rI 0 20), (rR q70), (rR q78), (rR q86), (rR q94)]))) a0 (rV (.int 0)) := ⟨q5, q33, q41, q49, q57, q70, q78, q86, q94, hp_up_s _ _ _, isTown.mono hsu iq5, hsu _ _ hq33, hsu _ _ hq41, hsu _ _ hq49, hsu _ _ hq57, hsu _ _ hq70, hsu _ _ hq78, hsu _ _ hq86, hsu _ _ hq94⟩
  have hok : hp_ok D (hp_up T94 a0 (.inr (1, [(rR q5), rA, (rV (.int 0)), (rI 0 10), (rR q33), (rR q41), (rR q49), (rR q57), (rI 0 20), (rR q70), (rR q78), (rR q86), (rR q94)]))) H104 := mk_end hw.1 hTa ho (by
    intro k P hk
    match k, hk with
    | 0, hk => cases hk; exact rfl
    | 1, hk => cases hk; exact ⟨(-1), rfl⟩
    | 2, hk => cases hk; exact rfl
    | 3, hk => cases hk; exact ⟨0, rfl, ⟨by decide, by decide⟩⟩
    | 4, hk => cases hk; exact rfl
    | 5, hk => cases hk; exact rfl
    | 6, hk => cases hk; exact rfl
    | 7, hk => cases hk; exact rfl
    | 8, hk => cases hk; exact ⟨0, rfl, ⟨by decide, by decide⟩⟩
    | 9, hk => cases hk; exact rfl
    | 10, hk => cases hk; exact rfl
    | 11, hk => cases hk; exact rfl
    | 12, hk => cases hk; exact rfl
    | k + 13, hk => simp at hk)
  exact W.vret hx hb hr (fun t ht hW => ⟨rfl, _, hgr.end_ hTa, hfin, by rw [ht]; exact hok, hw.2.F ht⟩) hw.2.2.2 dX1_init_107
set_option maxHeartbeats 4000000 in
set_option maxRecDepth 100000 in
theorem mX5_init (l : Launch) (D : hp_D) (T : hp_T) (a0 sz : Nat) (Ru : Nat → Prop) (hT0 : T a0 = none) : Met l yX5_init wsX5_init ({ frames := 1, cells := 3, slots := 81, locals := 12 }) (mk_Pc D T [.ref a0] (fun H => H.size = sz ∧ hp_o D H a0 5 (fun k => defaultValue (tyX5 k)))) (hq_m D T a0 (fun T1 => isShaker T1 Ru a0)) 3 81 (fun q => q = a0 ∨ sz ≤ q) := by
  refine Met.ofW (cc := cX5_init) (maxL := 1) (ret := none) (by decide) rfl ?_
  intro p e s m args below meth c s₁ B hml hv
  obtain ⟨rfl, hok0, hMK, hsz0, ho⟩ := hv
  subst hsz0
  have hx := B.exec
  have hb := B.bytes
  have hr := B.returns
  have hts := atoms_spec (ws := wsX5_init) B.pre
  have hown : s.vm.findClass RX5 = some m.cls := findClass_of_methodNamed B.named
  have hlocks := B.notSynchronized
  have hin0 : meth.name = "<init>" := (name_of_methodNamed B.named B.method).1
  have hK := hMK.1
  have hw : mk_w D T (fun q => q = a0 ∨ s.heap.size ≤ q) s s.heap [] := ⟨hok0, va_S.rf⟩
  have hA : ∀ q, s.heap.size ≤ q → (fun q => q = a0 ∨ s.heap.size ≤ q) q := fun q h => Or.inr h
  have ha0 : a0 < s.heap.size := ho.lt
  have hTa : T a0 = none := hT0
  have hgr : hp_g0 T T s.heap.size := hp_g0.rf
  have hsz : s.heap.size ≤ s.heap.size := Nat.le_refl _
  have IX5 : ∀ w ∈ wsX50, w ∈ wsX5_init := by decide +kernel
  have ML := hts (.methodLink RX5 3 objectInit) (by decide +kernel)
  have IM := hts (.instanceMethod objectInit) (by decide +kernel)
  have CO := hts (.code objectInit ⟨#[0xb1]⟩ 1 none) (by decide +kernel)
  have L9 := hts (.fieldLink RX5 9 "PalmCensus$Shaker" "rule" "LPalmCensus$Rule;") (by decide +kernel)
  have AClong := hts (.arrayClass .long) (by decide +kernel)
  have L17 := hts (.fieldLink RX5 17 "PalmCensus$Shaker" "words" "[J") (by decide +kernel)
  have L21 := hts (.fieldLink RX5 21 "PalmCensus$Shaker" "stack" "[J") (by decide +kernel)
  have ACint := hts (.arrayClass .int) (by decide +kernel)
  have L24 := hts (.fieldLink RX5 24 "PalmCensus$Shaker" "there" "[I") (by decide +kernel)
  have hl := lv_entry ([.ref a0]) (n := 1) (Nat.le_of_ble_eq_true rfl)
  rw [lg_entry_eq]
  generalize (lg_sl ([.ref a0]) ++ List.replicate (1 - (lg_sl ([.ref a0])).length) Slot.unset).toArray = ls at hl ⊢
  have hl : lv_has ls 1 [(0, .ref a0)] := hl
  refine lv_aload_n hx hb dX5_init_0 rfl (lv_at hl 0 rfl) ?_
  refine W.objInit hx hb hown ML IM CO rfl (by rw [hml]; exact hl.1) rfl dX5_init_1 (Nat.le_of_ble_eq_true rfl) (Nat.le_of_ble_eq_true rfl) ?_
  refine W.eq (g2 := F0 m 4 ls []) rfl ?_
  refine lv_aload_n hx hb dX5_init_4 rfl (lv_at hl 0 rfl) ?_
  refine lv_null hx hb dX5_init_5 ?_
  refine mk_put hx hb hts IX5 tyX5 tyX5_ok nmX5 hown hK hw ho hTa (Or.inl rfl) rfl 0 (by decide) L9 rfl rfl rfl dX5_init_6 (fun H6 locs6 hw ho => ?_)
  have hsz : s.heap.size ≤ H6.size := hw.2.1
  refine lv_aload_n hx hb dX5_init_9 rfl (lv_at hl 0 rfl) ?_
  refine lv_bipush (v := 11) hx hb dX5_init_10 (by decide) ?_
  refine mk_newa (atype := .long) (t0 := 3) (N' := 11) (P := (fun _ => rL)) hx hb AClong rfl (fun C h => by cases h) rfl hK hw (fun j _ => ⟨0, rfl⟩) (by decide) (by decide) (by decide) (Nat.le_of_ble_eq_true rfl) (Nat.le_of_ble_eq_true rfl) dX5_init_12 (fun q12 H12 hw eq12 k12 nq12 => ?_)
  have zq12 : s.heap.size ≤ q12 := by rw [eq12]; exact hsz
  have ho := ho.kept (k12 a0 ho.lt)
  have g12 := hp_sub_up (ct := .inl (3, 11, (fun _ => rL))) nq12
  have hgr := hgr.up (ct := .inl (3, 11, (fun _ => rL))) zq12 nq12
  have hq12 := hp_up_s T q12 (.inl (3, 11, (fun _ => rL)))
  generalize hp_up T q12 (.inl (3, 11, (fun _ => rL))) = T12 at hw g12 hgr hq12
  have hTa : T12 a0 = none := hgr.nn hT0 ha0
  have hsz : s.heap.size ≤ H12.size := hw.2.1
  refine W.widen (k := 1) (n := 11) (by omega) (by omega) ?_
  refine mk_putF hx hb hts IX5 tyX5 tyX5_ok nmX5 hown hK hw ho hTa (Or.inl rfl) rfl 1 (by decide) L17 rfl hin0 rfl rfl rfl dX5_init_14 (fun H14 locs14 hw ho => ?_)
  have hsz : s.heap.size ≤ H14.size := hw.2.1
  refine lv_aload_n hx hb dX5_init_17 rfl (lv_at hl 0 rfl) ?_
  refine lv_bipush (v := 60) hx hb dX5_init_18 (by decide) ?_
  refine mk_newa (atype := .long) (t0 := 3) (N' := 60) (P := (fun _ => rL)) hx hb AClong rfl (fun C h => by cases h) rfl hK hw (fun j _ => ⟨0, rfl⟩) (by decide) (by decide) (by decide) (Nat.le_of_ble_eq_true rfl) (Nat.le_of_ble_eq_true rfl) dX5_init_20 (fun q20 H20 hw eq20 k20 nq20 => ?_)
  have zq20 : s.heap.size ≤ q20 := by rw [eq20]; exact hsz
  have ho := ho.kept (k20 a0 ho.lt)
  have g20 := hp_sub_up (ct := .inl (3, 60, (fun _ => rL))) nq20
  have hgr := hgr.up (ct := .inl (3, 60, (fun _ => rL))) zq20 nq20
  have hq20 := hp_up_s T12 q20 (.inl (3, 60, (fun _ => rL)))
  generalize hp_up T12 q20 (.inl (3, 60, (fun _ => rL))) = T20 at hw g20 hgr hq20
  have hq12 : T20 q12 = some (.inl (3, 11, (fun _ => rL))) := g20 _ _ hq12
  have hTa : T20 a0 = none := hgr.nn hT0 ha0
  have hsz : s.heap.size ≤ H20.size := hw.2.1
  refine W.widen (k := 2) (n := 71) (by omega) (by omega) ?_
  refine mk_putF hx hb hts IX5 tyX5 tyX5_ok nmX5 hown hK hw ho hTa (Or.inl rfl) rfl 2 (by decide) L21 rfl hin0 rfl rfl rfl dX5_init_22 (fun H22 locs22 hw ho => ?_)
  have hsz : s.heap.size ≤ H22.size := hw.2.1
  refine lv_aload_n hx hb dX5_init_25 rfl (lv_at hl 0 rfl) ?_
  refine lv_bipush (v := 10) hx hb dX5_init_26 (by decide) ?_
  refine mk_newa (atype := .int) (t0 := 0) (N' := 10) (P := (fun _ => (rI 0 9))) hx hb ACint rfl (fun C h => by cases h) rfl hK hw (fun j _ => ⟨0, rfl, by decide, by decide⟩) (by decide) (by decide) (by decide) (Nat.le_of_ble_eq_true rfl) (Nat.le_of_ble_eq_true rfl) dX5_init_28 (fun q28 H28 hw eq28 k28 nq28 => ?_)
  have zq28 : s.heap.size ≤ q28 := by rw [eq28]; exact hsz
  have ho := ho.kept (k28 a0 ho.lt)
  have g28 := hp_sub_up (ct := .inl (0, 10, (fun _ => (rI 0 9)))) nq28
  have hgr := hgr.up (ct := .inl (0, 10, (fun _ => (rI 0 9)))) zq28 nq28
  have hq28 := hp_up_s T20 q28 (.inl (0, 10, (fun _ => (rI 0 9))))
  generalize hp_up T20 q28 (.inl (0, 10, (fun _ => (rI 0 9)))) = T28 at hw g28 hgr hq28
  have hq12 : T28 q12 = some (.inl (3, 11, (fun _ => rL))) := g28 _ _ hq12
  have hq20 : T28 q20 = some (.inl (3, 60, (fun _ => rL))) := g28 _ _ hq20
  have hTa : T28 a0 = none := hgr.nn hT0 ha0
  have hsz : s.heap.size ≤ H28.size := hw.2.1
  refine W.widen (k := 3) (n := 81) (by omega) (by omega) ?_
  refine mk_putF hx hb hts IX5 tyX5 tyX5_ok nmX5 hown hK hw ho hTa (Or.inl rfl) rfl 3 (by decide) L24 rfl hin0 rfl rfl rfl dX5_init_30 (fun H30 locs30 hw ho => ?_)
  have hsz : s.heap.size ≤ H30.size := hw.2.1
  have hsu := hp_sub_up (ct := .inr (5, [(rN Ru), (rR q12), (rR q20), (rR q28)])) hTa
  have hfin : isShaker (hp_up T28 a0 (.inr (5, [(rN Ru), (rR q12), (rR q20), (rR q28)]))) Ru a0 := ⟨q12, q20, q28, hp_up_s _ _ _, hsu _ _ hq12, hsu _ _ hq20, hsu _ _ hq28⟩
  have hok : hp_ok D (hp_up T28 a0 (.inr (5, [(rN Ru), (rR q12), (rR q20), (rR q28)]))) H30 := mk_end hw.1 hTa ho (by
    intro k P hk
    match k, hk with
    | 0, hk => cases hk; exact Or.inl rfl
    | 1, hk => cases hk; exact rfl
    | 2, hk => cases hk; exact rfl
    | 3, hk => cases hk; exact rfl
    | k + 4, hk => simp at hk)
  exact W.vret hx hb hr (fun t ht hW => ⟨rfl, _, hgr.end_ hTa, hfin, by rw [ht]; exact hok, hw.2.F ht⟩) hw.2.2.2 dX5_init_33
set_option maxHeartbeats 4000000 in
set_option maxRecDepth 100000 in
theorem mX10_init (l : Launch) (D : hp_D) (T : hp_T) (a0 sz : Nat) (hT0 : T a0 = none) : Met l yX10_init wsX10_init ({ frames := 1, cells := 7, slots := 8278, locals := 12 }) (mk_Pc D T [.ref a0] (fun H => H.size = sz ∧ hp_o D H a0 10 (fun k => defaultValue (tyX10 k)))) (hq_m D T a0 (fun T1 => isWorlds T1 a0)) 7 8278 (fun q => q = a0 ∨ sz ≤ q) := by
  refine Met.ofW (cc := cX10_init) (maxL := 1) (ret := none) (by decide) rfl ?_
  intro p e s m args below meth c s₁ B hml hv
  obtain ⟨rfl, hok0, hMK, hsz0, ho⟩ := hv
  subst hsz0
  have hx := B.exec
  have hb := B.bytes
  have hr := B.returns
  have hts := atoms_spec (ws := wsX10_init) B.pre
  have hown : s.vm.findClass RX10 = some m.cls := findClass_of_methodNamed B.named
  have hlocks := B.notSynchronized
  have hin0 : meth.name = "<init>" := (name_of_methodNamed B.named B.method).1
  have hK := hMK.1
  have hw : mk_w D T (fun q => q = a0 ∨ s.heap.size ≤ q) s s.heap [] := ⟨hok0, va_S.rf⟩
  have hA : ∀ q, s.heap.size ≤ q → (fun q => q = a0 ∨ s.heap.size ≤ q) q := fun q h => Or.inr h
  have ha0 : a0 < s.heap.size := ho.lt
  have hTa : T a0 = none := hT0
  have hgr : hp_g0 T T s.heap.size := hp_g0.rf
  have hsz : s.heap.size ≤ s.heap.size := Nat.le_refl _
  have IX10 : ∀ w ∈ wsX100, w ∈ wsX10_init := by decide +kernel
  have ML := hts (.methodLink RX10 5 objectInit) (by decide +kernel)
  have IM := hts (.instanceMethod objectInit) (by decide +kernel)
  have CO := hts (.code objectInit ⟨#[0xb1]⟩ 1 none) (by decide +kernel)
  have L11 := hts (.fieldLink RX10 11 "PalmCensus$Worlds" "fitting" "I") (by decide +kernel)
  have L15 := hts (.fieldLink RX10 15 "PalmCensus$Worlds" "fewest" "I") (by decide +kernel)
  have L18 := hts (.fieldLink RX10 18 "PalmCensus$Worlds" "most" "I") (by decide +kernel)
  have L21 := hts (.fieldLink RX10 21 "PalmCensus$Worlds" "inEach" "I") (by decide +kernel)
  have L24 := hts (.fieldLink RX10 24 "PalmCensus$Worlds" "inNone" "I") (by decide +kernel)
  have ACboolean := hts (.arrayClass .boolean) (by decide +kernel)
  have L27 := hts (.fieldLink RX10 27 "PalmCensus$Worlds" "fits" "[Z") (by decide +kernel)
  have ACint := hts (.arrayClass .int) (by decide +kernel)
  have L31 := hts (.fieldLink RX10 31 "PalmCensus$Worlds" "worths" "[I") (by decide +kernel)
  have L35 := hts (.fieldLink RX10 35 "PalmCensus$Worlds" "sums" "[I") (by decide +kernel)
  have L38 := hts (.fieldLink RX10 38 "PalmCensus$Worlds" "shares" "[I") (by decide +kernel)
  have L41 := hts (.fieldLink RX10 41 "PalmCensus$Worlds" "members" "[I") (by decide +kernel)
  have L44 := hts (.fieldLink RX10 44 "PalmCensus$Worlds" "slotSum" "[I") (by decide +kernel)
  have L47 := hts (.fieldLink RX10 47 "PalmCensus$Worlds" "slotShare" "[I") (by decide +kernel)
  have hl := lv_entry ([.ref a0]) (n := 1) (Nat.le_of_ble_eq_true rfl)
  rw [lg_entry_eq]
  generalize (lg_sl ([.ref a0]) ++ List.replicate (1 - (lg_sl ([.ref a0])).length) Slot.unset).toArray = ls at hl ⊢
  have hl : lv_has ls 1 [(0, .ref a0)] := hl
  refine lv_aload_n hx hb dX10_init_0 rfl (lv_at hl 0 rfl) ?_
  refine W.objInit hx hb hown ML IM CO rfl (by rw [hml]; exact hl.1) rfl dX10_init_1 (Nat.le_of_ble_eq_true rfl) (Nat.le_of_ble_eq_true rfl) ?_
  refine W.eq (g2 := F0 m 4 ls []) rfl ?_
  refine lv_aload_n hx hb dX10_init_4 rfl (lv_at hl 0 rfl) ?_
  refine lv_iconst (v := 0) hx hb dX10_init_5 (by decide) ?_
  refine mk_put hx hb hts IX10 tyX10 tyX10_ok nmX10 hown hK hw ho hTa (Or.inl rfl) rfl 0 (by decide) L11 rfl rfl rfl dX10_init_6 (fun H6 locs6 hw ho => ?_)
  have hsz : s.heap.size ≤ H6.size := hw.2.1
  refine lv_aload_n hx hb dX10_init_9 rfl (lv_at hl 0 rfl) ?_
  refine lv_iconst (v := 0) hx hb dX10_init_10 (by decide) ?_
  refine mk_put hx hb hts IX10 tyX10 tyX10_ok nmX10 hown hK hw ho hTa (Or.inl rfl) rfl 1 (by decide) L15 rfl rfl rfl dX10_init_11 (fun H11 locs11 hw ho => ?_)
  have hsz : s.heap.size ≤ H11.size := hw.2.1
  refine lv_aload_n hx hb dX10_init_14 rfl (lv_at hl 0 rfl) ?_
  refine lv_iconst (v := 0) hx hb dX10_init_15 (by decide) ?_
  refine mk_put hx hb hts IX10 tyX10 tyX10_ok nmX10 hown hK hw ho hTa (Or.inl rfl) rfl 2 (by decide) L18 rfl rfl rfl dX10_init_16 (fun H16 locs16 hw ho => ?_)
  have hsz : s.heap.size ≤ H16.size := hw.2.1
  refine lv_aload_n hx hb dX10_init_19 rfl (lv_at hl 0 rfl) ?_
  refine lv_iconst (v := 0) hx hb dX10_init_20 (by decide) ?_
  refine mk_put hx hb hts IX10 tyX10 tyX10_ok nmX10 hown hK hw ho hTa (Or.inl rfl) rfl 3 (by decide) L21 rfl rfl rfl dX10_init_21 (fun H21 locs21 hw ho => ?_)
  have hsz : s.heap.size ≤ H21.size := hw.2.1
  refine lv_aload_n hx hb dX10_init_24 rfl (lv_at hl 0 rfl) ?_
  refine lv_iconst (v := 0) hx hb dX10_init_25 (by decide) ?_
  refine mk_put hx hb hts IX10 tyX10 tyX10_ok nmX10 hown hK hw ho hTa (Or.inl rfl) rfl 4 (by decide) L24 rfl rfl rfl dX10_init_26 (fun H26 locs26 hw ho => ?_)
  have hsz : s.heap.size ≤ H26.size := hw.2.1
  refine lv_aload_n hx hb dX10_init_29 rfl (lv_at hl 0 rfl) ?_
  refine lv_sipush (v := 1024) hx hb dX10_init_30 (by decide) ?_
  refine mk_newa (atype := .boolean) (t0 := 2) (N' := 1024) (P := (fun _ => rA)) hx hb ACboolean rfl (fun C h => by cases h) rfl hK hw (fun j _ => ⟨0, rfl⟩) (by decide) (by decide) (by decide) (Nat.le_of_ble_eq_true rfl) (Nat.le_of_ble_eq_true rfl) dX10_init_33 (fun q33 H33 hw eq33 k33 nq33 => ?_)
  have zq33 : s.heap.size ≤ q33 := by rw [eq33]; exact hsz
  have ho := ho.kept (k33 a0 ho.lt)
  have g33 := hp_sub_up (ct := .inl (2, 1024, (fun _ => rA))) nq33
  have hgr := hgr.up (ct := .inl (2, 1024, (fun _ => rA))) zq33 nq33
  have hq33 := hp_up_s T q33 (.inl (2, 1024, (fun _ => rA)))
  generalize hp_up T q33 (.inl (2, 1024, (fun _ => rA))) = T33 at hw g33 hgr hq33
  have hTa : T33 a0 = none := hgr.nn hT0 ha0
  have hsz : s.heap.size ≤ H33.size := hw.2.1
  refine W.widen (k := 1) (n := 1024) (by omega) (by omega) ?_
  refine mk_putF hx hb hts IX10 tyX10 tyX10_ok nmX10 hown hK hw ho hTa (Or.inl rfl) rfl 5 (by decide) L27 rfl hin0 rfl rfl rfl dX10_init_35 (fun H35 locs35 hw ho => ?_)
  have hsz : s.heap.size ≤ H35.size := hw.2.1
  refine lv_aload_n hx hb dX10_init_38 rfl (lv_at hl 0 rfl) ?_
  refine lv_sipush (v := 1100) hx hb dX10_init_39 (by decide) ?_
  refine mk_newa (atype := .int) (t0 := 0) (N' := 1100) (P := (fun _ => rA)) hx hb ACint rfl (fun C h => by cases h) rfl hK hw (fun j _ => ⟨0, rfl⟩) (by decide) (by decide) (by decide) (Nat.le_of_ble_eq_true rfl) (Nat.le_of_ble_eq_true rfl) dX10_init_42 (fun q42 H42 hw eq42 k42 nq42 => ?_)
  have zq42 : s.heap.size ≤ q42 := by rw [eq42]; exact hsz
  have ho := ho.kept (k42 a0 ho.lt)
  have g42 := hp_sub_up (ct := .inl (0, 1100, (fun _ => rA))) nq42
  have hgr := hgr.up (ct := .inl (0, 1100, (fun _ => rA))) zq42 nq42
  have hq42 := hp_up_s T33 q42 (.inl (0, 1100, (fun _ => rA)))
  generalize hp_up T33 q42 (.inl (0, 1100, (fun _ => rA))) = T42 at hw g42 hgr hq42
  have hq33 : T42 q33 = some (.inl (2, 1024, (fun _ => rA))) := g42 _ _ hq33
  have hTa : T42 a0 = none := hgr.nn hT0 ha0
  have hsz : s.heap.size ≤ H42.size := hw.2.1
  refine W.widen (k := 2) (n := 2124) (by omega) (by omega) ?_
  refine mk_putF hx hb hts IX10 tyX10 tyX10_ok nmX10 hown hK hw ho hTa (Or.inl rfl) rfl 6 (by decide) L31 rfl hin0 rfl rfl rfl dX10_init_44 (fun H44 locs44 hw ho => ?_)
  have hsz : s.heap.size ≤ H44.size := hw.2.1
  refine lv_aload_n hx hb dX10_init_47 rfl (lv_at hl 0 rfl) ?_
  refine lv_sipush (v := 1024) hx hb dX10_init_48 (by decide) ?_
  refine mk_newa (atype := .int) (t0 := 0) (N' := 1024) (P := (fun _ => rA)) hx hb ACint rfl (fun C h => by cases h) rfl hK hw (fun j _ => ⟨0, rfl⟩) (by decide) (by decide) (by decide) (Nat.le_of_ble_eq_true rfl) (Nat.le_of_ble_eq_true rfl) dX10_init_51 (fun q51 H51 hw eq51 k51 nq51 => ?_)
  have zq51 : s.heap.size ≤ q51 := by rw [eq51]; exact hsz
  have ho := ho.kept (k51 a0 ho.lt)
  have g51 := hp_sub_up (ct := .inl (0, 1024, (fun _ => rA))) nq51
  have hgr := hgr.up (ct := .inl (0, 1024, (fun _ => rA))) zq51 nq51
  have hq51 := hp_up_s T42 q51 (.inl (0, 1024, (fun _ => rA)))
  generalize hp_up T42 q51 (.inl (0, 1024, (fun _ => rA))) = T51 at hw g51 hgr hq51
  have hq33 : T51 q33 = some (.inl (2, 1024, (fun _ => rA))) := g51 _ _ hq33
  have hq42 : T51 q42 = some (.inl (0, 1100, (fun _ => rA))) := g51 _ _ hq42
  have hTa : T51 a0 = none := hgr.nn hT0 ha0
  have hsz : s.heap.size ≤ H51.size := hw.2.1
  refine W.widen (k := 3) (n := 3148) (by omega) (by omega) ?_
  refine mk_putF hx hb hts IX10 tyX10 tyX10_ok nmX10 hown hK hw ho hTa (Or.inl rfl) rfl 7 (by decide) L35 rfl hin0 rfl rfl rfl dX10_init_53 (fun H53 locs53 hw ho => ?_)
  have hsz : s.heap.size ≤ H53.size := hw.2.1
  refine lv_aload_n hx hb dX10_init_56 rfl (lv_at hl 0 rfl) ?_
  refine lv_sipush (v := 1024) hx hb dX10_init_57 (by decide) ?_
  refine mk_newa (atype := .int) (t0 := 0) (N' := 1024) (P := (fun _ => rA)) hx hb ACint rfl (fun C h => by cases h) rfl hK hw (fun j _ => ⟨0, rfl⟩) (by decide) (by decide) (by decide) (Nat.le_of_ble_eq_true rfl) (Nat.le_of_ble_eq_true rfl) dX10_init_60 (fun q60 H60 hw eq60 k60 nq60 => ?_)
  have zq60 : s.heap.size ≤ q60 := by rw [eq60]; exact hsz
  have ho := ho.kept (k60 a0 ho.lt)
  have g60 := hp_sub_up (ct := .inl (0, 1024, (fun _ => rA))) nq60
  have hgr := hgr.up (ct := .inl (0, 1024, (fun _ => rA))) zq60 nq60
  have hq60 := hp_up_s T51 q60 (.inl (0, 1024, (fun _ => rA)))
  generalize hp_up T51 q60 (.inl (0, 1024, (fun _ => rA))) = T60 at hw g60 hgr hq60
  have hq33 : T60 q33 = some (.inl (2, 1024, (fun _ => rA))) := g60 _ _ hq33
  have hq42 : T60 q42 = some (.inl (0, 1100, (fun _ => rA))) := g60 _ _ hq42
  have hq51 : T60 q51 = some (.inl (0, 1024, (fun _ => rA))) := g60 _ _ hq51
  have hTa : T60 a0 = none := hgr.nn hT0 ha0
  have hsz : s.heap.size ≤ H60.size := hw.2.1
  refine W.widen (k := 4) (n := 4172) (by omega) (by omega) ?_
  refine mk_putF hx hb hts IX10 tyX10 tyX10_ok nmX10 hown hK hw ho hTa (Or.inl rfl) rfl 8 (by decide) L38 rfl hin0 rfl rfl rfl dX10_init_62 (fun H62 locs62 hw ho => ?_)
  have hsz : s.heap.size ≤ H62.size := hw.2.1
  refine lv_aload_n hx hb dX10_init_65 rfl (lv_at hl 0 rfl) ?_
  refine lv_bipush (v := 10) hx hb dX10_init_66 (by decide) ?_
  refine mk_newa (atype := .int) (t0 := 0) (N' := 10) (P := (fun _ => (rI 0 9))) hx hb ACint rfl (fun C h => by cases h) rfl hK hw (fun j _ => ⟨0, rfl, by decide, by decide⟩) (by decide) (by decide) (by decide) (Nat.le_of_ble_eq_true rfl) (Nat.le_of_ble_eq_true rfl) dX10_init_68 (fun q68 H68 hw eq68 k68 nq68 => ?_)
  have zq68 : s.heap.size ≤ q68 := by rw [eq68]; exact hsz
  have ho := ho.kept (k68 a0 ho.lt)
  have g68 := hp_sub_up (ct := .inl (0, 10, (fun _ => (rI 0 9)))) nq68
  have hgr := hgr.up (ct := .inl (0, 10, (fun _ => (rI 0 9)))) zq68 nq68
  have hq68 := hp_up_s T60 q68 (.inl (0, 10, (fun _ => (rI 0 9))))
  generalize hp_up T60 q68 (.inl (0, 10, (fun _ => (rI 0 9)))) = T68 at hw g68 hgr hq68
  have hq33 : T68 q33 = some (.inl (2, 1024, (fun _ => rA))) := g68 _ _ hq33
  have hq42 : T68 q42 = some (.inl (0, 1100, (fun _ => rA))) := g68 _ _ hq42
  have hq51 : T68 q51 = some (.inl (0, 1024, (fun _ => rA))) := g68 _ _ hq51
  have hq60 : T68 q60 = some (.inl (0, 1024, (fun _ => rA))) := g68 _ _ hq60
  have hTa : T68 a0 = none := hgr.nn hT0 ha0
  have hsz : s.heap.size ≤ H68.size := hw.2.1
  refine W.widen (k := 5) (n := 4182) (by omega) (by omega) ?_
  refine mk_putF hx hb hts IX10 tyX10 tyX10_ok nmX10 hown hK hw ho hTa (Or.inl rfl) rfl 9 (by decide) L41 rfl hin0 rfl rfl rfl dX10_init_70 (fun H70 locs70 hw ho => ?_)
  have hsz : s.heap.size ≤ H70.size := hw.2.1
  refine lv_aload_n hx hb dX10_init_73 rfl (lv_at hl 0 rfl) ?_
  refine lv_sipush (v := 2048) hx hb dX10_init_74 (by decide) ?_
  refine mk_newa (atype := .int) (t0 := 0) (N' := 2048) (P := (fun _ => rA)) hx hb ACint rfl (fun C h => by cases h) rfl hK hw (fun j _ => ⟨0, rfl⟩) (by decide) (by decide) (by decide) (Nat.le_of_ble_eq_true rfl) (Nat.le_of_ble_eq_true rfl) dX10_init_77 (fun q77 H77 hw eq77 k77 nq77 => ?_)
  have zq77 : s.heap.size ≤ q77 := by rw [eq77]; exact hsz
  have ho := ho.kept (k77 a0 ho.lt)
  have g77 := hp_sub_up (ct := .inl (0, 2048, (fun _ => rA))) nq77
  have hgr := hgr.up (ct := .inl (0, 2048, (fun _ => rA))) zq77 nq77
  have hq77 := hp_up_s T68 q77 (.inl (0, 2048, (fun _ => rA)))
  generalize hp_up T68 q77 (.inl (0, 2048, (fun _ => rA))) = T77 at hw g77 hgr hq77
  have hq33 : T77 q33 = some (.inl (2, 1024, (fun _ => rA))) := g77 _ _ hq33
  have hq42 : T77 q42 = some (.inl (0, 1100, (fun _ => rA))) := g77 _ _ hq42
  have hq51 : T77 q51 = some (.inl (0, 1024, (fun _ => rA))) := g77 _ _ hq51
  have hq60 : T77 q60 = some (.inl (0, 1024, (fun _ => rA))) := g77 _ _ hq60
  have hq68 : T77 q68 = some (.inl (0, 10, (fun _ => (rI 0 9)))) := g77 _ _ hq68
  have hTa : T77 a0 = none := hgr.nn hT0 ha0
  have hsz : s.heap.size ≤ H77.size := hw.2.1
  refine W.widen (k := 6) (n := 6230) (by omega) (by omega) ?_
  refine mk_putF hx hb hts IX10 tyX10 tyX10_ok nmX10 hown hK hw ho hTa (Or.inl rfl) rfl 10 (by decide) L44 rfl hin0 rfl rfl rfl dX10_init_79 (fun H79 locs79 hw ho => ?_)
  have hsz : s.heap.size ≤ H79.size := hw.2.1
  refine lv_aload_n hx hb dX10_init_82 rfl (lv_at hl 0 rfl) ?_
  refine lv_sipush (v := 2048) hx hb dX10_init_83 (by decide) ?_
  refine mk_newa (atype := .int) (t0 := 0) (N' := 2048) (P := (fun _ => rA)) hx hb ACint rfl (fun C h => by cases h) rfl hK hw (fun j _ => ⟨0, rfl⟩) (by decide) (by decide) (by decide) (Nat.le_of_ble_eq_true rfl) (Nat.le_of_ble_eq_true rfl) dX10_init_86 (fun q86 H86 hw eq86 k86 nq86 => ?_)
  have zq86 : s.heap.size ≤ q86 := by rw [eq86]; exact hsz
  have ho := ho.kept (k86 a0 ho.lt)
  have g86 := hp_sub_up (ct := .inl (0, 2048, (fun _ => rA))) nq86
  have hgr := hgr.up (ct := .inl (0, 2048, (fun _ => rA))) zq86 nq86
  have hq86 := hp_up_s T77 q86 (.inl (0, 2048, (fun _ => rA)))
  generalize hp_up T77 q86 (.inl (0, 2048, (fun _ => rA))) = T86 at hw g86 hgr hq86
  have hq33 : T86 q33 = some (.inl (2, 1024, (fun _ => rA))) := g86 _ _ hq33
  have hq42 : T86 q42 = some (.inl (0, 1100, (fun _ => rA))) := g86 _ _ hq42
  have hq51 : T86 q51 = some (.inl (0, 1024, (fun _ => rA))) := g86 _ _ hq51
  have hq60 : T86 q60 = some (.inl (0, 1024, (fun _ => rA))) := g86 _ _ hq60
  have hq68 : T86 q68 = some (.inl (0, 10, (fun _ => (rI 0 9)))) := g86 _ _ hq68
  have hq77 : T86 q77 = some (.inl (0, 2048, (fun _ => rA))) := g86 _ _ hq77
  have hTa : T86 a0 = none := hgr.nn hT0 ha0
  have hsz : s.heap.size ≤ H86.size := hw.2.1
  refine W.widen (k := 7) (n := 8278) (by omega) (by omega) ?_
  refine mk_putF hx hb hts IX10 tyX10 tyX10_ok nmX10 hown hK hw ho hTa (Or.inl rfl) rfl 11 (by decide) L47 rfl hin0 rfl rfl rfl dX10_init_88 (fun H88 locs88 hw ho => ?_)
  have hsz : s.heap.size ≤ H88.size := hw.2.1
  have hsu := hp_sub_up (ct := .inr (10, [rA, rA, rA, rA, rA, (rR q33), (rR q42), (rR q51), (rR q60), (rR q68), (rR q77), (rR q86)])) hTa
  have hfin : isWorlds (hp_up T86 a0 (.inr (10, [rA, rA, rA, rA, rA, (rR q33), (rR q42), (rR q51), (rR q60), (rR q68), (rR q77), (rR q86)]))) a0 := ⟨q33, q42, q51, q60, q68, q77, q86, hp_up_s _ _ _, hsu _ _ hq33, hsu _ _ hq42, hsu _ _ hq51, hsu _ _ hq60, hsu _ _ hq68, hsu _ _ hq77, hsu _ _ hq86⟩
  have hok : hp_ok D (hp_up T86 a0 (.inr (10, [rA, rA, rA, rA, rA, (rR q33), (rR q42), (rR q51), (rR q60), (rR q68), (rR q77), (rR q86)]))) H88 := mk_end hw.1 hTa ho (by
    intro k P hk
    match k, hk with
    | 0, hk => cases hk; exact ⟨0, rfl⟩
    | 1, hk => cases hk; exact ⟨0, rfl⟩
    | 2, hk => cases hk; exact ⟨0, rfl⟩
    | 3, hk => cases hk; exact ⟨0, rfl⟩
    | 4, hk => cases hk; exact ⟨0, rfl⟩
    | 5, hk => cases hk; exact rfl
    | 6, hk => cases hk; exact rfl
    | 7, hk => cases hk; exact rfl
    | 8, hk => cases hk; exact rfl
    | 9, hk => cases hk; exact rfl
    | 10, hk => cases hk; exact rfl
    | 11, hk => cases hk; exact rfl
    | k + 12, hk => simp at hk)
  exact W.vret hx hb hr (fun t ht hW => ⟨rfl, _, hgr.end_ hTa, hfin, by rw [ht]; exact hok, hw.2.F ht⟩) hw.2.2.2 dX10_init_91
set_option maxHeartbeats 4000000 in
set_option maxRecDepth 100000 in
theorem mX2_init (l : Launch) (D : hp_D) (T : hp_T) (a0 sz : Nat) (hT0 : T a0 = none) : Met l yX2_init wsX2_init ({ frames := 1, cells := 1, slots := 10, locals := 12 }) (mk_Pc D T [.ref a0] (fun H => H.size = sz ∧ hp_o D H a0 2 (fun k => defaultValue (tyX2 k)))) (hq_m D T a0 (fun T1 => isParity T1 a0)) 1 10 (fun q => q = a0 ∨ sz ≤ q) := by
  refine Met.ofW (cc := cX2_init) (maxL := 1) (ret := none) (by decide) rfl ?_
  intro p e s m args below meth c s₁ B hml hv
  obtain ⟨rfl, hok0, hMK, hsz0, ho⟩ := hv
  subst hsz0
  have hx := B.exec
  have hb := B.bytes
  have hr := B.returns
  have hts := atoms_spec (ws := wsX2_init) B.pre
  have hown : s.vm.findClass RX2 = some m.cls := findClass_of_methodNamed B.named
  have hlocks := B.notSynchronized
  have hin0 : meth.name = "<init>" := (name_of_methodNamed B.named B.method).1
  have hK := hMK.1
  have hw : mk_w D T (fun q => q = a0 ∨ s.heap.size ≤ q) s s.heap [] := ⟨hok0, va_S.rf⟩
  have hA : ∀ q, s.heap.size ≤ q → (fun q => q = a0 ∨ s.heap.size ≤ q) q := fun q h => Or.inr h
  have ha0 : a0 < s.heap.size := ho.lt
  have hTa : T a0 = none := hT0
  have hgr : hp_g0 T T s.heap.size := hp_g0.rf
  have hsz : s.heap.size ≤ s.heap.size := Nat.le_refl _
  have IX2 : ∀ w ∈ wsX20, w ∈ wsX2_init := by decide +kernel
  have ML := hts (.methodLink RX2 3 objectInit) (by decide +kernel)
  have IM := hts (.instanceMethod objectInit) (by decide +kernel)
  have CO := hts (.code objectInit ⟨#[0xb1]⟩ 1 none) (by decide +kernel)
  have L9 := hts (.fieldLink RX2 9 "PalmCensus$Parity" "bare" "I") (by decide +kernel)
  have L15 := hts (.fieldLink RX2 15 "PalmCensus$Parity" "alone" "I") (by decide +kernel)
  have ACint := hts (.arrayClass .int) (by decide +kernel)
  have L18 := hts (.fieldLink RX2 18 "PalmCensus$Parity" "both" "[I") (by decide +kernel)
  have hl := lv_entry ([.ref a0]) (n := 1) (Nat.le_of_ble_eq_true rfl)
  rw [lg_entry_eq]
  generalize (lg_sl ([.ref a0]) ++ List.replicate (1 - (lg_sl ([.ref a0])).length) Slot.unset).toArray = ls at hl ⊢
  have hl : lv_has ls 1 [(0, .ref a0)] := hl
  refine lv_aload_n hx hb dX2_init_0 rfl (lv_at hl 0 rfl) ?_
  refine W.objInit hx hb hown ML IM CO rfl (by rw [hml]; exact hl.1) rfl dX2_init_1 (Nat.le_of_ble_eq_true rfl) (Nat.le_of_ble_eq_true rfl) ?_
  refine W.eq (g2 := F0 m 4 ls []) rfl ?_
  refine lv_aload_n hx hb dX2_init_4 rfl (lv_at hl 0 rfl) ?_
  refine lv_iconst (v := 0) hx hb dX2_init_5 (by decide) ?_
  refine mk_put hx hb hts IX2 tyX2 tyX2_ok nmX2 hown hK hw ho hTa (Or.inl rfl) rfl 0 (by decide) L9 rfl rfl rfl dX2_init_6 (fun H6 locs6 hw ho => ?_)
  have hsz : s.heap.size ≤ H6.size := hw.2.1
  refine lv_aload_n hx hb dX2_init_9 rfl (lv_at hl 0 rfl) ?_
  refine lv_iconst (v := 0) hx hb dX2_init_10 (by decide) ?_
  refine mk_put hx hb hts IX2 tyX2 tyX2_ok nmX2 hown hK hw ho hTa (Or.inl rfl) rfl 1 (by decide) L15 rfl rfl rfl dX2_init_11 (fun H11 locs11 hw ho => ?_)
  have hsz : s.heap.size ≤ H11.size := hw.2.1
  refine lv_aload_n hx hb dX2_init_14 rfl (lv_at hl 0 rfl) ?_
  refine lv_bipush (v := 10) hx hb dX2_init_15 (by decide) ?_
  refine mk_newa (atype := .int) (t0 := 0) (N' := 10) (P := (fun _ => rA)) hx hb ACint rfl (fun C h => by cases h) rfl hK hw (fun j _ => ⟨0, rfl⟩) (by decide) (by decide) (by decide) (Nat.le_of_ble_eq_true rfl) (Nat.le_of_ble_eq_true rfl) dX2_init_17 (fun q17 H17 hw eq17 k17 nq17 => ?_)
  have zq17 : s.heap.size ≤ q17 := by rw [eq17]; exact hsz
  have ho := ho.kept (k17 a0 ho.lt)
  have g17 := hp_sub_up (ct := .inl (0, 10, (fun _ => rA))) nq17
  have hgr := hgr.up (ct := .inl (0, 10, (fun _ => rA))) zq17 nq17
  have hq17 := hp_up_s T q17 (.inl (0, 10, (fun _ => rA)))
  generalize hp_up T q17 (.inl (0, 10, (fun _ => rA))) = T17 at hw g17 hgr hq17
  have hTa : T17 a0 = none := hgr.nn hT0 ha0
  have hsz : s.heap.size ≤ H17.size := hw.2.1
  refine W.widen (k := 1) (n := 10) (by omega) (by omega) ?_
  refine mk_putF hx hb hts IX2 tyX2 tyX2_ok nmX2 hown hK hw ho hTa (Or.inl rfl) rfl 2 (by decide) L18 rfl hin0 rfl rfl rfl dX2_init_19 (fun H19 locs19 hw ho => ?_)
  have hsz : s.heap.size ≤ H19.size := hw.2.1
  have hsu := hp_sub_up (ct := .inr (2, [rA, rA, (rR q17)])) hTa
  have hfin : isParity (hp_up T17 a0 (.inr (2, [rA, rA, (rR q17)]))) a0 := ⟨q17, hp_up_s _ _ _, hsu _ _ hq17⟩
  have hok : hp_ok D (hp_up T17 a0 (.inr (2, [rA, rA, (rR q17)]))) H19 := mk_end hw.1 hTa ho (by
    intro k P hk
    match k, hk with
    | 0, hk => cases hk; exact ⟨0, rfl⟩
    | 1, hk => cases hk; exact ⟨0, rfl⟩
    | 2, hk => cases hk; exact rfl
    | k + 3, hk => simp at hk)
  exact W.vret hx hb hr (fun t ht hW => ⟨rfl, _, hgr.end_ hTa, hfin, by rw [ht]; exact hok, hw.2.F ht⟩) hw.2.2.2 dX2_init_22
set_option maxHeartbeats 4000000 in
set_option maxRecDepth 100000 in
theorem mX6_init (l : Launch) (D : hp_D) (T : hp_T) (a0 sz : Nat) (hT0 : T a0 = none) : Met l yX6_init wsX6_init ({ frames := 1, cells := 5, slots := 62, locals := 12 }) (mk_Pc D T [.ref a0] (fun H => H.size = sz ∧ hp_o D H a0 6 (fun k => defaultValue (tyX6 k)))) (hq_m D T a0 (fun T1 => isShuns T1 a0)) 5 62 (fun q => q = a0 ∨ sz ≤ q) := by
  refine Met.ofW (cc := cX6_init) (maxL := 1) (ret := none) (by decide) rfl ?_
  intro p e s m args below meth c s₁ B hml hv
  obtain ⟨rfl, hok0, hMK, hsz0, ho⟩ := hv
  subst hsz0
  have hx := B.exec
  have hb := B.bytes
  have hr := B.returns
  have hts := atoms_spec (ws := wsX6_init) B.pre
  have hown : s.vm.findClass RX6 = some m.cls := findClass_of_methodNamed B.named
  have hlocks := B.notSynchronized
  have hin0 : meth.name = "<init>" := (name_of_methodNamed B.named B.method).1
  have hK := hMK.1
  have hw : mk_w D T (fun q => q = a0 ∨ s.heap.size ≤ q) s s.heap [] := ⟨hok0, va_S.rf⟩
  have hA : ∀ q, s.heap.size ≤ q → (fun q => q = a0 ∨ s.heap.size ≤ q) q := fun q h => Or.inr h
  have ha0 : a0 < s.heap.size := ho.lt
  have hTa : T a0 = none := hT0
  have hgr : hp_g0 T T s.heap.size := hp_g0.rf
  have hsz : s.heap.size ≤ s.heap.size := Nat.le_refl _
  have IX6 : ∀ w ∈ wsX60, w ∈ wsX6_init := by decide +kernel
  have ML := hts (.methodLink RX6 3 objectInit) (by decide +kernel)
  have IM := hts (.instanceMethod objectInit) (by decide +kernel)
  have CO := hts (.code objectInit ⟨#[0xb1]⟩ 1 none) (by decide +kernel)
  have L9 := hts (.fieldLink RX6 9 "PalmCensus$Shuns" "twos" "I") (by decide +kernel)
  have ACint := hts (.arrayClass .int) (by decide +kernel)
  have L15 := hts (.fieldLink RX6 15 "PalmCensus$Shuns" "lesser" "[I") (by decide +kernel)
  have L19 := hts (.fieldLink RX6 19 "PalmCensus$Shuns" "greater" "[I") (by decide +kernel)
  have L22 := hts (.fieldLink RX6 22 "PalmCensus$Shuns" "due" "[I") (by decide +kernel)
  have ACboolean := hts (.arrayClass .boolean) (by decide +kernel)
  have L25 := hts (.fieldLink RX6 25 "PalmCensus$Shuns" "isTold" "[Z") (by decide +kernel)
  have L29 := hts (.fieldLink RX6 29 "PalmCensus$Shuns" "open" "[I") (by decide +kernel)
  have hl := lv_entry ([.ref a0]) (n := 1) (Nat.le_of_ble_eq_true rfl)
  rw [lg_entry_eq]
  generalize (lg_sl ([.ref a0]) ++ List.replicate (1 - (lg_sl ([.ref a0])).length) Slot.unset).toArray = ls at hl ⊢
  have hl : lv_has ls 1 [(0, .ref a0)] := hl
  refine lv_aload_n hx hb dX6_init_0 rfl (lv_at hl 0 rfl) ?_
  refine W.objInit hx hb hown ML IM CO rfl (by rw [hml]; exact hl.1) rfl dX6_init_1 (Nat.le_of_ble_eq_true rfl) (Nat.le_of_ble_eq_true rfl) ?_
  refine W.eq (g2 := F0 m 4 ls []) rfl ?_
  refine lv_aload_n hx hb dX6_init_4 rfl (lv_at hl 0 rfl) ?_
  refine lv_iconst (v := 0) hx hb dX6_init_5 (by decide) ?_
  refine mk_put hx hb hts IX6 tyX6 tyX6_ok nmX6 hown hK hw ho hTa (Or.inl rfl) rfl 0 (by decide) L9 rfl rfl rfl dX6_init_6 (fun H6 locs6 hw ho => ?_)
  have hsz : s.heap.size ≤ H6.size := hw.2.1
  refine lv_aload_n hx hb dX6_init_9 rfl (lv_at hl 0 rfl) ?_
  refine lv_bipush (v := 16) hx hb dX6_init_10 (by decide) ?_
  refine mk_newa (atype := .int) (t0 := 0) (N' := 16) (P := (fun _ => (rI 0 9))) hx hb ACint rfl (fun C h => by cases h) rfl hK hw (fun j _ => ⟨0, rfl, by decide, by decide⟩) (by decide) (by decide) (by decide) (Nat.le_of_ble_eq_true rfl) (Nat.le_of_ble_eq_true rfl) dX6_init_12 (fun q12 H12 hw eq12 k12 nq12 => ?_)
  have zq12 : s.heap.size ≤ q12 := by rw [eq12]; exact hsz
  have ho := ho.kept (k12 a0 ho.lt)
  have g12 := hp_sub_up (ct := .inl (0, 16, (fun _ => (rI 0 9)))) nq12
  have hgr := hgr.up (ct := .inl (0, 16, (fun _ => (rI 0 9)))) zq12 nq12
  have hq12 := hp_up_s T q12 (.inl (0, 16, (fun _ => (rI 0 9))))
  generalize hp_up T q12 (.inl (0, 16, (fun _ => (rI 0 9)))) = T12 at hw g12 hgr hq12
  have hTa : T12 a0 = none := hgr.nn hT0 ha0
  have hsz : s.heap.size ≤ H12.size := hw.2.1
  refine W.widen (k := 1) (n := 16) (by omega) (by omega) ?_
  refine mk_putF hx hb hts IX6 tyX6 tyX6_ok nmX6 hown hK hw ho hTa (Or.inl rfl) rfl 1 (by decide) L15 rfl hin0 rfl rfl rfl dX6_init_14 (fun H14 locs14 hw ho => ?_)
  have hsz : s.heap.size ≤ H14.size := hw.2.1
  refine lv_aload_n hx hb dX6_init_17 rfl (lv_at hl 0 rfl) ?_
  refine lv_bipush (v := 16) hx hb dX6_init_18 (by decide) ?_
  refine mk_newa (atype := .int) (t0 := 0) (N' := 16) (P := (fun _ => (rI 0 9))) hx hb ACint rfl (fun C h => by cases h) rfl hK hw (fun j _ => ⟨0, rfl, by decide, by decide⟩) (by decide) (by decide) (by decide) (Nat.le_of_ble_eq_true rfl) (Nat.le_of_ble_eq_true rfl) dX6_init_20 (fun q20 H20 hw eq20 k20 nq20 => ?_)
  have zq20 : s.heap.size ≤ q20 := by rw [eq20]; exact hsz
  have ho := ho.kept (k20 a0 ho.lt)
  have g20 := hp_sub_up (ct := .inl (0, 16, (fun _ => (rI 0 9)))) nq20
  have hgr := hgr.up (ct := .inl (0, 16, (fun _ => (rI 0 9)))) zq20 nq20
  have hq20 := hp_up_s T12 q20 (.inl (0, 16, (fun _ => (rI 0 9))))
  generalize hp_up T12 q20 (.inl (0, 16, (fun _ => (rI 0 9)))) = T20 at hw g20 hgr hq20
  have hq12 : T20 q12 = some (.inl (0, 16, (fun _ => (rI 0 9)))) := g20 _ _ hq12
  have hTa : T20 a0 = none := hgr.nn hT0 ha0
  have hsz : s.heap.size ≤ H20.size := hw.2.1
  refine W.widen (k := 2) (n := 32) (by omega) (by omega) ?_
  refine mk_putF hx hb hts IX6 tyX6 tyX6_ok nmX6 hown hK hw ho hTa (Or.inl rfl) rfl 2 (by decide) L19 rfl hin0 rfl rfl rfl dX6_init_22 (fun H22 locs22 hw ho => ?_)
  have hsz : s.heap.size ≤ H22.size := hw.2.1
  refine lv_aload_n hx hb dX6_init_25 rfl (lv_at hl 0 rfl) ?_
  refine lv_bipush (v := 10) hx hb dX6_init_26 (by decide) ?_
  refine mk_newa (atype := .int) (t0 := 0) (N' := 10) (P := (fun _ => rA)) hx hb ACint rfl (fun C h => by cases h) rfl hK hw (fun j _ => ⟨0, rfl⟩) (by decide) (by decide) (by decide) (Nat.le_of_ble_eq_true rfl) (Nat.le_of_ble_eq_true rfl) dX6_init_28 (fun q28 H28 hw eq28 k28 nq28 => ?_)
  have zq28 : s.heap.size ≤ q28 := by rw [eq28]; exact hsz
  have ho := ho.kept (k28 a0 ho.lt)
  have g28 := hp_sub_up (ct := .inl (0, 10, (fun _ => rA))) nq28
  have hgr := hgr.up (ct := .inl (0, 10, (fun _ => rA))) zq28 nq28
  have hq28 := hp_up_s T20 q28 (.inl (0, 10, (fun _ => rA)))
  generalize hp_up T20 q28 (.inl (0, 10, (fun _ => rA))) = T28 at hw g28 hgr hq28
  have hq12 : T28 q12 = some (.inl (0, 16, (fun _ => (rI 0 9)))) := g28 _ _ hq12
  have hq20 : T28 q20 = some (.inl (0, 16, (fun _ => (rI 0 9)))) := g28 _ _ hq20
  have hTa : T28 a0 = none := hgr.nn hT0 ha0
  have hsz : s.heap.size ≤ H28.size := hw.2.1
  refine W.widen (k := 3) (n := 42) (by omega) (by omega) ?_
  refine mk_putF hx hb hts IX6 tyX6 tyX6_ok nmX6 hown hK hw ho hTa (Or.inl rfl) rfl 3 (by decide) L22 rfl hin0 rfl rfl rfl dX6_init_30 (fun H30 locs30 hw ho => ?_)
  have hsz : s.heap.size ≤ H30.size := hw.2.1
  refine lv_aload_n hx hb dX6_init_33 rfl (lv_at hl 0 rfl) ?_
  refine lv_bipush (v := 10) hx hb dX6_init_34 (by decide) ?_
  refine mk_newa (atype := .boolean) (t0 := 2) (N' := 10) (P := (fun _ => rA)) hx hb ACboolean rfl (fun C h => by cases h) rfl hK hw (fun j _ => ⟨0, rfl⟩) (by decide) (by decide) (by decide) (Nat.le_of_ble_eq_true rfl) (Nat.le_of_ble_eq_true rfl) dX6_init_36 (fun q36 H36 hw eq36 k36 nq36 => ?_)
  have zq36 : s.heap.size ≤ q36 := by rw [eq36]; exact hsz
  have ho := ho.kept (k36 a0 ho.lt)
  have g36 := hp_sub_up (ct := .inl (2, 10, (fun _ => rA))) nq36
  have hgr := hgr.up (ct := .inl (2, 10, (fun _ => rA))) zq36 nq36
  have hq36 := hp_up_s T28 q36 (.inl (2, 10, (fun _ => rA)))
  generalize hp_up T28 q36 (.inl (2, 10, (fun _ => rA))) = T36 at hw g36 hgr hq36
  have hq12 : T36 q12 = some (.inl (0, 16, (fun _ => (rI 0 9)))) := g36 _ _ hq12
  have hq20 : T36 q20 = some (.inl (0, 16, (fun _ => (rI 0 9)))) := g36 _ _ hq20
  have hq28 : T36 q28 = some (.inl (0, 10, (fun _ => rA))) := g36 _ _ hq28
  have hTa : T36 a0 = none := hgr.nn hT0 ha0
  have hsz : s.heap.size ≤ H36.size := hw.2.1
  refine W.widen (k := 4) (n := 52) (by omega) (by omega) ?_
  refine mk_putF hx hb hts IX6 tyX6 tyX6_ok nmX6 hown hK hw ho hTa (Or.inl rfl) rfl 4 (by decide) L25 rfl hin0 rfl rfl rfl dX6_init_38 (fun H38 locs38 hw ho => ?_)
  have hsz : s.heap.size ≤ H38.size := hw.2.1
  refine lv_aload_n hx hb dX6_init_41 rfl (lv_at hl 0 rfl) ?_
  refine lv_bipush (v := 10) hx hb dX6_init_42 (by decide) ?_
  refine mk_newa (atype := .int) (t0 := 0) (N' := 10) (P := (fun _ => rA)) hx hb ACint rfl (fun C h => by cases h) rfl hK hw (fun j _ => ⟨0, rfl⟩) (by decide) (by decide) (by decide) (Nat.le_of_ble_eq_true rfl) (Nat.le_of_ble_eq_true rfl) dX6_init_44 (fun q44 H44 hw eq44 k44 nq44 => ?_)
  have zq44 : s.heap.size ≤ q44 := by rw [eq44]; exact hsz
  have ho := ho.kept (k44 a0 ho.lt)
  have g44 := hp_sub_up (ct := .inl (0, 10, (fun _ => rA))) nq44
  have hgr := hgr.up (ct := .inl (0, 10, (fun _ => rA))) zq44 nq44
  have hq44 := hp_up_s T36 q44 (.inl (0, 10, (fun _ => rA)))
  generalize hp_up T36 q44 (.inl (0, 10, (fun _ => rA))) = T44 at hw g44 hgr hq44
  have hq12 : T44 q12 = some (.inl (0, 16, (fun _ => (rI 0 9)))) := g44 _ _ hq12
  have hq20 : T44 q20 = some (.inl (0, 16, (fun _ => (rI 0 9)))) := g44 _ _ hq20
  have hq28 : T44 q28 = some (.inl (0, 10, (fun _ => rA))) := g44 _ _ hq28
  have hq36 : T44 q36 = some (.inl (2, 10, (fun _ => rA))) := g44 _ _ hq36
  have hTa : T44 a0 = none := hgr.nn hT0 ha0
  have hsz : s.heap.size ≤ H44.size := hw.2.1
  refine W.widen (k := 5) (n := 62) (by omega) (by omega) ?_
  refine mk_putF hx hb hts IX6 tyX6 tyX6_ok nmX6 hown hK hw ho hTa (Or.inl rfl) rfl 5 (by decide) L29 rfl hin0 rfl rfl rfl dX6_init_46 (fun H46 locs46 hw ho => ?_)
  have hsz : s.heap.size ≤ H46.size := hw.2.1
  have hsu := hp_sub_up (ct := .inr (6, [(rI 0 16), (rR q12), (rR q20), (rR q28), (rR q36), (rR q44)])) hTa
  have hfin : isShuns (hp_up T44 a0 (.inr (6, [(rI 0 16), (rR q12), (rR q20), (rR q28), (rR q36), (rR q44)]))) a0 := ⟨q12, q20, q28, q36, q44, hp_up_s _ _ _, hsu _ _ hq12, hsu _ _ hq20, hsu _ _ hq28, hsu _ _ hq36, hsu _ _ hq44⟩
  have hok : hp_ok D (hp_up T44 a0 (.inr (6, [(rI 0 16), (rR q12), (rR q20), (rR q28), (rR q36), (rR q44)]))) H46 := mk_end hw.1 hTa ho (by
    intro k P hk
    match k, hk with
    | 0, hk => cases hk; exact ⟨0, rfl, ⟨by decide, by decide⟩⟩
    | 1, hk => cases hk; exact rfl
    | 2, hk => cases hk; exact rfl
    | 3, hk => cases hk; exact rfl
    | 4, hk => cases hk; exact rfl
    | 5, hk => cases hk; exact rfl
    | k + 6, hk => simp at hk)
  exact W.vret hx hb hr (fun t ht hW => ⟨rfl, _, hgr.end_ hTa, hfin, by rw [ht]; exact hok, hw.2.F ht⟩) hw.2.2.2 dX6_init_49
set_option maxHeartbeats 4000000 in
set_option maxRecDepth 100000 in
theorem mX11_init (l : Launch) (D : hp_D) (T : hp_T) (a0 sz : Nat) (Ru : Nat → Prop) (hT0 : T a0 = none) : Met l yX11_init wsX11_init ({ frames := 3, cells := 49, slots := 10054, locals := 64 }) (mk_Pc D T [.ref a0] (fun H => H.size = sz ∧ hp_o D H a0 11 (fun k => defaultValue (tyX11 k)))) (hq_m D T a0 (fun T1 => isPC T1 Ru a0)) 49 10054 (fun q => q = a0 ∨ sz ≤ q) := by
  refine Met.ofW (cc := cX11_init) (maxL := 1) (ret := none) (by decide) rfl ?_
  intro p e s m args below meth c s₁ B hml hv
  obtain ⟨rfl, hok0, hMK, hsz0, ho⟩ := hv
  subst hsz0
  have hx := B.exec
  have hb := B.bytes
  have hr := B.returns
  have hts := atoms_spec (ws := wsX11_init) B.pre
  have hown : s.vm.findClass RX11 = some m.cls := findClass_of_methodNamed B.named
  have hlocks := B.notSynchronized
  have hin0 : meth.name = "<init>" := (name_of_methodNamed B.named B.method).1
  have hK := hMK.1
  have hw : mk_w D T (fun q => q = a0 ∨ s.heap.size ≤ q) s s.heap [] := ⟨hok0, va_S.rf⟩
  have hA : ∀ q, s.heap.size ≤ q → (fun q => q = a0 ∨ s.heap.size ≤ q) q := fun q h => Or.inr h
  have ha0 : a0 < s.heap.size := ho.lt
  have hTa : T a0 = none := hT0
  have hgr : hp_g0 T T s.heap.size := hp_g0.rf
  have hsz : s.heap.size ≤ s.heap.size := Nat.le_refl _
  have IX0 : ∀ w ∈ wsX00, w ∈ wsX11_init := by decide +kernel
  have IX1 : ∀ w ∈ wsX10, w ∈ wsX11_init := by decide +kernel
  have IX10 : ∀ w ∈ wsX100, w ∈ wsX11_init := by decide +kernel
  have IX11 : ∀ w ∈ wsX110, w ∈ wsX11_init := by decide +kernel
  have IX2 : ∀ w ∈ wsX20, w ∈ wsX11_init := by decide +kernel
  have IX4 : ∀ w ∈ wsX40, w ∈ wsX11_init := by decide +kernel
  have IX5 : ∀ w ∈ wsX50, w ∈ wsX11_init := by decide +kernel
  have IX6 : ∀ w ∈ wsX60, w ∈ wsX11_init := by decide +kernel
  have IX7 : ∀ w ∈ wsX70, w ∈ wsX11_init := by decide +kernel
  have IX8 : ∀ w ∈ wsX80, w ∈ wsX11_init := by decide +kernel
  have IX9 : ∀ w ∈ wsX90, w ∈ wsX11_init := by decide +kernel
  have ML := hts (.methodLink RX11 3 objectInit) (by decide +kernel)
  have IM := hts (.instanceMethod objectInit) (by decide +kernel)
  have CO := hts (.code objectInit ⟨#[0xb1]⟩ 1 none) (by decide +kernel)
  have CL9 := hts (.classLink RX11 9 RX7) (by decide +kernel)
  have ISX7 := hts (.instantiable RX7 5) (by decide +kernel)
  have INX7 := hts (.initialized RX7) (by decide +kernel)
  have IMX7_init := hts (.instanceMethod yX7_init) (by decide +kernel)
  have L12 := hts (.fieldLink RX11 12 "PalmCensus" "tape" "LPalmCensus$Tape;") (by decide +kernel)
  have CL16 := hts (.classLink RX11 16 RX9) (by decide +kernel)
  have ISX9 := hts (.instantiable RX9 2) (by decide +kernel)
  have INX9 := hts (.initialized RX9) (by decide +kernel)
  have IMX9_init := hts (.instanceMethod yX9_init) (by decide +kernel)
  have LK18 := hts (.methodLink RX11 18 yX9_init) (by decide +kernel)
  have L21 := hts (.fieldLink RX11 21 "PalmCensus" "townReader" "LPalmCensus$TownReader;") (by decide +kernel)
  have CL25 := hts (.classLink RX11 25 RX4) (by decide +kernel)
  have ISX4 := hts (.instantiable RX4 5) (by decide +kernel)
  have INX4 := hts (.initialized RX4) (by decide +kernel)
  have IMX4_init := hts (.instanceMethod yX4_init) (by decide +kernel)
  have LK27 := hts (.methodLink RX11 27 yX4_init) (by decide +kernel)
  have L28 := hts (.fieldLink RX11 28 "PalmCensus" "ruleReader" "LPalmCensus$RuleReader;") (by decide +kernel)
  have CL32 := hts (.classLink RX11 32 RX3) (by decide +kernel)
  have L34 := hts (.fieldLink RX11 34 "PalmCensus" "rules" "[LPalmCensus$Rule;") (by decide +kernel)
  have L38 := hts (.fieldLink RX11 38 "PalmCensus" "ruleCount" "I") (by decide +kernel)
  have CL42 := hts (.classLink RX11 42 RX1) (by decide +kernel)
  have ISX1 := hts (.instantiable RX1 13) (by decide +kernel)
  have INX1 := hts (.initialized RX1) (by decide +kernel)
  have IMX1_init := hts (.instanceMethod yX1_init) (by decide +kernel)
  have LK44 := hts (.methodLink RX11 44 yX1_init) (by decide +kernel)
  have L45 := hts (.fieldLink RX11 45 "PalmCensus" "now" "LPalmCensus$Memory;") (by decide +kernel)
  have L49 := hts (.fieldLink RX11 49 "PalmCensus" "images" "[LPalmCensus$Memory;") (by decide +kernel)
  have CL53 := hts (.classLink RX11 53 RX8) (by decide +kernel)
  have ISX8 := hts (.instantiable RX8 11) (by decide +kernel)
  have INX8 := hts (.initialized RX8) (by decide +kernel)
  have IMX8_init := hts (.instanceMethod yX8_init) (by decide +kernel)
  have LK55 := hts (.methodLink RX11 55 yX8_init) (by decide +kernel)
  have L56 := hts (.fieldLink RX11 56 "PalmCensus" "trial" "LPalmCensus$Town;") (by decide +kernel)
  have CL60 := hts (.classLink RX11 60 RX5) (by decide +kernel)
  have ISX5 := hts (.instantiable RX5 4) (by decide +kernel)
  have INX5 := hts (.initialized RX5) (by decide +kernel)
  have IMX5_init := hts (.instanceMethod yX5_init) (by decide +kernel)
  have L63 := hts (.fieldLink RX11 63 "PalmCensus" "shaker" "LPalmCensus$Shaker;") (by decide +kernel)
  have CL67 := hts (.classLink RX11 67 RX10) (by decide +kernel)
  have ISX10 := hts (.instantiable RX10 12) (by decide +kernel)
  have INX10 := hts (.initialized RX10) (by decide +kernel)
  have IMX10_init := hts (.instanceMethod yX10_init) (by decide +kernel)
  have L70 := hts (.fieldLink RX11 70 "PalmCensus" "inquiry" "LPalmCensus$Worlds;") (by decide +kernel)
  have CL74 := hts (.classLink RX11 74 RX2) (by decide +kernel)
  have ISX2 := hts (.instantiable RX2 3) (by decide +kernel)
  have INX2 := hts (.initialized RX2) (by decide +kernel)
  have IMX2_init := hts (.instanceMethod yX2_init) (by decide +kernel)
  have L77 := hts (.fieldLink RX11 77 "PalmCensus" "parity" "LPalmCensus$Parity;") (by decide +kernel)
  have CL81 := hts (.classLink RX11 81 RX6) (by decide +kernel)
  have ISX6 := hts (.instantiable RX6 6) (by decide +kernel)
  have INX6 := hts (.initialized RX6) (by decide +kernel)
  have IMX6_init := hts (.instanceMethod yX6_init) (by decide +kernel)
  have L84 := hts (.fieldLink RX11 84 "PalmCensus" "shunning" "LPalmCensus$Shuns;") (by decide +kernel)
  have CL88 := hts (.classLink RX11 88 RX0) (by decide +kernel)
  have ISX0 := hts (.instantiable RX0 4) (by decide +kernel)
  have INX0 := hts (.initialized RX0) (by decide +kernel)
  have IMX0_init := hts (.instanceMethod yX0_init) (by decide +kernel)
  have L91 := hts (.fieldLink RX11 91 "PalmCensus" "best" "LPalmCensus$Best;") (by decide +kernel)
  have hl := lv_entry ([.ref a0]) (n := 1) (Nat.le_of_ble_eq_true rfl)
  rw [lg_entry_eq]
  generalize (lg_sl ([.ref a0]) ++ List.replicate (1 - (lg_sl ([.ref a0])).length) Slot.unset).toArray = ls at hl ⊢
  have hl : lv_has ls 1 [(0, .ref a0)] := hl
  refine lv_aload_n hx hb dX11_init_0 rfl (lv_at hl 0 rfl) ?_
  refine W.objInit hx hb hown ML IM CO rfl (by rw [hml]; exact hl.1) rfl dX11_init_1 (Nat.le_of_ble_eq_true rfl) (Nat.le_of_ble_eq_true rfl) ?_
  refine W.eq (g2 := F0 m 4 ls []) rfl ?_
  refine lv_aload_n hx hb dX11_init_4 rfl (lv_at hl 0 rfl) ?_
  refine mk_new (ci := 7) (C := RX7) (TT := TX7) (N := 5) hx hb hts IX7 tyX7 tyX7_ok hown CL9 ISX7 INX7 hK hw rfl (Nat.le_of_ble_eq_true rfl) (Nat.le_of_ble_eq_true rfl) dX11_init_5 (fun q5 H5 hw oq5 eq5 k5 nq5 => ?_)
  have zq5 : s.heap.size ≤ q5 := by rw [eq5]; exact hsz
  have lq5 : q5 < H5.size := oq5.lt
  have ho := ho.kept (k5 a0 ho.lt)
  have hsz : s.heap.size ≤ H5.size := hw.2.1
  refine W.widen (k := 1) (n := 5) (by omega) (by omega) ?_
  refine lv_dup hx hb dX11_init_8 rfl ?_
  refine mk_call (va_runIN (As := []) (rest := [.ref q5, .ref a0]) ⟨hx, hb, hml, hown, hts⟩ (mX7_init l D T q5 H5.size nq5) ⟨va_cnB 0 hts gX11_init_X7_init_n11 rfl rfl rfl hMK.2.1.2.2.1 INX7 (by decide +kernel) ⟨Nat.le_of_ble_eq_true rfl, Nat.le_of_ble_eq_true rfl⟩, rfl, IMX7_init⟩ (mk_pre hMK hw ⟨rfl, oq5⟩) rfl rfl hl.1 rfl (lv_room (Nat.le_of_ble_eq_true rfl)) dX11_init_9 ⟨Nat.le_of_ble_eq_true rfl, Nat.le_of_ble_eq_true rfl⟩) hw hA zq5 (fun T9 H9 locs9 iq5 hw x9 k9 => ?_)
  have ho := ho.kept (k9 a0 ho.lt (fun h => absurd zq5 (by rw [← h]; exact Nat.not_le.mpr ha0)))
  have hgr := hgr.call x9 hsz zq5
  have hTa : T9 a0 = none := hgr.nn hT0 ha0
  have hsz : s.heap.size ≤ H9.size := hw.2.1
  refine mk_putF hx hb hts IX11 tyX11 tyX11_ok nmX11 hown hK hw ho hTa (Or.inl rfl) rfl 0 (by decide) L12 rfl hin0 rfl rfl rfl dX11_init_12 (fun H12 locs12 hw ho => ?_)
  have hsz : s.heap.size ≤ H12.size := hw.2.1
  refine lv_aload_n hx hb dX11_init_15 rfl (lv_at hl 0 rfl) ?_
  refine mk_new (ci := 9) (C := RX9) (TT := TX9) (N := 2) hx hb hts IX9 tyX9 tyX9_ok hown CL16 ISX9 INX9 hK hw rfl (Nat.le_of_ble_eq_true rfl) (Nat.le_of_ble_eq_true rfl) dX11_init_16 (fun q16 H16 hw oq16 eq16 k16 nq16 => ?_)
  have zq16 : s.heap.size ≤ q16 := by rw [eq16]; exact hsz
  have lq16 : q16 < H16.size := oq16.lt
  have ho := ho.kept (k16 a0 ho.lt)
  have hsz : s.heap.size ≤ H16.size := hw.2.1
  refine W.widen (k := 3) (n := 407) (by omega) (by omega) ?_
  refine lv_dup hx hb dX11_init_19 rfl ?_
  refine lv_aload_n hx hb dX11_init_20 rfl (lv_at hl 0 rfl) ?_
  refine mk_get (v := .ref q5) hx hb hts IX11 hown hK ho rfl 0 (by decide) L12 rfl dX11_init_21 ?_
  refine mk_call (va_runI (As := [.ref q5]) (rest := [.ref q16, .ref a0]) ⟨hx, hb, hml, hown, hts⟩ (mX9_init l D T9 q16 H16.size q5 nq16 iq5) (cwI 1 hts gX11_init_X9_init rfl rfl rfl INX9 LK18 IMX9_init rfl (by decide +kernel) ⟨Nat.le_of_ble_eq_true rfl, Nat.le_of_ble_eq_true rfl⟩) (mk_pre hMK hw ⟨rfl, oq16⟩) rfl rfl hl.1 rfl (lv_room (Nat.le_of_ble_eq_true rfl)) dX11_init_24 ⟨Nat.le_of_ble_eq_true rfl, Nat.le_of_ble_eq_true rfl⟩) hw hA zq16 (fun T24 H24 locs24 iq16 hw x24 k24 => ?_)
  have ho := ho.kept (k24 a0 ho.lt (fun h => absurd zq16 (by rw [← h]; exact Nat.not_le.mpr ha0)))
  have hgr := hgr.call x24 hsz zq16
  have iq5 : isTape T24 q5 := isTape.mono x24.1 iq5
  have hTa : T24 a0 = none := hgr.nn hT0 ha0
  have hsz : s.heap.size ≤ H24.size := hw.2.1
  refine mk_putF hx hb hts IX11 tyX11 tyX11_ok nmX11 hown hK hw ho hTa (Or.inl rfl) rfl 1 (by decide) L21 rfl hin0 rfl rfl rfl dX11_init_27 (fun H27 locs27 hw ho => ?_)
  have hsz : s.heap.size ≤ H27.size := hw.2.1
  refine lv_aload_n hx hb dX11_init_30 rfl (lv_at hl 0 rfl) ?_
  refine mk_new (ci := 4) (C := RX4) (TT := TX4) (N := 5) hx hb hts IX4 tyX4 tyX4_ok hown CL25 ISX4 INX4 hK hw rfl (Nat.le_of_ble_eq_true rfl) (Nat.le_of_ble_eq_true rfl) dX11_init_31 (fun q31 H31 hw oq31 eq31 k31 nq31 => ?_)
  have zq31 : s.heap.size ≤ q31 := by rw [eq31]; exact hsz
  have lq31 : q31 < H31.size := oq31.lt
  have ho := ho.kept (k31 a0 ho.lt)
  have hsz : s.heap.size ≤ H31.size := hw.2.1
  refine W.widen (k := 8) (n := 625) (by omega) (by omega) ?_
  refine lv_dup hx hb dX11_init_34 rfl ?_
  refine lv_aload_n hx hb dX11_init_35 rfl (lv_at hl 0 rfl) ?_
  refine mk_get (v := .ref q5) hx hb hts IX11 hown hK ho rfl 0 (by decide) L12 rfl dX11_init_36 ?_
  refine mk_call (va_runI (As := [.ref q5]) (rest := [.ref q31, .ref a0]) ⟨hx, hb, hml, hown, hts⟩ (mX4_init l D T24 q31 H31.size q5 nq31 iq5) (cwI 1 hts gX11_init_X4_init rfl rfl rfl INX4 LK27 IMX4_init rfl (by decide +kernel) ⟨Nat.le_of_ble_eq_true rfl, Nat.le_of_ble_eq_true rfl⟩) (mk_pre hMK hw ⟨rfl, oq31⟩) rfl rfl hl.1 rfl (lv_room (Nat.le_of_ble_eq_true rfl)) dX11_init_39 ⟨Nat.le_of_ble_eq_true rfl, Nat.le_of_ble_eq_true rfl⟩) hw hA zq31 (fun T39 H39 locs39 iq31 hw x39 k39 => ?_)
  have ho := ho.kept (k39 a0 ho.lt (fun h => absurd zq31 (by rw [← h]; exact Nat.not_le.mpr ha0)))
  have hgr := hgr.call x39 hsz zq31
  have iq5 : isTape T39 q5 := isTape.mono x39.1 iq5
  have iq16 : isTownReader T39 q16 := isTownReader.mono x39.1 iq16
  have hTa : T39 a0 = none := hgr.nn hT0 ha0
  have hsz : s.heap.size ≤ H39.size := hw.2.1
  refine mk_putF hx hb hts IX11 tyX11 tyX11_ok nmX11 hown hK hw ho hTa (Or.inl rfl) rfl 2 (by decide) L28 rfl hin0 rfl rfl rfl dX11_init_42 (fun H42 locs42 hw ho => ?_)
  have hsz : s.heap.size ≤ H42.size := hw.2.1
  refine lv_aload_n hx hb dX11_init_45 rfl (lv_at hl 0 rfl) ?_
  refine lv_bipush (v := 6) hx hb dX11_init_46 (by decide) ?_
  refine mk_newq (t0 := 5) (N' := 6) (P := (fun _ => rN Ru)) hx hb hown CL32 hMK.2.2.1 rfl hK hw (fun j _ => Or.inl rfl) (by decide) (by decide) (by decide) (Nat.le_of_ble_eq_true rfl) (Nat.le_of_ble_eq_true rfl) dX11_init_48 (fun q48 H48 hw eq48 k48 nq48 => ?_)
  have zq48 : s.heap.size ≤ q48 := by rw [eq48]; exact hsz
  have ho := ho.kept (k48 a0 ho.lt)
  have g48 := hp_sub_up (ct := .inl (5, 6, (fun _ => rN Ru))) nq48
  have hgr := hgr.up (ct := .inl (5, 6, (fun _ => rN Ru))) zq48 nq48
  have hq48 := hp_up_s T39 q48 (.inl (5, 6, (fun _ => rN Ru)))
  generalize hp_up T39 q48 (.inl (5, 6, (fun _ => rN Ru))) = T48 at hw g48 hgr hq48
  have iq5 : isTape T48 q5 := isTape.mono g48 iq5
  have iq16 : isTownReader T48 q16 := isTownReader.mono g48 iq16
  have iq31 : isRuleReader T48 q31 := isRuleReader.mono g48 iq31
  have hTa : T48 a0 = none := hgr.nn hT0 ha0
  have hsz : s.heap.size ≤ H48.size := hw.2.1
  refine W.widen (k := 10) (n := 1031) (by omega) (by omega) ?_
  refine mk_putF hx hb hts IX11 tyX11 tyX11_ok nmX11 hown hK hw ho hTa (Or.inl rfl) rfl 3 (by decide) L34 rfl hin0 rfl rfl rfl dX11_init_51 (fun H51 locs51 hw ho => ?_)
  have hsz : s.heap.size ≤ H51.size := hw.2.1
  refine lv_aload_n hx hb dX11_init_54 rfl (lv_at hl 0 rfl) ?_
  refine lv_iconst (v := 0) hx hb dX11_init_55 (by decide) ?_
  refine mk_put hx hb hts IX11 tyX11 tyX11_ok nmX11 hown hK hw ho hTa (Or.inl rfl) rfl 4 (by decide) L38 rfl rfl rfl dX11_init_56 (fun H56 locs56 hw ho => ?_)
  have hsz : s.heap.size ≤ H56.size := hw.2.1
  refine lv_aload_n hx hb dX11_init_59 rfl (lv_at hl 0 rfl) ?_
  refine mk_new (ci := 1) (C := RX1) (TT := TX1) (N := 13) hx hb hts IX1 tyX1 tyX1_ok hown CL42 ISX1 INX1 hK hw rfl (Nat.le_of_ble_eq_true rfl) (Nat.le_of_ble_eq_true rfl) dX11_init_60 (fun q60 H60 hw oq60 eq60 k60 nq60 => ?_)
  have zq60 : s.heap.size ≤ q60 := by rw [eq60]; exact hsz
  have lq60 : q60 < H60.size := oq60.lt
  have ho := ho.kept (k60 a0 ho.lt)
  have hsz : s.heap.size ≤ H60.size := hw.2.1
  refine W.widen (k := 11) (n := 1044) (by omega) (by omega) ?_
  refine lv_dup hx hb dX11_init_63 rfl ?_
  refine mk_call (va_runI (As := []) (rest := [.ref q60, .ref a0]) ⟨hx, hb, hml, hown, hts⟩ (mX1_init l D T48 q60 H60.size nq60) (cwI 0 hts gX11_init_X1_init rfl rfl rfl INX1 LK44 IMX1_init rfl (by decide +kernel) ⟨Nat.le_of_ble_eq_true rfl, Nat.le_of_ble_eq_true rfl⟩) (mk_pre hMK hw ⟨rfl, oq60⟩) rfl rfl hl.1 rfl (lv_room (Nat.le_of_ble_eq_true rfl)) dX11_init_64 ⟨Nat.le_of_ble_eq_true rfl, Nat.le_of_ble_eq_true rfl⟩) hw hA zq60 (fun T64 H64 locs64 iq60 hw x64 k64 => ?_)
  have ho := ho.kept (k64 a0 ho.lt (fun h => absurd zq60 (by rw [← h]; exact Nat.not_le.mpr ha0)))
  have hgr := hgr.call x64 hsz zq60
  have iq5 : isTape T64 q5 := isTape.mono x64.1 iq5
  have iq16 : isTownReader T64 q16 := isTownReader.mono x64.1 iq16
  have iq31 : isRuleReader T64 q31 := isRuleReader.mono x64.1 iq31
  have hq48 : T64 q48 = some (.inl (5, 6, (fun _ => rN Ru))) := x64.1 _ _ hq48
  have hTa : T64 a0 = none := hgr.nn hT0 ha0
  have hsz : s.heap.size ≤ H64.size := hw.2.1
  refine mk_putF hx hb hts IX11 tyX11 tyX11_ok nmX11 hown hK hw ho hTa (Or.inl rfl) rfl 5 (by decide) L45 rfl hin0 rfl rfl rfl dX11_init_67 (fun H67 locs67 hw ho => ?_)
  have hsz : s.heap.size ≤ H67.size := hw.2.1
  refine lv_aload_n hx hb dX11_init_70 rfl (lv_at hl 0 rfl) ?_
  refine lv_iconst (v := 4) hx hb dX11_init_71 (by decide) ?_
  refine mk_newq (t0 := 4) (N' := 4) (P := (fun _ => rV .null)) hx hb hown CL42 hMK.2.2.2.1 rfl hK hw (fun j _ => rfl) (by decide) (by decide) (by decide) (Nat.le_of_ble_eq_true rfl) (Nat.le_of_ble_eq_true rfl) dX11_init_72 (fun q72 H72 hw eq72 k72 nq72 => ?_)
  have zq72 : s.heap.size ≤ q72 := by rw [eq72]; exact hsz
  have ho := ho.kept (k72 a0 ho.lt)
  have g72 := hp_sub_up (ct := .inl (4, 4, (fun _ => rV .null))) nq72
  have hgr := hgr.up (ct := .inl (4, 4, (fun _ => rV .null))) zq72 nq72
  have hq72 := hp_up_s T64 q72 (.inl (4, 4, (fun _ => rV .null)))
  generalize hp_up T64 q72 (.inl (4, 4, (fun _ => rV .null))) = T72 at hw g72 hgr hq72
  have iq5 : isTape T72 q5 := isTape.mono g72 iq5
  have iq16 : isTownReader T72 q16 := isTownReader.mono g72 iq16
  have iq31 : isRuleReader T72 q31 := isRuleReader.mono g72 iq31
  have hq48 : T72 q48 = some (.inl (5, 6, (fun _ => rN Ru))) := g72 _ _ hq48
  have iq60 : isMemory T72 q60 (rV (.int 0)) := isMemory.mono g72 iq60
  have hTa : T72 a0 = none := hgr.nn hT0 ha0
  have hsz : s.heap.size ≤ H72.size := hw.2.1
  refine W.widen (k := 24) (n := 1381) (by omega) (by omega) ?_
  refine mk_putF hx hb hts IX11 tyX11 tyX11_ok nmX11 hown hK hw ho hTa (Or.inl rfl) rfl 6 (by decide) L49 rfl hin0 rfl rfl rfl dX11_init_75 (fun H75 locs75 hw ho => ?_)
  have hsz : s.heap.size ≤ H75.size := hw.2.1
  refine lv_aload_n hx hb dX11_init_78 rfl (lv_at hl 0 rfl) ?_
  refine mk_new (ci := 8) (C := RX8) (TT := TX8) (N := 11) hx hb hts IX8 tyX8 tyX8_ok hown CL53 ISX8 INX8 hK hw rfl (Nat.le_of_ble_eq_true rfl) (Nat.le_of_ble_eq_true rfl) dX11_init_79 (fun q79 H79 hw oq79 eq79 k79 nq79 => ?_)
  have zq79 : s.heap.size ≤ q79 := by rw [eq79]; exact hsz
  have lq79 : q79 < H79.size := oq79.lt
  have ho := ho.kept (k79 a0 ho.lt)
  have hsz : s.heap.size ≤ H79.size := hw.2.1
  refine W.widen (k := 25) (n := 1392) (by omega) (by omega) ?_
  refine lv_dup hx hb dX11_init_82 rfl ?_
  refine mk_call (va_runI (As := []) (rest := [.ref q79, .ref a0]) ⟨hx, hb, hml, hown, hts⟩ (mX8_init l D T72 q79 H79.size nq79) (cwI 0 hts gX11_init_X8_init rfl rfl rfl INX8 LK55 IMX8_init rfl (by decide +kernel) ⟨Nat.le_of_ble_eq_true rfl, Nat.le_of_ble_eq_true rfl⟩) (mk_pre hMK hw ⟨rfl, oq79⟩) rfl rfl hl.1 rfl (lv_room (Nat.le_of_ble_eq_true rfl)) dX11_init_83 ⟨Nat.le_of_ble_eq_true rfl, Nat.le_of_ble_eq_true rfl⟩) hw hA zq79 (fun T83 H83 locs83 iq79 hw x83 k83 => ?_)
  have ho := ho.kept (k83 a0 ho.lt (fun h => absurd zq79 (by rw [← h]; exact Nat.not_le.mpr ha0)))
  have hgr := hgr.call x83 hsz zq79
  have iq5 : isTape T83 q5 := isTape.mono x83.1 iq5
  have iq16 : isTownReader T83 q16 := isTownReader.mono x83.1 iq16
  have iq31 : isRuleReader T83 q31 := isRuleReader.mono x83.1 iq31
  have hq48 : T83 q48 = some (.inl (5, 6, (fun _ => rN Ru))) := x83.1 _ _ hq48
  have iq60 : isMemory T83 q60 (rV (.int 0)) := isMemory.mono x83.1 iq60
  have hq72 : T83 q72 = some (.inl (4, 4, (fun _ => rV .null))) := x83.1 _ _ hq72
  have hTa : T83 a0 = none := hgr.nn hT0 ha0
  have hsz : s.heap.size ≤ H83.size := hw.2.1
  refine mk_putF hx hb hts IX11 tyX11 tyX11_ok nmX11 hown hK hw ho hTa (Or.inl rfl) rfl 7 (by decide) L56 rfl hin0 rfl rfl rfl dX11_init_86 (fun H86 locs86 hw ho => ?_)
  have hsz : s.heap.size ≤ H86.size := hw.2.1
  refine lv_aload_n hx hb dX11_init_89 rfl (lv_at hl 0 rfl) ?_
  refine mk_new (ci := 5) (C := RX5) (TT := TX5) (N := 4) hx hb hts IX5 tyX5 tyX5_ok hown CL60 ISX5 INX5 hK hw rfl (Nat.le_of_ble_eq_true rfl) (Nat.le_of_ble_eq_true rfl) dX11_init_90 (fun q90 H90 hw oq90 eq90 k90 nq90 => ?_)
  have zq90 : s.heap.size ≤ q90 := by rw [eq90]; exact hsz
  have lq90 : q90 < H90.size := oq90.lt
  have ho := ho.kept (k90 a0 ho.lt)
  have hsz : s.heap.size ≤ H90.size := hw.2.1
  refine W.widen (k := 29) (n := 1598) (by omega) (by omega) ?_
  refine lv_dup hx hb dX11_init_93 rfl ?_
  refine mk_call (va_runIN (As := []) (rest := [.ref q90, .ref a0]) ⟨hx, hb, hml, hown, hts⟩ (mX5_init l D T83 q90 H90.size Ru nq90) ⟨va_cnB 0 hts gX11_init_X5_init_n62 rfl rfl rfl hMK.2.1.2.2.2.1 INX5 (by decide +kernel) ⟨Nat.le_of_ble_eq_true rfl, Nat.le_of_ble_eq_true rfl⟩, rfl, IMX5_init⟩ (mk_pre hMK hw ⟨rfl, oq90⟩) rfl rfl hl.1 rfl (lv_room (Nat.le_of_ble_eq_true rfl)) dX11_init_94 ⟨Nat.le_of_ble_eq_true rfl, Nat.le_of_ble_eq_true rfl⟩) hw hA zq90 (fun T94 H94 locs94 iq90 hw x94 k94 => ?_)
  have ho := ho.kept (k94 a0 ho.lt (fun h => absurd zq90 (by rw [← h]; exact Nat.not_le.mpr ha0)))
  have hgr := hgr.call x94 hsz zq90
  have iq5 : isTape T94 q5 := isTape.mono x94.1 iq5
  have iq16 : isTownReader T94 q16 := isTownReader.mono x94.1 iq16
  have iq31 : isRuleReader T94 q31 := isRuleReader.mono x94.1 iq31
  have hq48 : T94 q48 = some (.inl (5, 6, (fun _ => rN Ru))) := x94.1 _ _ hq48
  have iq60 : isMemory T94 q60 (rV (.int 0)) := isMemory.mono x94.1 iq60
  have hq72 : T94 q72 = some (.inl (4, 4, (fun _ => rV .null))) := x94.1 _ _ hq72
  have iq79 : isTown T94 q79 := isTown.mono x94.1 iq79
  have hTa : T94 a0 = none := hgr.nn hT0 ha0
  have hsz : s.heap.size ≤ H94.size := hw.2.1
  refine mk_putF hx hb hts IX11 tyX11 tyX11_ok nmX11 hown hK hw ho hTa (Or.inl rfl) rfl 8 (by decide) L63 rfl hin0 rfl rfl rfl dX11_init_97 (fun H97 locs97 hw ho => ?_)
  have hsz : s.heap.size ≤ H97.size := hw.2.1
  refine lv_aload_n hx hb dX11_init_100 rfl (lv_at hl 0 rfl) ?_
  refine mk_new (ci := 10) (C := RX10) (TT := TX10) (N := 12) hx hb hts IX10 tyX10 tyX10_ok hown CL67 ISX10 INX10 hK hw rfl (Nat.le_of_ble_eq_true rfl) (Nat.le_of_ble_eq_true rfl) dX11_init_101 (fun q101 H101 hw oq101 eq101 k101 nq101 => ?_)
  have zq101 : s.heap.size ≤ q101 := by rw [eq101]; exact hsz
  have lq101 : q101 < H101.size := oq101.lt
  have ho := ho.kept (k101 a0 ho.lt)
  have hsz : s.heap.size ≤ H101.size := hw.2.1
  refine W.widen (k := 33) (n := 1691) (by omega) (by omega) ?_
  refine lv_dup hx hb dX11_init_104 rfl ?_
  refine mk_call (va_runIN (As := []) (rest := [.ref q101, .ref a0]) ⟨hx, hb, hml, hown, hts⟩ (mX10_init l D T94 q101 H101.size nq101) ⟨va_cnB 0 hts gX11_init_X10_init_n69 rfl rfl rfl hMK.2.1.2.2.2.2.1 INX10 (by decide +kernel) ⟨Nat.le_of_ble_eq_true rfl, Nat.le_of_ble_eq_true rfl⟩, rfl, IMX10_init⟩ (mk_pre hMK hw ⟨rfl, oq101⟩) rfl rfl hl.1 rfl (lv_room (Nat.le_of_ble_eq_true rfl)) dX11_init_105 ⟨Nat.le_of_ble_eq_true rfl, Nat.le_of_ble_eq_true rfl⟩) hw hA zq101 (fun T105 H105 locs105 iq101 hw x105 k105 => ?_)
  have ho := ho.kept (k105 a0 ho.lt (fun h => absurd zq101 (by rw [← h]; exact Nat.not_le.mpr ha0)))
  have hgr := hgr.call x105 hsz zq101
  have iq5 : isTape T105 q5 := isTape.mono x105.1 iq5
  have iq16 : isTownReader T105 q16 := isTownReader.mono x105.1 iq16
  have iq31 : isRuleReader T105 q31 := isRuleReader.mono x105.1 iq31
  have hq48 : T105 q48 = some (.inl (5, 6, (fun _ => rN Ru))) := x105.1 _ _ hq48
  have iq60 : isMemory T105 q60 (rV (.int 0)) := isMemory.mono x105.1 iq60
  have hq72 : T105 q72 = some (.inl (4, 4, (fun _ => rV .null))) := x105.1 _ _ hq72
  have iq79 : isTown T105 q79 := isTown.mono x105.1 iq79
  have iq90 : isShaker T105 Ru q90 := isShaker.mono x105.1 iq90
  have hTa : T105 a0 = none := hgr.nn hT0 ha0
  have hsz : s.heap.size ≤ H105.size := hw.2.1
  refine mk_putF hx hb hts IX11 tyX11 tyX11_ok nmX11 hown hK hw ho hTa (Or.inl rfl) rfl 9 (by decide) L70 rfl hin0 rfl rfl rfl dX11_init_108 (fun H108 locs108 hw ho => ?_)
  have hsz : s.heap.size ≤ H108.size := hw.2.1
  refine lv_aload_n hx hb dX11_init_111 rfl (lv_at hl 0 rfl) ?_
  refine mk_new (ci := 2) (C := RX2) (TT := TX2) (N := 3) hx hb hts IX2 tyX2 tyX2_ok hown CL74 ISX2 INX2 hK hw rfl (Nat.le_of_ble_eq_true rfl) (Nat.le_of_ble_eq_true rfl) dX11_init_112 (fun q112 H112 hw oq112 eq112 k112 nq112 => ?_)
  have zq112 : s.heap.size ≤ q112 := by rw [eq112]; exact hsz
  have lq112 : q112 < H112.size := oq112.lt
  have ho := ho.kept (k112 a0 ho.lt)
  have hsz : s.heap.size ≤ H112.size := hw.2.1
  refine W.widen (k := 41) (n := 9972) (by omega) (by omega) ?_
  refine lv_dup hx hb dX11_init_115 rfl ?_
  refine mk_call (va_runIN (As := []) (rest := [.ref q112, .ref a0]) ⟨hx, hb, hml, hown, hts⟩ (mX2_init l D T105 q112 H112.size nq112) ⟨va_cnB 0 hts gX11_init_X2_init_n76 rfl rfl rfl hMK.2.1.2.2.2.2.2.1 INX2 (by decide +kernel) ⟨Nat.le_of_ble_eq_true rfl, Nat.le_of_ble_eq_true rfl⟩, rfl, IMX2_init⟩ (mk_pre hMK hw ⟨rfl, oq112⟩) rfl rfl hl.1 rfl (lv_room (Nat.le_of_ble_eq_true rfl)) dX11_init_116 ⟨Nat.le_of_ble_eq_true rfl, Nat.le_of_ble_eq_true rfl⟩) hw hA zq112 (fun T116 H116 locs116 iq112 hw x116 k116 => ?_)
  have ho := ho.kept (k116 a0 ho.lt (fun h => absurd zq112 (by rw [← h]; exact Nat.not_le.mpr ha0)))
  have hgr := hgr.call x116 hsz zq112
  have iq5 : isTape T116 q5 := isTape.mono x116.1 iq5
  have iq16 : isTownReader T116 q16 := isTownReader.mono x116.1 iq16
  have iq31 : isRuleReader T116 q31 := isRuleReader.mono x116.1 iq31
  have hq48 : T116 q48 = some (.inl (5, 6, (fun _ => rN Ru))) := x116.1 _ _ hq48
  have iq60 : isMemory T116 q60 (rV (.int 0)) := isMemory.mono x116.1 iq60
  have hq72 : T116 q72 = some (.inl (4, 4, (fun _ => rV .null))) := x116.1 _ _ hq72
  have iq79 : isTown T116 q79 := isTown.mono x116.1 iq79
  have iq90 : isShaker T116 Ru q90 := isShaker.mono x116.1 iq90
  have iq101 : isWorlds T116 q101 := isWorlds.mono x116.1 iq101
  have hTa : T116 a0 = none := hgr.nn hT0 ha0
  have hsz : s.heap.size ≤ H116.size := hw.2.1
  refine mk_putF hx hb hts IX11 tyX11 tyX11_ok nmX11 hown hK hw ho hTa (Or.inl rfl) rfl 10 (by decide) L77 rfl hin0 rfl rfl rfl dX11_init_119 (fun H119 locs119 hw ho => ?_)
  have hsz : s.heap.size ≤ H119.size := hw.2.1
  refine lv_aload_n hx hb dX11_init_122 rfl (lv_at hl 0 rfl) ?_
  refine mk_new (ci := 6) (C := RX6) (TT := TX6) (N := 6) hx hb hts IX6 tyX6 tyX6_ok hown CL81 ISX6 INX6 hK hw rfl (Nat.le_of_ble_eq_true rfl) (Nat.le_of_ble_eq_true rfl) dX11_init_123 (fun q123 H123 hw oq123 eq123 k123 nq123 => ?_)
  have zq123 : s.heap.size ≤ q123 := by rw [eq123]; exact hsz
  have lq123 : q123 < H123.size := oq123.lt
  have ho := ho.kept (k123 a0 ho.lt)
  have hsz : s.heap.size ≤ H123.size := hw.2.1
  refine W.widen (k := 43) (n := 9988) (by omega) (by omega) ?_
  refine lv_dup hx hb dX11_init_126 rfl ?_
  refine mk_call (va_runIN (As := []) (rest := [.ref q123, .ref a0]) ⟨hx, hb, hml, hown, hts⟩ (mX6_init l D T116 q123 H123.size nq123) ⟨va_cnB 0 hts gX11_init_X6_init_n83 rfl rfl rfl hMK.2.1.2.2.2.2.2.2.1 INX6 (by decide +kernel) ⟨Nat.le_of_ble_eq_true rfl, Nat.le_of_ble_eq_true rfl⟩, rfl, IMX6_init⟩ (mk_pre hMK hw ⟨rfl, oq123⟩) rfl rfl hl.1 rfl (lv_room (Nat.le_of_ble_eq_true rfl)) dX11_init_127 ⟨Nat.le_of_ble_eq_true rfl, Nat.le_of_ble_eq_true rfl⟩) hw hA zq123 (fun T127 H127 locs127 iq123 hw x127 k127 => ?_)
  have ho := ho.kept (k127 a0 ho.lt (fun h => absurd zq123 (by rw [← h]; exact Nat.not_le.mpr ha0)))
  have hgr := hgr.call x127 hsz zq123
  have iq5 : isTape T127 q5 := isTape.mono x127.1 iq5
  have iq16 : isTownReader T127 q16 := isTownReader.mono x127.1 iq16
  have iq31 : isRuleReader T127 q31 := isRuleReader.mono x127.1 iq31
  have hq48 : T127 q48 = some (.inl (5, 6, (fun _ => rN Ru))) := x127.1 _ _ hq48
  have iq60 : isMemory T127 q60 (rV (.int 0)) := isMemory.mono x127.1 iq60
  have hq72 : T127 q72 = some (.inl (4, 4, (fun _ => rV .null))) := x127.1 _ _ hq72
  have iq79 : isTown T127 q79 := isTown.mono x127.1 iq79
  have iq90 : isShaker T127 Ru q90 := isShaker.mono x127.1 iq90
  have iq101 : isWorlds T127 q101 := isWorlds.mono x127.1 iq101
  have iq112 : isParity T127 q112 := isParity.mono x127.1 iq112
  have hTa : T127 a0 = none := hgr.nn hT0 ha0
  have hsz : s.heap.size ≤ H127.size := hw.2.1
  refine mk_putF hx hb hts IX11 tyX11 tyX11_ok nmX11 hown hK hw ho hTa (Or.inl rfl) rfl 11 (by decide) L84 rfl hin0 rfl rfl rfl dX11_init_130 (fun H130 locs130 hw ho => ?_)
  have hsz : s.heap.size ≤ H130.size := hw.2.1
  refine lv_aload_n hx hb dX11_init_133 rfl (lv_at hl 0 rfl) ?_
  refine mk_new (ci := 0) (C := RX0) (TT := TX0) (N := 4) hx hb hts IX0 tyX0 tyX0_ok hown CL88 ISX0 INX0 hK hw rfl (Nat.le_of_ble_eq_true rfl) (Nat.le_of_ble_eq_true rfl) dX11_init_134 (fun q134 H134 hw oq134 eq134 k134 nq134 => ?_)
  have zq134 : s.heap.size ≤ q134 := by rw [eq134]; exact hsz
  have lq134 : q134 < H134.size := oq134.lt
  have ho := ho.kept (k134 a0 ho.lt)
  have hsz : s.heap.size ≤ H134.size := hw.2.1
  refine W.widen (k := 49) (n := 10054) (by omega) (by omega) ?_
  refine lv_dup hx hb dX11_init_137 rfl ?_
  refine mk_call (va_runIN (As := []) (rest := [.ref q134, .ref a0]) ⟨hx, hb, hml, hown, hts⟩ (mX0_init l D T127 q134 H134.size nq134) ⟨va_cnB 0 hts gX11_init_X0_init_n90 rfl rfl rfl hMK.2.1.2.2.2.2.2.2.2 INX0 (by decide +kernel) ⟨Nat.le_of_ble_eq_true rfl, Nat.le_of_ble_eq_true rfl⟩, rfl, IMX0_init⟩ (mk_pre hMK hw ⟨rfl, oq134⟩) rfl rfl hl.1 rfl (lv_room (Nat.le_of_ble_eq_true rfl)) dX11_init_138 ⟨Nat.le_of_ble_eq_true rfl, Nat.le_of_ble_eq_true rfl⟩) hw hA zq134 (fun T138 H138 locs138 iq134 hw x138 k138 => ?_)
  have ho := ho.kept (k138 a0 ho.lt (fun h => absurd zq134 (by rw [← h]; exact Nat.not_le.mpr ha0)))
  have hgr := hgr.call x138 hsz zq134
  have iq5 : isTape T138 q5 := isTape.mono x138.1 iq5
  have iq16 : isTownReader T138 q16 := isTownReader.mono x138.1 iq16
  have iq31 : isRuleReader T138 q31 := isRuleReader.mono x138.1 iq31
  have hq48 : T138 q48 = some (.inl (5, 6, (fun _ => rN Ru))) := x138.1 _ _ hq48
  have iq60 : isMemory T138 q60 (rV (.int 0)) := isMemory.mono x138.1 iq60
  have hq72 : T138 q72 = some (.inl (4, 4, (fun _ => rV .null))) := x138.1 _ _ hq72
  have iq79 : isTown T138 q79 := isTown.mono x138.1 iq79
  have iq90 : isShaker T138 Ru q90 := isShaker.mono x138.1 iq90
  have iq101 : isWorlds T138 q101 := isWorlds.mono x138.1 iq101
  have iq112 : isParity T138 q112 := isParity.mono x138.1 iq112
  have iq123 : isShuns T138 q123 := isShuns.mono x138.1 iq123
  have hTa : T138 a0 = none := hgr.nn hT0 ha0
  have hsz : s.heap.size ≤ H138.size := hw.2.1
  refine mk_putF hx hb hts IX11 tyX11 tyX11_ok nmX11 hown hK hw ho hTa (Or.inl rfl) rfl 12 (by decide) L91 rfl hin0 rfl rfl rfl dX11_init_141 (fun H141 locs141 hw ho => ?_)
  have hsz : s.heap.size ≤ H141.size := hw.2.1
  have hsu := hp_sub_up (ct := .inr (11, [(rR q5), (rR q16), (rR q31), (rR q48), (rI 0 6), (rR q60), (rR q72), (rR q79), (rR q90), (rR q101), (rR q112), (rR q123), (rR q134)])) hTa
  have hfin : isPC (hp_up T138 a0 (.inr (11, [(rR q5), (rR q16), (rR q31), (rR q48), (rI 0 6), (rR q60), (rR q72), (rR q79), (rR q90), (rR q101), (rR q112), (rR q123), (rR q134)]))) Ru a0 := ⟨q5, q16, q31, q48, q60, q72, q79, q90, q101, q112, q123, q134, hp_up_s _ _ _, isTape.mono hsu iq5, isTownReader.mono hsu iq16, isRuleReader.mono hsu iq31, hsu _ _ hq48, isMemory.mono hsu iq60, hsu _ _ hq72, isTown.mono hsu iq79, isShaker.mono hsu iq90, isWorlds.mono hsu iq101, isParity.mono hsu iq112, isShuns.mono hsu iq123, isBest.mono hsu iq134⟩
  have hok : hp_ok D (hp_up T138 a0 (.inr (11, [(rR q5), (rR q16), (rR q31), (rR q48), (rI 0 6), (rR q60), (rR q72), (rR q79), (rR q90), (rR q101), (rR q112), (rR q123), (rR q134)]))) H141 := mk_end hw.1 hTa ho (by
    intro k P hk
    match k, hk with
    | 0, hk => cases hk; exact rfl
    | 1, hk => cases hk; exact rfl
    | 2, hk => cases hk; exact rfl
    | 3, hk => cases hk; exact rfl
    | 4, hk => cases hk; exact ⟨0, rfl, ⟨by decide, by decide⟩⟩
    | 5, hk => cases hk; exact rfl
    | 6, hk => cases hk; exact rfl
    | 7, hk => cases hk; exact rfl
    | 8, hk => cases hk; exact rfl
    | 9, hk => cases hk; exact rfl
    | 10, hk => cases hk; exact rfl
    | 11, hk => cases hk; exact rfl
    | 12, hk => cases hk; exact rfl
    | k + 13, hk => simp at hk)
  exact W.vret hx hb hr (fun t ht hW => ⟨rfl, _, hgr.end_ hTa, hfin, by rw [ht]; exact hok, hw.2.F ht⟩) hw.2.2.2 dX11_init_144
