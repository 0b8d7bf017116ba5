theorem isBest.sM {T T1 : hp_T} {a : Nat} (g : hp_sc 4 1 T T1) (h : isBest T a) : isBest T1 a := g _ _ h rfl
theorem isTown.sM {T T1 : hp_T} {a : Nat} (g : hp_sc 4 1 T T1) (h : isTown T a) : isTown T1 a := by
  obtain ⟨kin, pl, cr, h0, jkin, jpl, jcr⟩ := h
  exact ⟨kin, pl, cr, g _ _ h0 rfl, g _ _ jkin rfl, g _ _ jpl rfl, g _ _ jcr rfl⟩
theorem isTape.sM {T T1 : hp_T} {a : Nat} (g : hp_sc 4 1 T T1) (h : isTape T a) : isTape T1 a := by
  obtain ⟨bt, h0, jbt⟩ := h
  exact ⟨bt, g _ _ h0 rfl, g _ _ jbt rfl⟩
theorem isTownReader.sM {T T1 : hp_T} {a : Nat} (g : hp_sc 4 1 T T1) (h : isTownReader T a) : isTownReader T1 a := by
  obtain ⟨tp, tw, h0, jtp, jtw⟩ := h
  exact ⟨tp, tw, g _ _ h0 rfl, isTape.sM g jtp, isTown.sM g jtw⟩
theorem isRule.sM {T T1 : hp_T} {a : Nat} (g : hp_sc 4 1 T T1) (h : isRule T a) : isRule T1 a := by
  obtain ⟨stp, nstp, h0, bstp, jstp⟩ := h
  exact ⟨stp, nstp, g _ _ h0 rfl, bstp, g _ _ jstp rfl⟩
theorem isRuleReader.sM {T T1 : hp_T} {a : Nat} (g : hp_sc 4 1 T T1) (h : isRuleReader T a) : isRuleReader T1 a := by
  obtain ⟨tp, stp, h0, jtp, jstp⟩ := h
  exact ⟨tp, stp, g _ _ h0 rfl, isTape.sM g jtp, g _ _ jstp rfl⟩
theorem isShaker.sM {T T1 : hp_T} {a : Nat} {Ru : Nat → Prop} (g : hp_sc 4 1 T T1) (h : isShaker T Ru a) : isShaker T1 Ru a := by
  obtain ⟨wd, sk, th, h0, jwd, jsk, jth⟩ := h
  exact ⟨wd, sk, th, g _ _ h0 rfl, g _ _ jwd rfl, g _ _ jsk rfl, g _ _ jth rfl⟩
theorem isWorlds.sM {T T1 : hp_T} {a : Nat} (g : hp_sc 4 1 T T1) (h : isWorlds T a) : isWorlds T1 a := by
  obtain ⟨fi, wo, su, sh, me, s1, s2, h0, jfi, jwo, jsu, jsh, jme, js1, js2⟩ := h
  exact ⟨fi, wo, su, sh, me, s1, s2, g _ _ h0 rfl, g _ _ jfi rfl, g _ _ jwo rfl, g _ _ jsu rfl, g _ _ jsh rfl, g _ _ jme rfl, g _ _ js1 rfl, g _ _ js2 rfl⟩
theorem isParity.sM {T T1 : hp_T} {a : Nat} (g : hp_sc 4 1 T T1) (h : isParity T a) : isParity T1 a := by
  obtain ⟨bo, h0, jbo⟩ := h
  exact ⟨bo, g _ _ h0 rfl, g _ _ jbo rfl⟩
theorem isShuns.sM {T T1 : hp_T} {a : Nat} (g : hp_sc 4 1 T T1) (h : isShuns T a) : isShuns T1 a := by
  obtain ⟨le, gr, du, it, op, h0, jle, jgr, jdu, jit, jop⟩ := h
  exact ⟨le, gr, du, it, op, g _ _ h0 rfl, g _ _ jle rfl, g _ _ jgr rfl, g _ _ jdu rfl, g _ _ jit rfl, g _ _ jop rfl⟩
theorem isBest.sR {T T1 : hp_T} {a : Nat} (g : hp_sc 5 5 T T1) (h : isBest T a) : isBest T1 a := g _ _ h rfl
theorem isTown.sR {T T1 : hp_T} {a : Nat} (g : hp_sc 5 5 T T1) (h : isTown T a) : isTown T1 a := by
  obtain ⟨kin, pl, cr, h0, jkin, jpl, jcr⟩ := h
  exact ⟨kin, pl, cr, g _ _ h0 rfl, g _ _ jkin rfl, g _ _ jpl rfl, g _ _ jcr rfl⟩
theorem isTape.sR {T T1 : hp_T} {a : Nat} (g : hp_sc 5 5 T T1) (h : isTape T a) : isTape T1 a := by
  obtain ⟨bt, h0, jbt⟩ := h
  exact ⟨bt, g _ _ h0 rfl, g _ _ jbt rfl⟩
theorem isTownReader.sR {T T1 : hp_T} {a : Nat} (g : hp_sc 5 5 T T1) (h : isTownReader T a) : isTownReader T1 a := by
  obtain ⟨tp, tw, h0, jtp, jtw⟩ := h
  exact ⟨tp, tw, g _ _ h0 rfl, isTape.sR g jtp, isTown.sR g jtw⟩
theorem isRule.sR {T T1 : hp_T} {a : Nat} (g : hp_sc 5 5 T T1) (h : isRule T a) : isRule T1 a := by
  obtain ⟨stp, nstp, h0, bstp, jstp⟩ := h
  exact ⟨stp, nstp, g _ _ h0 rfl, bstp, g _ _ jstp rfl⟩
theorem isRuleReader.sR {T T1 : hp_T} {a : Nat} (g : hp_sc 5 5 T T1) (h : isRuleReader T a) : isRuleReader T1 a := by
  obtain ⟨tp, stp, h0, jtp, jstp⟩ := h
  exact ⟨tp, stp, g _ _ h0 rfl, isTape.sR g jtp, g _ _ jstp rfl⟩
theorem isMemory.sR {T T1 : hp_T} {a : Nat} {px : Value → Prop} (g : hp_sc 5 5 T T1) (h : isMemory T a px) : isMemory T1 a px := by
  obtain ⟨tw, tg, th, ts, pm, ak, ao, ah, aw, h0, jtw, jtg, jth, jts, jpm, jak, jao, jah, jaw⟩ := h
  exact ⟨tw, tg, th, ts, pm, ak, ao, ah, aw, g _ _ h0 rfl, isTown.sR g jtw, g _ _ jtg rfl, g _ _ jth rfl, g _ _ jts rfl, g _ _ jpm rfl, g _ _ jak rfl, g _ _ jao rfl, g _ _ jah rfl, g _ _ jaw rfl⟩
theorem isWorlds.sR {T T1 : hp_T} {a : Nat} (g : hp_sc 5 5 T T1) (h : isWorlds T a) : isWorlds T1 a := by
  obtain ⟨fi, wo, su, sh, me, s1, s2, h0, jfi, jwo, jsu, jsh, jme, js1, js2⟩ := h
  exact ⟨fi, wo, su, sh, me, s1, s2, g _ _ h0 rfl, g _ _ jfi rfl, g _ _ jwo rfl, g _ _ jsu rfl, g _ _ jsh rfl, g _ _ jme rfl, g _ _ js1 rfl, g _ _ js2 rfl⟩
theorem isParity.sR {T T1 : hp_T} {a : Nat} (g : hp_sc 5 5 T T1) (h : isParity T a) : isParity T1 a := by
  obtain ⟨bo, h0, jbo⟩ := h
  exact ⟨bo, g _ _ h0 rfl, g _ _ jbo rfl⟩
theorem isShuns.sR {T T1 : hp_T} {a : Nat} (g : hp_sc 5 5 T T1) (h : isShuns T a) : isShuns T1 a := by
  obtain ⟨le, gr, du, it, op, h0, jle, jgr, jdu, jit, jop⟩ := h
  exact ⟨le, gr, du, it, op, g _ _ h0 rfl, g _ _ jle rfl, g _ _ jgr rfl, g _ _ jdu rfl, g _ _ jit rfl, g _ _ jop rfl⟩
theorem isMemory.self {T : hp_T} {a : Nat} {px : Value → Prop} (h : isMemory T a px) : ∃ Ps : List (Value → Prop), T a = some (.inr (1, Ps)) ∧ Ps[2]? = some px ∧ ∀ py : Value → Prop, isMemory (hp_up T a (.inr (1, Ps.set 2 py))) a py := by
  obtain ⟨tw, tg, th, ts, pm, ak, ao, ah, aw, h0, jtw, jtg, jth, jts, jpm, jak, jao, jah, jaw⟩ := h
  refine ⟨_, h0, rfl, fun py => ?_⟩
  have g : hp_sc 4 1 T (hp_up T a (.inr (1, [(rR tw), rA, px, (rI 0 10), (rR tg), (rR th), (rR ts), (rR pm), (rI 0 20), (rR ak), (rR ao), (rR ah), (rR aw)].set 2 py))) := hp_sc.upO h0
  exact ⟨tw, tg, th, ts, pm, ak, ao, ah, aw, hp_up_s _ _ _, isTown.sM g jtw, g _ _ jtg rfl, g _ _ jth rfl, g _ _ jts rfl, g _ _ jpm rfl, g _ _ jak rfl, g _ _ jao rfl, g _ _ jah rfl, g _ _ jaw rfl⟩
theorem isMemory.other {T : hp_T} {a b : Nat} {Ps Ps2 : List (Value → Prop)} {px : Value → Prop} (ha : T a = some (.inr (1, Ps))) (hne : b ≠ a) (h : isMemory T b px) : isMemory (hp_up T a (.inr (1, Ps2))) b px := by
  obtain ⟨tw, tg, th, ts, pm, ak, ao, ah, aw, h0, jtw, jtg, jth, jts, jpm, jak, jao, jah, jaw⟩ := h
  have g : hp_sc 4 1 T (hp_up T a (.inr (1, Ps2))) := hp_sc.upO ha
  exact ⟨tw, tg, th, ts, pm, ak, ao, ah, aw, (hp_up_n hne).trans h0, isTown.sM g jtw, g _ _ jtg rfl, g _ _ jth rfl, g _ _ jts rfl, g _ _ jpm rfl, g _ _ jak rfl, g _ _ jao rfl, g _ _ jah rfl, g _ _ jaw rfl⟩
theorem isMemory.im {T : hp_T} {a b n : Nat} {P P2 : Nat → Value → Prop} {px : Value → Prop} (ha : T a = some (.inl (4, n, P))) (h : isMemory T b px) : isMemory (hp_up T a (.inl (4, n, P2))) b px := by
  obtain ⟨tw, tg, th, ts, pm, ak, ao, ah, aw, h0, jtw, jtg, jth, jts, jpm, jak, jao, jah, jaw⟩ := h
  have g : hp_sc 4 1 T (hp_up T a (.inl (4, n, P2))) := hp_sc.upA ha
  have hne : b ≠ a := fun z => by
    rw [z, ha] at h0
    cases h0
  exact ⟨tw, tg, th, ts, pm, ak, ao, ah, aw, (hp_up_n hne).trans h0, isTown.sM g jtw, g _ _ jtg rfl, g _ _ jth rfl, g _ _ jts rfl, g _ _ jpm rfl, g _ _ jak rfl, g _ _ jao rfl, g _ _ jah rfl, g _ _ jaw rfl⟩
set_option maxHeartbeats 4000000 in
set_option maxRecDepth 100000 in
theorem sX11_seed (l : Launch) (D : hp_D) (T : hp_T) (ap0 : Nat) (xp1 xi : Int32) (Ru : Nat → Prop) (hRu : ∀ b, Ru b → isRule T b) (ap0tp ap0tr ap0rr ap0rl ap0nw ap0im ap0tl ap0sk ap0iq ap0pa ap0sn ap0be : Nat) (hp0 : T ap0 = some (.inr (11, [(rR ap0tp), (rR ap0tr), (rR ap0rr), (rR ap0rl), (rI 0 6), (rR ap0nw), (rR ap0im), (rR ap0tl), (rR ap0sk), (rR ap0iq), (rR ap0pa), (rR ap0sn), (rR ap0be)]))) (ip0tp : isTape T ap0tp) (ip0tr : isTownReader T ap0tr) (ip0rr : isRuleReader T ap0rr) (hp0rl : T ap0rl = some (.inl (5, 6, fun _ => rN Ru))) (ip0nw : isMemory T ap0nw rA) (pimp0 : Nat → Value → Prop) (hp0im : T ap0im = some (.inl (4, 4, pimp0))) (ip0tl : isTown T ap0tl) (ip0sk : isShaker T Ru ap0sk) (ip0iq : isWorlds T ap0iq) (ip0pa : isParity T ap0pa) (ip0sn : isShuns T ap0sn) (ip0be : isBest T ap0be) : Met l yX11_seed wsX11_seed ({ frames := 0, cells := 0, slots := 0, locals := 0 }) (hp_Pc D T [.ref ap0, .int xp1] (fun H => hp_f D H ap0nw 1 2 (.int xi))) (hq_e D T (fun v _ t => ∃ r : Int32, v = some (.int r) ∧ ((¬ 0 ≤ xp1 ∧ r = -1 ∧ hp_f D t.heap ap0nw 1 2 (.int xi)) ∨ (0 ≤ xp1 ∧ r = xi ∧ hp_f D t.heap ap0nw 1 2 (.int xp1))))) 0 0 (hp_F T) := by
  obtain ⟨ap0tpbt, hp0tp, hp0tpbt⟩ := id ip0tp
  obtain ⟨ap0trtp, ap0trtw, hp0tr, ip0trtp, ip0trtw⟩ := id ip0tr
  obtain ⟨ap0trtpbt, hp0trtp, hp0trtpbt⟩ := id ip0trtp
  obtain ⟨ap0trtwkin, ap0trtwpl, ap0trtwcr, hp0trtw, hp0trtwkin, hp0trtwpl, hp0trtwcr⟩ := id ip0trtw
  obtain ⟨ap0rrtp, ap0rrstp, hp0rr, ip0rrtp, hp0rrstp⟩ := id ip0rr
  obtain ⟨ap0rrtpbt, hp0rrtp, hp0rrtpbt⟩ := id ip0rrtp
  obtain ⟨ap0nwtw, ap0nwtg, ap0nwth, ap0nwts, ap0nwpm, ap0nwak, ap0nwao, ap0nwah, ap0nwaw, hp0nw, ip0nwtw, hp0nwtg, hp0nwth, hp0nwts, hp0nwpm, hp0nwak, hp0nwao, hp0nwah, hp0nwaw⟩ := id ip0nw
  obtain ⟨ap0nwtwkin, ap0nwtwpl, ap0nwtwcr, hp0nwtw, hp0nwtwkin, hp0nwtwpl, hp0nwtwcr⟩ := id ip0nwtw
  obtain ⟨ap0tlkin, ap0tlpl, ap0tlcr, hp0tl, hp0tlkin, hp0tlpl, hp0tlcr⟩ := id ip0tl
  obtain ⟨ap0skwd, ap0sksk, ap0skth, hp0sk, hp0skwd, hp0sksk, hp0skth⟩ := id ip0sk
  obtain ⟨ap0iqfi, ap0iqwo, ap0iqsu, ap0iqsh, ap0iqme, ap0iqs1, ap0iqs2, hp0iq, hp0iqfi, hp0iqwo, hp0iqsu, hp0iqsh, hp0iqme, hp0iqs1, hp0iqs2⟩ := id ip0iq
  obtain ⟨ap0pabo, hp0pa, hp0pabo⟩ := id ip0pa
  obtain ⟨ap0snle, ap0sngr, ap0sndu, ap0snit, ap0snop, hp0sn, hp0snle, hp0sngr, hp0sndu, hp0snit, hp0snop⟩ := id ip0sn
  have hp0be : T ap0be = some (.inr (0, [(rI 0 1), rA, rA, rA])) := ip0be
  refine Met.ofW (cc := cX11_seed) (maxL := 3) (ret := (some .int)) (by decide) rfl ?_
  intro p e s m args below meth c s₁ B hml hv
  obtain ⟨rfl, hok, hG, hB⟩ := hv
  have hx := B.exec
  have hb := B.bytes
  have hr := B.returns
  have hts := atoms_spec (ws := wsX11_seed) B.pre
  have hown : s.vm.findClass RX11 = some m.cls := findClass_of_methodNamed B.named
  have hlocks := B.notSynchronized
  have hK := hG.1
  have hw : hp_w D T s s.heap [] := hp_w.rf hok
  have IX1 : ∀ w ∈ wsX10, w ∈ wsX11_seed := by decide +kernel
  have IX11 : ∀ w ∈ wsX110, w ∈ wsX11_seed := by decide +kernel
  have L45 := hts (.fieldLink RX11 45 "PalmCensus" "now" "LPalmCensus$Memory;") (by decide +kernel)
  have L329 := hts (.fieldLink RX11 329 "PalmCensus$Memory" "x" "I") (by decide +kernel)
  have hl := lv_entry ([.ref ap0, .int xp1]) (n := 3) (Nat.le_of_ble_eq_true rfl)
  rw [lg_entry_eq]
  generalize (lg_sl ([.ref ap0, .int xp1]) ++ List.replicate (3 - (lg_sl ([.ref ap0, .int xp1])).length) Slot.unset).toArray = ls at hl ⊢
  have hl : lv_has ls 3 [(0, .ref ap0), (1, .int xp1)] := hl
  refine lv_iload_n hx hb dX11_seed_0 rfl (lv_at hl 1 rfl) ?_
  refine lv_if_ge (tgt := 6) hx hb dX11_seed_1 (by decide) (fun c1 => ?_) (fun c1 => ?_)
  · refine lv_aload_n hx hb dX11_seed_6 rfl (lv_at hl 0 rfl) ?_
    refine hp_getr hx hb hts IX11 hown hK hw.1 hp0 rfl 5 (by decide) L45 rfl dX11_seed_7 ?_
    refine hp_getA hx hb hts IX1 hown hK hw.1 hp0nw rfl 2 (by decide) L329 rfl dX11_seed_10 (fun x10 fx10 => ?_)
    have hx10 : x10 = xi := by
      have h9 := hp_f_uniq (k := 2) rfl (by decide) fx10 hB
      cases h9
      rfl
    refine lv_istore_n (lv' := [(2, .int x10), (0, .ref ap0), (1, .int xp1)]) hx hb dX11_seed_13 rfl hl (by decide) rfl (fun ls hl => ?_)
    refine lv_aload_n hx hb dX11_seed_14 rfl (lv_at hl 1 rfl) ?_
    refine hp_getr hx hb hts IX11 hown hK hw.1 hp0 rfl 5 (by decide) L45 rfl dX11_seed_15 ?_
    refine lv_iload_n hx hb dX11_seed_18 rfl (lv_at hl 2 rfl) ?_
    refine hp_put hx hb hts IX1 tyX1 tyX1_ok nmX1 hown hK hw hp0nw rfl 2 (by decide) L329 rfl rfl ⟨_, rfl⟩ rfl rfl dX11_seed_19 (fun H19 locs19 hw f19 g19 => ?_)
    refine lv_iload_n hx hb dX11_seed_22 rfl (lv_at hl 0 rfl) ?_
    exact W.iret (v := x10) hx hb hr (fun t ht hW => ⟨some (.int x10), rfl, ⟨x10, rfl, Or.inr ⟨c1, hx10, by rw [ht]; exact f19⟩⟩, by rw [ht]; exact hw.1, hw.2.F ht⟩) hw.2.2.2 dX11_seed_23
  · refine lv_iconst (v := (-1)) hx hb dX11_seed_4 (by decide) ?_
    exact W.iret (v := (-1)) hx hb hr (fun t ht hW => ⟨some (.int (-1)), rfl, ⟨((-1) : Int32), rfl, Or.inl ⟨c1, rfl, by rw [ht]; exact hB⟩⟩, by rw [ht]; exact hw.1, hw.2.F ht⟩) hw.2.2.2 dX11_seed_5
