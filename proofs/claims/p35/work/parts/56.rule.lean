/-! RULE of the class -/
section LWP
variable {p : Program} {l : Launch} {e : Env} {R : Room} {s : State} {m : MethodId} {args : Array Value} {below : List Frame} {meth : Method} {c : Code} {H : Heap} {locs : List Loc} {cells slots : Nat} {Q : State → Prop}
variable {cc : ByteArray} {pc : Nat} {ls : Array Slot} {rest : List Value} {D : hp_D} {T : hp_T} {a : Nat} {A : Nat → Prop} {st0 : List Value} {av : Array Value} {mc ms : Nat}
theorem lw_put (hexec : p.tables.exec = Jvm.exec) (hb : c.code = cc) {own C : String} {TT : u_T} {N ci index : Nat} {Ts : List Cond} (hts : ∀ w ∈ Ts, w.before args s = true) (hin : ∀ w ∈ u_ws C TT N, w ∈ Ts) (ty0 : Nat → FieldType) (hty : ∀ k, k < N → parseFieldDescriptor (TT k).2.2.1 = some (ty0 k)) (hnm : ∀ a, a < N → ∀ b, b < N → a ≠ b → (TT a).2.1 ≠ (TT b).2.1) (hown : s.vm.findClass own = some m.cls) (hK : hp_K D s) (hH : mk_w D T A s H locs) (hAa : A a) {Ps : List (Value → Prop)} (ha : T a = some (.inr (ci, Ps))) (hc : vwCl[ci]? = some (C, TT, N)) (k : Nat) (hk : k < N) (hlink : (Cond.fieldLink own index (TT k).1 (TT k).2.1 (TT k).2.2.1).before args s = true) (hfin : (TT k).2.2.2 = false) {P : Value → Prop} (hp : Ps[k]? = some P) {v : Value} (hv : P v) (hn : narrow (ty0 k) v = v) (hfit : fits (ty0 k) v = true) (hdg : decode cc pc = .ok (.putfield index, 3))
    (kk : ∀ (H1 : Heap) (locs1 : List Loc), mk_w D T A s H1 locs1 → hp_f D H1 a ci k v → hp_wr D H H1 a ci k → W p l e R s m args below meth c H1 locs1 cells slots Q (F0 m (pc + 3) ls rest)) : W p l e R s m args below meth c H locs cells slots Q (F0 m pc ls (v :: .ref a :: rest)) := by
  obtain ⟨hO, hS0⟩ := hH
  obtain ⟨r, V, h1, ⟨cell, q1, q2, q3, q4⟩, h3⟩ := hO a _ ha
  have hr : r = (C, TT, N) := Option.some.inj (h1.symm.trans hc)
  subst hr
  have hap := va_apart (own := own) hts hin ty0 hty hnm hK hc
  obtain ⟨hS, hfc, kC, hkC, hkind⟩ := hK.1 ci _ hc
  obtain ⟨cf, kf, fi, f, hi, hsl⟩ := hS k hk
  have hlay := hts _ (hin _ (u_in_lay hk))
  unfold u_lay at hlay
  rw [if_neg (by rw [hfin]; decide)] at hlay
  have hst := (u_facts hfc hkC (u_lays hts hin hk) hi).1
  have h6 := u_store hfc hkC hkind hlay hi (hty k hk) hn hfit
  refine W.putK hexec hb (f := f) ⟨hown, hlink, ⟨_, _, _, hi⟩, hst⟩ (by rw [q2]; exact h6) q1 q3 (by rw [hsl]; exact k2_hasslot (q4 k hk)) rfl rfl hdg fun H' e1 e2 e3 => ?_
  rw [hsl] at e1 ⊢
  have hob : t_OB a (D.1.1 ci) N (D.1.2 ci) H' (updV V k v) := ⟨_, e1, q2, q3, t_set q4 hap hk v⟩
  refine kk H' _ ⟨fun b t hbt => ?_, hS0.put e2 e3 hAa⟩ ⟨_, updV V k v, hc, hob, by simp [updV]⟩ (fun b cj j w hw hne => ?_)
  · by_cases hba : b = a
    · subst hba
      have ht : t = .inr (ci, Ps) := Option.some.inj (hbt.symm.trans ha)
      subst ht
      refine ⟨_, updV V k v, hc, hob, fun j P' hj => ?_⟩
      by_cases hjk : j = k
      · subst hjk
        have : P' = P := Option.some.inj (hj.symm.trans hp)
        subst this
        simpa [updV] using hv
      · simpa [updV, hjk] using h3 j P' hj
    · exact (hO b t hbt).kept (e3 b hba)
  · by_cases hba : b = a
    · subst hba
      obtain ⟨hcj, hjk⟩ := hne.resolve_left (fun h => h rfl)
      subst hcj
      obtain ⟨r', V', w1, ⟨cell', c1, c2, c3, c4⟩, w3⟩ := hw
      cases q1.symm.trans c1
      have hr' : r' = (C, TT, N) := Option.some.inj (w1.symm.trans hc)
      subst hr'
      exact ⟨_, updV V' k v, hc, ⟨_, e1, c2, c3, t_set c4 hap hk v⟩, by simp [updV, hjk, w3]⟩
    · exact hw.kept (e3 b hba)
/-- a call that knows a part of the typing alone -/
theorem mk_callT {T' : hp_T} {post : Option Value → State → State → Prop} (hr : va_Run p l e R s m args below meth c H locs cells slots mc ms (F0 m pc ls st0) rest (hq_e D T' post av) (hp_F T')) (hH : mk_w D T A s H locs) (hTA : ∀ q, hp_F T q → A q) (hs : hp_sub T' T)
    (kk : ∀ (v : Option Value) (st t : State) (H1 : Heap) (locs1 : List Loc), post v st t → mk_w D T A s H1 locs1 → H.size ≤ H1.size → (∀ q, q < H.size → ¬ hp_F T' q → H1[q]? = H[q]?) → W p l e R s m args below meth c H1 locs1 (cells + mc) (slots + ms) Q (F0 m (pc + 3) ls (v.toList ++ rest))) : W p l e R s m args below meth c H locs cells slots Q (F0 m pc ls st0) := by
  intro T0 hT X
  obtain ⟨v, st₀, t, T2, L, h0, X', hL, e1, e2, ⟨v', hv, hp, hok, hz, hk⟩, st⟩ := hr T0 hT X
  cases hv
  rw [h0] at hz hk
  have hF : ∀ q, hp_F T' q → A q := fun q hq => by
    obtain ⟨ct, hct⟩ := hq
    exact hTA q ⟨ct, hs q ct hct⟩
  have hq2 : ∀ q, q < H.size → ¬ hp_F T' q → T2.heap[q]? = H[q]? := fun q h1 h2 => by rw [e1]; exact hk q h1 h2
  have hw : mk_w D T A s T2.heap (locs ++ L) := ⟨fun b ct hb => by
    by_cases hf : hp_F T' b
    · obtain ⟨c2, hc2⟩ := hf
      have e9 : c2 = ct := Option.some.inj ((hs b c2 hc2).symm.trans hb)
      rw [← e9, e1]
      exact hok b c2 hc2
    · exact (hH.1 b ct hb).kept (hq2 b (hH.1 b ct hb).lt hf), Nat.le_trans hH.2.1 (by rw [e1]; exact hz), fun q h1 h2 => (hq2 q (Nat.lt_of_lt_of_le h1 hH.2.1) (fun z => h2 (hF q z))).trans (hH.2.2.1 q h1 h2), fun q hq => by
    rcases List.mem_append.mp hq with h | h
    · exact hH.2.2.2 q h
    · exact hF _ (hL q h)⟩
  obtain ⟨t2, a1, b1⟩ := kk v st₀ t T2.heap (locs ++ L) hp hw (by rw [e1]; exact hz) hq2 T2 rfl X'
  exact ⟨t2, st t2 a1, b1⟩
theorem lw_preT {T' : hp_T} (hG : lw_G D A s s.heap) (hH : mk_w D T A s H locs) (hTA : ∀ q, hp_F T q → A q) (hs : hp_sub T' T) {ci : Nat} {Ps : List (Value → Prop)} (ha : T' a = some (.inr (ci, Ps))) {q : vw_C} (hc : vwCl[ci]? = some q) {As : List Value} {B : Heap → Prop} (hB : B H) : PreV s H q.1 a (hp_Pc D T' (.ref a :: As) B) As :=
  have hF : ∀ q, hp_F T' q → A q := fun q hq => hTA q (hq.imp (fun ct h => hs q ct h))
  have hok : hp_ok D T' H := fun b ct h => hH.1 b ct (hs b ct h)
  ⟨hp_Pc.blind, hp_recv hG.1.1 hok ha hc, fun U hU hW => ⟨rfl, by rw [hU]; exact hok, (hG.at hH hU hW).hp hF, by rw [hU]; exact hB⟩⟩
end LWP
/-- the rule's reader alone -/
def rrT (T : hp_T) (r tp bt st : Nat) : hp_T := fun q => if q = r ∨ q = tp ∨ q = bt ∨ q = st then T q else none
theorem rrT.sub {T : hp_T} {r tp bt st : Nat} : hp_sub (rrT T r tp bt st) T := fun q ct h => by
  by_cases e : q = r ∨ q = tp ∨ q = bt ∨ q = st
  · have h9 : (if q = r ∨ q = tp ∨ q = bt ∨ q = st then T q else none) = some ct := h
    rw [if_pos e] at h9
    exact h9
  · have h9 : (if q = r ∨ q = tp ∨ q = bt ∨ q = st then T q else none) = some ct := h
    rw [if_neg e] at h9
    cases h9
theorem rrT.in_ {T : hp_T} {r tp bt st q : Nat} (h : q = r ∨ q = tp ∨ q = bt ∨ q = st) : rrT T r tp bt st q = T q := if_pos h
theorem rrT.F {T : hp_T} {r tp bt st q : Nat} (h : hp_F (rrT T r tp bt st) q) : q = r ∨ q = tp ∨ q = bt ∨ q = st := by
  obtain ⟨ct, h⟩ := h
  by_cases e : q = r ∨ q = tp ∨ q = bt ∨ q = st
  · exact e
  · have h9 : (if q = r ∨ q = tp ∨ q = bt ∨ q = st then T q else none) = some ct := h
    rw [if_neg e] at h9
    cases h9
set_option maxHeartbeats 4000000 in
set_option maxRecDepth 100000 in
theorem lX11_rule (l : Launch) (D : hp_D) (T : hp_T) (A : Nat → Prop) (xi : Int32) {Ru : Nat → Prop} {a tp tr rr rl nw im tl sk iq pa sn be : Nat} {G : Nat → Option (Nat × Int32)} (hS : pcS T Ru a tp tr rr rl nw im tl sk iq pa sn be (rV (.int xi)) G) : Met l yX11_rule wsX11_rule ({ frames := 34, cells := 2, slots := 402, locals := 780 }) (lx_Pc D T A [.ref a] (fun _ => True)) (lw_q D A (fun v T1 _ _ => (∃ r : Int32, v = some (.int r)) ∧ ∃ Ru1 : Nat → Prop, pcS T1 Ru1 a tp tr rr rl nw im tl sk iq pa sn be (rV (.int xi)) G)) 2 402 A := by
  refine Met.ofW (cc := cX11_rule) (maxL := 2) (ret := (some .int)) (by decide) rfl ?_
  intro p e s m args below meth c s₁ B hml hv
  obtain ⟨rfl, hok, hG, hTA, hA, -⟩ := hv
  have hx := B.exec
  have hb := B.bytes
  have hr := B.returns
  have hts := atoms_spec (ws := wsX11_rule) B.pre
  have hown : s.vm.findClass RX11 = some m.cls := findClass_of_methodNamed B.named
  have hlocks := B.notSynchronized
  have hK := hG.1.1
  have hw : mk_w D T A s s.heap [] := ⟨hok, va_S.rf⟩
  have IX7 : ∀ w ∈ wsX70, w ∈ wsX11_rule := by decide +kernel
  have IX11 : ∀ w ∈ wsX110, w ∈ wsX11_rule := by decide +kernel
  have L38 := hts (.fieldLink RX11 38 "PalmCensus" "ruleCount" "I") (by decide +kernel)
  have L28 := hts (.fieldLink RX11 28 "PalmCensus" "ruleReader" "LPalmCensus$RuleReader;") (by decide +kernel)
  have L12 := hts (.fieldLink RX11 12 "PalmCensus" "tape" "LPalmCensus$Tape;") (by decide +kernel)
  have L34 := hts (.fieldLink RX11 34 "PalmCensus" "rules" "[LPalmCensus$Rule;") (by decide +kernel)
  have L95 := hts (.fieldLink RX11 95 "PalmCensus$Tape" "length" "I") (by decide +kernel)
  have L106 := hts (.fieldLink RX11 106 "PalmCensus$Tape" "fault" "I") (by decide +kernel)
  have hl := lv_entry ([.ref a]) (n := 2) (Nat.le_of_ble_eq_true rfl)
  rw [lg_entry_eq]
  generalize (lg_sl ([.ref a]) ++ List.replicate (2 - (lg_sl ([.ref a])).length) Slot.unset).toArray = ls at hl ⊢
  have hl : lv_has ls 2 [(0, .ref a)] := hl
  obtain ⟨h0, jtp, jtr, jrr, jrl, jnw, jim, jtl, jsk, jiq, jpa, jsn, jbe, jRu, jG, jI⟩ := id hS
  obtain ⟨tbt, ht0, htb⟩ := id jtp
  obtain ⟨rtp, rst, hr0, jrt, hrs⟩ := id jrr
  obtain ⟨rbt, hrt0, hrtb⟩ := id jrt
  refine lv_aload_n hx hb dX11_rule_0 rfl (lv_at hl 0 rfl) ?_
  refine hp_geti hx hb hts IX11 hown hK hw.1 h0 rfl 4 (by decide) L38 rfl dX11_rule_1 (fun x1 b1 f1 => ?_)
  refine lv_bipush (v := 6) hx hb dX11_rule_4 (by decide) ?_
  refine lv_icmp_lt (tgt := 11) hx hb dX11_rule_6 (by decide) (fun c6 => ?_) (fun c6 => ?_)
  rotate_left
  · refine lv_iconst (v := (-1)) hx hb dX11_rule_9 (by decide) ?_
    refine W.widen (k := 2) (n := 402) (by omega) (by omega) ?_
    exact W.iret (v := (-1)) hx hb hr (fun t ht hW => ⟨some (.int (-1)), T, rfl, ⟨⟨_, rfl⟩, Ru, hS⟩, by rw [ht]; exact hw.1, hTA, hw.2.F ht⟩) hw.2.2.2 dX11_rule_10
  have b5 : iv x1 0 5 := (iv_lt_l c6 b1 (show iv 6 6 6 from ⟨by decide, by decide⟩)).mono (by decide) (by decide)
  refine lv_aload_n hx hb dX11_rule_11 rfl (lv_at hl 0 rfl) ?_
  refine hp_getr hx hb hts IX11 hown hK hw.1 h0 rfl 2 (by decide) L28 rfl dX11_rule_12 ?_
  have iR : isRuleReader (rrT T rr rtp rbt rst) rr := ⟨rtp, rst, (rrT.in_ (Or.inl rfl)).trans hr0, ⟨rbt, (rrT.in_ (Or.inr (Or.inl rfl))).trans hrt0, (rrT.in_ (Or.inr (Or.inr (Or.inl rfl)))).trans hrtb⟩, (rrT.in_ (Or.inr (Or.inr (Or.inr rfl)))).trans hrs⟩
  refine mk_callT (T' := rrT T rr rtp rbt rst) (va_runV (As := []) (rest := []) ⟨hx, hb, hml, hown, hts⟩ (sX4_readRule l D (rrT T rr rtp rbt rst) rr iR) (cwV 0 hts gX11_rule_X4_readRule rfl rfl rfl (by decide +kernel) ⟨Nat.le_of_ble_eq_true rfl, Nat.le_of_ble_eq_true rfl⟩) (lw_preT hG hw hTA rrT.sub ((rrT.in_ (Or.inl rfl)).trans hr0) rfl trivial) rfl rfl hl.1 rfl (lv_room (Nat.le_of_ble_eq_true rfl)) dX11_rule_15 ⟨Nat.zero_le _, Nat.zero_le _⟩) hw hTA rrT.sub (fun v st t H1 locs1 hp hw z1 k1 => ?_)
  obtain ⟨x15, e15, b15⟩ := hp
  rw [e15]
  have hna : ¬ hp_F (rrT T rr rtp rbt rst) a := fun z => by
    rcases rrT.F z with y | y | y | y
    · exact hp_ne_oo h0 hr0 (by decide) y
    · exact hp_ne_oo h0 hrt0 (by decide) y
    · exact hp_ne_ao hrtb h0 y.symm
    · exact hp_ne_ao hrs h0 y.symm
  have f1 := f1.kept (k1 a (hok a _ h0).lt hna)
  refine lv_istore_n (lv' := [(1, .int x15), (0, .ref a)]) hx hb dX11_rule_18 rfl hl (by decide) rfl (fun ls hl => ?_)
  refine lv_aload_n hx hb dX11_rule_19 rfl (lv_at hl 1 rfl) ?_
  refine hp_getr hx hb hts IX11 hown hK hw.1 h0 rfl 0 (by decide) L12 rfl dX11_rule_20 ?_
  refine lv_iconst (v := 0) hx hb dX11_rule_23 (by decide) ?_
  refine lw_put hx hb hts IX7 tyX7 tyX7_ok nmX7 hown hK hw (hTA tp ⟨_, ht0⟩) ht0 rfl 1 (by decide) L95 rfl rfl ⟨_, rfl, ⟨by decide, by decide⟩⟩ rfl rfl dX11_rule_24 (fun H2 locs2 hw f2 g2 => ?_)
  have f1 := g2 _ _ _ _ f1 (Or.inl (hp_ne_oo h0 ht0 (by decide)))
  refine lv_iload_n hx hb dX11_rule_27 rfl (lv_at hl 0 rfl) ?_
  refine lv_if_ne (tgt := 42) hx hb dX11_rule_28 (by decide) (fun c28 => ?_) (fun c28 => ?_)
  rotate_left
  · refine lv_bipush (v := (-2)) hx hb dX11_rule_31 (by decide) ?_
    refine lv_aload_n hx hb dX11_rule_33 rfl (lv_at hl 1 rfl) ?_
    refine hp_getr hx hb hts IX11 hown hK hw.1 h0 rfl 0 (by decide) L12 rfl dX11_rule_34 ?_
    refine hp_getA hx hb hts IX7 hown hK hw.1 ht0 rfl 3 (by decide) L106 rfl dX11_rule_37 (fun x37 f37 => ?_)
    refine lv_isub hx hb dX11_rule_40 ?_
    refine lv_topi (fun x40 ex40 => ?_)
    refine W.widen (k := 2) (n := 402) (by omega) (by omega) ?_
    exact W.iret (v := x40) hx hb hr (fun t ht hW => ⟨some (.int x40), T, rfl, ⟨⟨_, rfl⟩, Ru, hS⟩, by rw [ht]; exact hw.1, hTA, hw.2.F ht⟩) hw.2.2.2 dX11_rule_41
  refine lv_aload_n hx hb dX11_rule_42 rfl (lv_at hl 1 rfl) ?_
  refine hp_getr hx hb hts IX11 hown hK hw.1 h0 rfl 3 (by decide) L34 rfl dX11_rule_43 ?_
  refine lv_aload_n hx hb dX11_rule_46 rfl (lv_at hl 1 rfl) ?_
  refine hp_getf hx hb hts IX11 hown hK f1 rfl (by decide) L38 dX11_rule_47 ?_
  refine lv_aload_n hx hb dX11_rule_50 rfl (lv_at hl 1 rfl) ?_
  refine hp_getr hx hb hts IX11 hown hK hw.1 h0 rfl 2 (by decide) L28 rfl dX11_rule_51 ?_
  have hs2 : s.heap.size ≤ H2.size := hw.2.1
  have la2 : a < H2.size := (hw.1 a _ h0).lt
  refine mk_calln (va_runV (As := []) (rest := [.int x1, .ref rl]) ⟨hx, hb, hml, hown, hts⟩ (nX4_made l D T rr H2.size jrr) (cwV 0 hts gX11_rule_X4_made rfl rfl rfl (by decide +kernel) ⟨Nat.le_of_ble_eq_true rfl, Nat.le_of_ble_eq_true rfl⟩) ⟨mk_Pc.blind, hp_recv hK hw.1 hr0 rfl, fun U hU hW => ⟨rfl, by rw [hU]; exact hw.1, hG.1.warm hW, by rw [hU]⟩⟩ rfl rfl hl.1 rfl (lv_room (Nat.le_of_ble_eq_true rfl)) dX11_rule_54 ⟨Nat.le_of_ble_eq_true rfl, Nat.le_of_ble_eq_true rfl⟩) hw hA (fun v T2 H3 locs3 hp hw z3 k3 => ?_)
  obtain ⟨b, ev, ib, hsub, hnew⟩ := hp
  rw [ev]
  have f1 := f1.kept (k3 a la2)
  obtain ⟨p1, Ps, Ps2, p2, p3, p4⟩ := hS.rule hsub ib
  obtain ⟨rst2, rn2, sb0, sb1, sb2⟩ := id ib
  have hTA2 : ∀ q, hp_F T2 q → A q := fun q hq => by
    obtain ⟨ct, hct⟩ := hq
    rcases hnew q ct hct with y | y
    · exact hTA q ⟨_, y⟩
    · exact hA q (Nat.le_trans hs2 y)
  have nsr : sk ≠ rl := fun z => hp_ne_ao p1 p2 z.symm
  have nar : a ≠ rl := fun z => hp_ne_ao p1 (hsub _ _ h0) z.symm
  refine mk_aast (P' := fun _ => rN (fun d => Ru d ∨ d = b)) hx hb hK hw p1 (hTA rl ⟨_, jrl⟩) rfl sb0 rfl (vp_iv b5 (by decide)) (Or.inr ⟨b, rfl, Or.inr rfl⟩) (fun j x _ _ h => h.imp id (fun hq => hq.imp (fun d hd => ⟨hd.1, Or.inl hd.2⟩))) dX11_rule_57 (fun H4 locs4 hw o4 z4 => ?_)
  have f1 := f1.kept (o4 a nar)
  have hsk : hp_up T2 rl (.inl (5, 6, fun _ => rN (fun d => Ru d ∨ d = b))) sk = some (.inr (5, Ps)) := (hp_up_n nsr).trans p2
  have hw : mk_w D (hp_up (hp_up T2 rl (.inl (5, 6, fun _ => rN (fun d => Ru d ∨ d = b)))) sk (.inr (5, Ps2))) A s H4 locs4 := ⟨hp_weakO hw.1 hsk p3, hw.2⟩
  have hTA4 : ∀ q, hp_F (hp_up (hp_up T2 rl (.inl (5, 6, fun _ => rN (fun d => Ru d ∨ d = b)))) sk (.inr (5, Ps2))) q → A q := fun q hq => hTA2 q (hp_F_upk p1 (hp_F_upk hsk hq))
  obtain ⟨g0, jR⟩ := id p4
  refine lv_aload_n hx hb dX11_rule_58 rfl (lv_at hl 1 rfl) ?_
  refine lv_dup hx hb dX11_rule_59 rfl ?_
  refine hp_getf hx hb hts IX11 hown hK f1 rfl (by decide) L38 dX11_rule_60 ?_
  refine lv_dup_x1 hx hb dX11_rule_63 rfl rfl ?_
  refine lv_iconst (v := 1) hx hb dX11_rule_64 (by decide) ?_
  refine lv_iadd hx hb dX11_rule_65 ?_
  refine lv_topi (fun x65 ex65 => ?_)
  have b65 : iv x65 1 6 := iv_add b5 (show iv 1 1 1 from ⟨by decide, by decide⟩) ex65 (by decide)
  refine lw_put hx hb hts IX11 tyX11 tyX11_ok nmX11 hown hK hw (hTA a ⟨_, h0⟩) g0 rfl 4 (by decide) L38 rfl rfl ⟨_, rfl, (b65.mono (by decide) (by decide))⟩ rfl rfl dX11_rule_66 (fun H5 locs5 hw f5 g5 => ?_)
  refine W.widen (k := 2) (n := 402) (by omega) (by omega) ?_
  exact W.iret (v := x1) hx hb hr (fun t ht hW => ⟨some (.int x1), _, rfl, ⟨⟨_, rfl⟩, _, p4⟩, by rw [ht]; exact hw.1, hTA4, hw.2.F ht⟩) hw.2.2.2 dX11_rule_69
