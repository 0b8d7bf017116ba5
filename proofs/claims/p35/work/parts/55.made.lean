/-! ARRAYS.COPYOF, MADE: a rule of the class is made -/
section MKC
variable {p : Program} {l : Launch} {e : Env} {R : Room} {s : State} {m : MethodId} {args : Array Value} {below : List Frame} {meth : Method} {c : Code} {H : Heap} {locs : List Loc} {cells slots : Nat} {Q : State → Prop}
variable {cc : ByteArray} {pc : Nat} {ls : Array Slot} {rest : List Value} {D : hp_D} {T : hp_T} {a : Nat} {A : Nat → Prop} {st0 : List Value} {av : Array Value} {mc ms : Nat}
theorem mk_copy (hexec : p.tables.exec = Jvm.exec) (hb : c.code = cc) (hml : c.maxLocals = ls.size) {own : String} {index : Nat} (hown : s.vm.findClass own = some m.cls) (hlink : (Cond.methodLink own index arraycopyName).before args s = true) (hnat : (Cond.native arraycopyName).before args s = true) (hstat : (Cond.static arraycopyName).before args s = true) (hini : (Cond.initialized "java/lang/System").before args s = true)
    (hK : hp_K D s) (hH : mk_w D T A s H locs) (hAa : A a) {a0 n0 n1 : Nat} {P0 P1 : Value → Prop} (ha0 : T a0 = some (.inl (0, n0, fun _ => P0))) (ha1 : T a = some (.inl (0, n1, fun _ => P1))) (hP : ∀ v, P0 v → P1 v) (hI : ∀ v, P0 v → ∃ x : Int32, v = .int x)
    {sp dp n : Int32} (h1 : ¬ sp < 0) (h2 : ¬ dp < 0) (h3 : ¬ n < 0) (h4 : sp.toNatClampNeg + n.toNatClampNeg ≤ n0) (h5 : dp.toNatClampNeg + n.toNatClampNeg ≤ n1)
    (hframes : 1 ≤ R.frames) (hlocals : (rest.map fun v => v.category).sum + (nativeFrameWords "java/lang/System" "arraycopy" 5 + 11) ≤ R.locals) (hdg : decode cc pc = .ok (.invokestatic index, 3))
    (kk : ∀ (H1 : Heap) (locs1 : List Loc), mk_w D T A s H1 locs1 → (∀ q, q ≠ a → H1[q]? = H[q]?) → W p l e R s m args below meth c H1 locs1 cells slots Q (F0 m (pc + 3) ls rest)) : W p l e R s m args below meth c H locs cells slots Q (F0 m pc ls (.int n :: .int dp :: .ref a :: .int sp :: .ref a0 :: rest)) := by
  have nn : ∀ z : Int32, ¬ z < 0 → z.toInt = (z.toNatClampNeg : Int) := by
    intro z hz
    have hz0 : (0 : Int) ≤ z.toInt := by
      have := Int32.not_lt.mp hz
      simpa using Int32.le_iff_toInt_le.mp this
    show z.toInt = ((z.toInt.toNat : Nat) : Int)
    omega
  intro T0 hT X
  obtain ⟨f, hc0, hf⟩ := hH.1 a0 _ ha0
  obtain ⟨g, hc1, hg⟩ := hH.1 a _ ha1
  obtain ⟨-, k0, hk0, cm0, hkk0⟩ := (hK.2 0 _ rfl).1 n0 f
  obtain ⟨-, k1, hk1, cm1, hkk1⟩ := (hK.2 0 _ rfl).1 n1 g
  obtain ⟨vm', X', step⟩ := X.arraycopy hexec hown hlink hnat hstat hini (src := a0) (dst := a) (cs := arrV (D.2.1 0) n0 f) (cd := arrV (D.2.1 0) n1 g) (srcPos := sp) (destPos := dp) (n := n) (by rw [hT]; exact hc0) (by rw [hT]; exact hc1)
    (fun _ h => by cases h) (fun _ h => by cases h) (fun h => by cases h) (fun h => by cases h) hk0 hk1 hkk0 hkk1 (by simp [refKind]) h1 h2 h3
    (by rw [nn sp h1, nn n h3]; show ¬ _ > ((arrV (D.2.1 0) n0 f).slots.size : Int); rw [arrV_size]; omega)
    (by rw [nn dp h2, nn n h3]; show ¬ _ > ((arrV (D.2.1 0) n1 g).slots.size : Int); rw [arrV_size]; omega)
    (fun vm₁ _ i hi => by
      have hlt : sp.toNatClampNeg + i < n0 := by omega
      obtain ⟨x, ex⟩ := hI _ (hf _ hlt)
      have e : (arrV (D.2.1 0) n0 f).slots.getD (sp.toNatClampNeg + i) .null = .int x := by
        rw [Array.getD_eq_getD_getElem?, arrV_read _ _ hlt, ex]
        rfl
      refine ⟨?_, ?_⟩
      · rw [e]
        rfl
      · rw [e]
        exact trivial)
    (g := F0 m pc ls (.int n :: .int dp :: .ref a :: .int sp :: .ref a0 :: rest)) rfl (by rw [hml]) (rest := rest) rfl (by rw [hb]; exact hdg) hframes (by show 2 * 0 + _ + _ ≤ _; omega)
  have e1 : copied (arrV (D.2.1 0) n0 f) (arrV (D.2.1 0) n1 g) sp dp n = arrV (D.2.1 0) n1 (va_cpy f g sp.toNatClampNeg dp.toNatClampNeg n.toNatClampNeg) := va_copied (fun z : Value => z) (D.2.1 0) (D.2.1 0) f g h4
  rw [e1] at X' step
  have hl : a < H.size := (Array.getElem?_eq_some_iff.mp hc1).1
  have hheap : ((T0.setVm vm').setCell a (arrV (D.2.1 0) n1 (va_cpy f g sp.toNatClampNeg dp.toNatClampNeg n.toNatClampNeg))).heap = H.setIfInBounds a (arrV (D.2.1 0) n1 (va_cpy f g sp.toNatClampNeg dp.toNatClampNeg n.toNatClampNeg)) := by rw [← hT]; rfl
  have oq : ∀ q : Nat, q ≠ a → (H.setIfInBounds a (arrV (D.2.1 0) n1 (va_cpy f g sp.toNatClampNeg dp.toNatClampNeg n.toNatClampNeg)))[q]? = H[q]? := fun q hq => by simp [Array.getElem?_setIfInBounds, Ne.symm hq]
  have hok : hp_ok D T (H.setIfInBounds a (arrV (D.2.1 0) n1 (va_cpy f g sp.toNatClampNeg dp.toNatClampNeg n.toNatClampNeg))) := by
    intro b t hbt
    by_cases hba : b = a
    · subst hba
      have htt : t = .inl (0, n1, fun _ => P1) := Option.some.inj (hbt.symm.trans ha1)
      subst htt
      refine ⟨_, by simp [Array.getElem?_setIfInBounds, hl]; rfl, fun j hj => ?_⟩
      show P1 (va_cpy f g _ _ _ j)
      unfold va_cpy
      split
      · rename_i hc
        exact hP _ (hf _ (show sp.toNatClampNeg + (j - dp.toNatClampNeg) < n0 by omega))
      · exact hg j hj
    · exact (hH.1 b t hbt).kept (oq b hba)
  obtain ⟨t, a1, b1⟩ := kk _ _ ⟨hok, by simp; exact hH.2.1, fun q g1 g2 => by
      rw [oq q (fun e => g2 (by rw [e]; exact hAa))]
      exact hH.2.2.1 q g1 g2, fun q hq => by
      rcases List.mem_append.mp hq with h | h
      · exact hH.2.2.2 q h
      · obtain ⟨z, -, hz⟩ := List.mem_map.mp h
        rw [← hz]
        exact hAa⟩ oq _ hheap X'
  exact ⟨t, step t a1, b1⟩
theorem mk_castA (hexec : p.tables.exec = Jvm.exec) (hb : c.code = cc) {own nm : String} {index : Nat} (hown : s.vm.findClass own = some m.cls) (hlink : (Cond.classLink own index nm).before args s = true) (hH : hp_ok D T H) {t0 n : Nat} {P : Nat → Value → Prop} (ha : T a = some (.inl (t0, n, P))) (hnm : s.vm.findClass nm = some (D.2.1 t0)) (hdg : decode cc pc = .ok (.checkcast index, 3))
    (k : W p l e R s m args below meth c H locs cells slots Q (F0 m (pc + 3) ls (.ref a :: rest))) : W p l e R s m args below meth c H locs cells slots Q (F0 m pc ls (.ref a :: rest)) := by
  obtain ⟨f, e0, hf⟩ := hH a _ ha
  intro T0 hT X
  obtain ⟨vm', X', st⟩ := X.checkcastYes hexec hown hlink (by rw [hT]; exact e0) rfl hnm (va_asg _ _) (g := F0 m pc ls (.ref a :: rest)) rfl rfl (by rw [hb]; exact hdg)
  obtain ⟨t, a1, b1⟩ := k (T0.setVm vm') hT X'
  exact ⟨t, st t a1, b1⟩
/-- a contract's end, of what only makes new cells -/
def hq_n (D : hp_D) (sz : Nat) (post : Option Value → hp_T → Prop) : Array Value → State → Outcome → State → Prop := fun _ st oc t => ∃ (v : Option Value) (T1 : hp_T), oc = .returned v ∧ post v T1 ∧ hp_ok D T1 t.heap ∧ va_F (fun q => sz ≤ q) st t
theorem mk_calln {post : Option Value → hp_T → Prop} (hr : va_Run p l e R s m args below meth c H locs cells slots mc ms (F0 m pc ls st0) rest (hq_n D H.size post av) (fun x => H.size ≤ x)) (hH : mk_w D T A s H locs) (hA : ∀ x, s.heap.size ≤ x → A x)
    (kk : ∀ (v : Option Value) (T1 : hp_T) (H1 : Heap) (locs1 : List Loc), post v T1 → mk_w D T1 A s H1 locs1 → H.size ≤ H1.size → (∀ x, x < H.size → H1[x]? = H[x]?) → W p l e R s m args below meth c H1 locs1 (cells + mc) (slots + ms) Q (F0 m (pc + 3) ls (v.toList ++ rest))) : W p l e R s m args below meth c H locs cells slots Q (F0 m pc ls st0) := by
  intro T0 hT X
  obtain ⟨v, st₀, t, T', L, h0, X', hL, e1, e2, ⟨v', T1, hv, hp, hok, hz, hk⟩, st⟩ := hr T0 hT X
  cases hv
  rw [h0] at hz hk
  have hq2 : ∀ x, x < H.size → T'.heap[x]? = H[x]? := fun x h1 => by
    rw [e1]
    exact hk x h1 (fun z => absurd h1 (Nat.not_lt.mpr z))
  have hw : mk_w D T1 A s T'.heap (locs ++ L) := ⟨by rw [e1]; exact hok, Nat.le_trans hH.2.1 (by rw [e1]; exact hz), fun x h1 h2 => (hq2 x (Nat.lt_of_lt_of_le h1 hH.2.1)).trans (hH.2.2.1 x h1 h2), fun x hx => by
    rcases List.mem_append.mp hx with h | h
    · exact hH.2.2.2 x h
    · exact hA _ (Nat.le_trans hH.2.1 (hL x h))⟩
  obtain ⟨t2, a1, b1⟩ := kk v T1 T'.heap (locs ++ L) hp hw (by rw [e1]; exact hz) hq2 T' rfl X'
  exact ⟨t2, st t2 a1, b1⟩
end MKC
set_option maxHeartbeats 4000000 in
set_option maxRecDepth 100000 in
theorem nJ7_copyOf (l : Launch) (D : hp_D) (T : hp_T) (a0 sz : Nat) (n : Int32) (ha0 : T a0 = some (.inl (0, 400, fun _ => rA))) (bn : iv n 0 400) : Met l yJ7_copyOf_59c91 wsJ7_copyOf_59c91 ({ frames := 2, cells := 1, slots := 400, locals := 80 }) (mk_Pc D T [.ref a0, .int n] (fun H => H.size = sz)) (hq_n D sz (fun v T1 => ∃ q : Nat, v = some (.ref q) ∧ T q = none ∧ sz ≤ q ∧ T1 = hp_up T q (.inl (0, n.toNatClampNeg, fun _ => rA)))) 1 400 (fun q => sz ≤ q) := by
  refine Met.ofW (cc := cJ7_copyOf_59c91) (maxL := 3) (ret := (some (.array .int))) (by decide) rfl ?_
  intro p e s m args below meth c s₁ B hml hv
  obtain ⟨rfl, hok, hMK, hsz⟩ := hv
  subst hsz
  have hx := B.exec
  have hb := B.bytes
  have hr := B.returns
  have hts := atoms_spec (ws := wsJ7_copyOf_59c91) B.pre
  have hown : s.vm.findClass RJ7 = some m.cls := findClass_of_methodNamed B.named
  have hlocks := B.notSynchronized
  have hK := hMK.1
  have hw : mk_w D T (fun q => s.heap.size ≤ q) s s.heap [] := ⟨hok, va_S.rf⟩
  have hnm : s.vm.findClass "[I" = some (D.2.1 0) := (hK.2 0 _ rfl).2
  have hl := lv_entry ([.ref a0, .int n]) (n := 3) (Nat.le_of_ble_eq_true rfl)
  rw [lg_entry_eq]
  generalize (lg_sl ([.ref a0, .int n]) ++ List.replicate (3 - (lg_sl ([.ref a0, .int n])).length) Slot.unset).toArray = ls at hl ⊢
  have hl : lv_has ls 3 [(0, .ref a0), (1, .int n)] := hl
  have bn1 := bn.1
  have bn2 := bn.2
  have hnn : ¬ n < 0 := fun z => by
    have := Int32.lt_iff_toInt_lt.mp z
    have k0 : (0 : Int32).toInt = 0 := rfl
    omega
  have hn4 : n.toNatClampNeg ≤ 400 := by
    show n.toInt.toNat ≤ 400
    omega
  refine lv_iload_n hx hb dJ7_copyOf_59c91_0 rfl (lv_at hl 1 rfl) ?_
  refine lv_aload_n hx hb dJ7_copyOf_59c91_1 rfl (lv_at hl 0 rfl) ?_
  refine hp_alen (v := 400) hx hb hK hw.1 ha0 rfl rfl dJ7_copyOf_59c91_2 ?_
  refine lv_icmp_ne (tgt := 14) hx hb dJ7_copyOf_59c91_3 (by decide) (fun c3 => ?_) (fun c3 => ?_)
  · refine lv_iload_n hx hb dJ7_copyOf_59c91_14 rfl (lv_at hl 1 rfl) ?_
    refine mk_newa (atype := .int) (t0 := 0) (N' := n.toNatClampNeg) (P := fun _ => rA) hx hb (hts (.arrayClass .int) (by decide +kernel)) rfl (fun C h => by cases h) rfl hK hw (fun j _ => ⟨0, rfl⟩) hnn rfl (by show n.toNatClampNeg * 4 ≤ 536870912; omega) (Nat.le_of_ble_eq_true rfl) (by show 0 + n.toNatClampNeg ≤ 400; omega) dJ7_copyOf_59c91_15 (fun q H1 hw eq k1 nq => ?_)
    have hq := hp_up_s T q (.inl (0, n.toNatClampNeg, fun _ => rA))
    have hne : a0 ≠ q := fun z => by
      rw [← z, ha0] at nq
      cases nq
    have ha1 : hp_up T q (.inl (0, n.toNatClampNeg, fun _ => rA)) a0 = some (.inl (0, 400, fun _ => rA)) := (hp_up_n hne).trans ha0
    refine W.widen (k := 1) (n := 400) (by omega) (by omega) ?_
    refine lv_astore_n (lv' := [(2, .ref q), (0, .ref a0), (1, .int n)]) hx hb dJ7_copyOf_59c91_17 rfl hl (by decide) rfl (fun ls hl => ?_)
    refine lv_aload_n hx hb dJ7_copyOf_59c91_18 rfl (lv_at hl 1 rfl) ?_
    refine lv_iconst (v := 0) hx hb dJ7_copyOf_59c91_19 (by decide) ?_
    refine lv_aload_n hx hb dJ7_copyOf_59c91_20 rfl (lv_at hl 0 rfl) ?_
    refine lv_iconst (v := 0) hx hb dJ7_copyOf_59c91_21 (by decide) ?_
    refine lv_aload_n hx hb dJ7_copyOf_59c91_22 rfl (lv_at hl 1 rfl) ?_
    refine hp_alen (v := 400) hx hb hK hw.1 ha1 rfl rfl dJ7_copyOf_59c91_23 ?_
    refine lv_iload_n hx hb dJ7_copyOf_59c91_24 rfl (lv_at hl 2 rfl) ?_
    refine va_mmin hx hb (by rw [hml]; exact hl.1.symm) hown (hts (.methodLink RJ7 304 Lib.Math.min.name) (by decide +kernel)) (hts (.static Lib.Math.min.name) (by decide +kernel)) (hts (.initialized "java/lang/Math") (by decide +kernel)) (hts (.code Lib.Math.min.name Lib.Math.min.code 2 (some .int)) (by decide +kernel)) (Nat.le_of_ble_eq_true rfl) (Nat.le_of_ble_eq_true rfl) (Nat.le_of_ble_eq_true rfl) (Nat.le_of_ble_eq_true rfl) dJ7_copyOf_59c91_25 ?_
    have hlt : n < 400 := Int32.lt_iff_toInt_lt.mpr (by
      have k4 : (400 : Int32).toInt = 400 := rfl
      have := iv_neq c3
      omega)
    rw [if_pos hlt]
    refine mk_copy hx hb (by rw [hml]; exact hl.1.symm) hown (hts (.methodLink RJ7 150 arraycopyName) (by decide +kernel)) (hts (.native arraycopyName) (by decide +kernel)) (hts (.static arraycopyName) (by decide +kernel)) (hts (.initialized "java/lang/System") (by decide +kernel)) hK hw (by rw [eq]; exact Nat.le_refl _) ha1 hq (fun v h => h) (fun v h => h) (by decide) (by decide) hnn (by show (0 : Nat) + n.toNatClampNeg ≤ 400; omega) (by show (0 : Nat) + n.toNatClampNeg ≤ n.toNatClampNeg; omega) (Nat.le_of_ble_eq_true rfl) (Nat.le_of_ble_eq_true rfl) dJ7_copyOf_59c91_28 (fun H2 locs2 hw o2 => ?_)
    refine lv_aload_n hx hb dJ7_copyOf_59c91_31 rfl (lv_at hl 0 rfl) ?_
    exact W.aret (v := .ref q) hx hb hr (Or.inr ⟨_, rfl⟩) (Or.inr ⟨_, rfl⟩) (fun t ht hW => ⟨_, _, rfl, ⟨q, rfl, nq, by rw [eq]; exact Nat.le_refl _, rfl⟩, by rw [ht]; exact hw.1, hw.2.F ht⟩) hw.2.2.2 dJ7_copyOf_59c91_32
  · refine lv_aload_n hx hb dJ7_copyOf_59c91_6 rfl (lv_at hl 0 rfl) ?_
    refine mk_clone (ad := "[I") hx hb (by rw [hml]; exact hl.1.symm) hown (hts (.methodLink RJ7 316 ⟨"[I", "clone", "()Ljava/lang/Object;"⟩) (by decide +kernel)) (hts (.sameMethod "[I" "java/lang/Object" "clone" "()Ljava/lang/Object;") (by decide +kernel)) (hts (.native ⟨"java/lang/Object", "clone", "()Ljava/lang/Object;"⟩) (by decide +kernel)) (hts (.instanceMethod ⟨"java/lang/Object", "clone", "()Ljava/lang/Object;"⟩) (by decide +kernel)) (hts (.selects "[I" ⟨"[I", "clone", "()Ljava/lang/Object;"⟩ ⟨"java/lang/Object", "clone", "()Ljava/lang/Object;"⟩) (by decide +kernel)) hMK.2.2.2.2 hK hw ha0 rfl hnm (fun j v h => by obtain ⟨x, hx9⟩ := h; rw [hx9]; rfl) (Nat.le_of_ble_eq_true rfl) (Nat.le_of_ble_eq_true rfl) (Nat.le_of_ble_eq_true rfl) (Nat.le_of_ble_eq_true rfl) dJ7_copyOf_59c91_7 (fun q H1 hw eq k1 nq => ?_)
    refine mk_castA hx hb hown (hts (.classLink RJ7 317 "[I") (by decide +kernel)) hw.1 (hp_up_s T q _) hnm dJ7_copyOf_59c91_10 ?_
    have hn9 : n.toNatClampNeg = 400 := by rw [c3]; rfl
    exact W.aret (v := .ref q) hx hb hr (Or.inr ⟨_, rfl⟩) (Or.inr ⟨_, rfl⟩) (fun t ht hW => ⟨_, _, rfl, ⟨q, rfl, nq, by rw [eq]; exact Nat.le_refl _, by rw [hn9]⟩, by rw [ht]; exact hw.1, hw.2.F ht⟩) hw.2.2.2 dJ7_copyOf_59c91_13
set_option maxHeartbeats 4000000 in
set_option maxRecDepth 100000 in
theorem nX4_made (l : Launch) (D : hp_D) (T : hp_T) (a sz : Nat) (ia : isRuleReader T a) : Met l yX4_made wsX4_made ({ frames := 4, cells := 2, slots := 402, locals := 140 }) (mk_Pc D T [.ref a] (fun H => H.size = sz)) (hq_n D sz (fun v T1 => ∃ b : Nat, v = some (.ref b) ∧ isRule T1 b ∧ hp_sub T T1 ∧ ∀ q ct, T1 q = some ct → T q = some ct ∨ sz ≤ q)) 2 402 (fun q => sz ≤ q) := by
  obtain ⟨tp, stp, h0, itp, hstp⟩ := id ia
  refine Met.ofW (cc := cX4_made) (maxL := 1) (ret := (some (.object "PalmCensus$Rule"))) (by decide) rfl ?_
  intro p e s m args below meth c s₁ B hml hv
  obtain ⟨rfl, hok, hMK, hsz⟩ := hv
  subst hsz
  have hx := B.exec
  have hb := B.bytes
  have hr := B.returns
  have hts := atoms_spec (ws := wsX4_made) B.pre
  have hown : s.vm.findClass RX4 = some m.cls := findClass_of_methodNamed B.named
  have hlocks := B.notSynchronized
  have hK := hMK.1
  have hw : mk_w D T (fun q => s.heap.size ≤ q) s s.heap [] := ⟨hok, va_S.rf⟩
  have IX3 : ∀ w ∈ wsX30, w ∈ wsX4_made := by decide +kernel
  have IX4 : ∀ w ∈ wsX40, w ∈ wsX4_made := by decide +kernel
  have CL30 := hts (.classLink RX4 30 RX3) (by decide +kernel)
  have ISX3 := hts (.instantiable RX3 2) (by decide +kernel)
  have INX3 := hts (.initialized RX3) (by decide +kernel)
  have LK38 := hts (.methodLink RX4 38 yX3_init) (by decide +kernel)
  have IMX3_init := hts (.instanceMethod yX3_init) (by decide +kernel)
  have L9 := hts (.fieldLink RX4 9 "PalmCensus$RuleReader" "steps" "[I") (by decide +kernel)
  have L15 := hts (.fieldLink RX4 15 "PalmCensus$RuleReader" "size" "I") (by decide +kernel)
  have L22 := hts (.fieldLink RX4 22 "PalmCensus$RuleReader" "mindsCrowd" "Z") (by decide +kernel)
  have hl := lv_entry ([.ref a]) (n := 1) (Nat.le_of_ble_eq_true rfl)
  rw [lg_entry_eq]
  generalize (lg_sl ([.ref a]) ++ List.replicate (1 - (lg_sl ([.ref a])).length) Slot.unset).toArray = ls at hl ⊢
  have hl : lv_has ls 1 [(0, .ref a)] := hl
  have hA : ∀ q, s.heap.size ≤ q → (fun q => s.heap.size ≤ q) q := fun q h => h
  refine mk_new (ci := 3) (C := RX3) (TT := TX3) (N := 2) hx hb hts IX3 tyX3 tyX3_ok hown CL30 ISX3 INX3 hK hw rfl (Nat.le_of_ble_eq_true rfl) (Nat.le_of_ble_eq_true rfl) dX4_made_0 (fun b H1 hw ob eb k1 nb => ?_)
  refine lv_dup hx hb dX4_made_3 rfl ?_
  refine lv_aload_n hx hb dX4_made_4 rfl (lv_at hl 0 rfl) ?_
  refine hp_getr hx hb hts IX4 hown hK hw.1 h0 rfl 1 (by decide) L9 rfl dX4_made_5 ?_
  refine lv_aload_n hx hb dX4_made_8 rfl (lv_at hl 0 rfl) ?_
  refine hp_geti hx hb hts IX4 hown hK hw.1 h0 rfl 2 (by decide) L15 rfl dX4_made_9 (fun x9 b9 f9 => ?_)
  refine mk_calln (va_runS (As := [.ref stp, .int x9]) (rest := [.ref b, .ref b]) ⟨hx, hb, hml, hown, hts⟩ (nJ7_copyOf l D T stp H1.size x9 hstp b9) (va_cwS 2 hts gX4_made_J7_copyOf_59c91 rfl rfl rfl (by decide +kernel) ⟨Nat.le_of_ble_eq_true rfl, Nat.le_of_ble_eq_true rfl⟩) (mk_pre hMK hw rfl) rfl rfl hl.1 rfl (lv_room (Nat.le_of_ble_eq_true rfl)) dX4_made_12 ⟨Nat.le_of_ble_eq_true rfl, Nat.le_of_ble_eq_true rfl⟩) hw hA (fun v T2 H2 locs2 hp hw z2 k2 => ?_)
  obtain ⟨q, ev, nq, zq, eT⟩ := hp
  rw [ev]
  have ob2 := ob.kept (k2 b ob.lt)
  have hsub : hp_sub T T2 := by rw [eT]; exact hp_sub_up nq
  have hbq : b ≠ q := Nat.ne_of_lt (Nat.lt_of_lt_of_le ob.lt zq)
  have nb2 : T2 b = none := by rw [eT, hp_up_n hbq]; exact nb
  have hq2 : T2 q = some (.inl (0, x9.toNatClampNeg, fun _ => rA)) := by rw [eT]; exact hp_up_s _ _ _
  have hn4 : x9.toNatClampNeg ≤ 400 := by
    have c1 := b9.1
    have c2 := b9.2
    show x9.toInt.toNat ≤ 400
    omega
  refine lv_aload_n hx hb dX4_made_15 rfl (lv_at hl 0 rfl) ?_
  refine hp_geti hx hb hts IX4 hown hK hw.1 (hsub _ _ h0) rfl 4 (by decide) L22 rfl dX4_made_16 (fun x16 b16 f16 => ?_)
  have zb : s.heap.size ≤ b := by rw [eb]; exact Nat.le_refl _
  refine mk_call (va_runI (As := [.ref q, .int x16]) (rest := [.ref b]) ⟨hx, hb, hml, hown, hts⟩ (mX3_init l D T2 b H2.size q x9.toNatClampNeg x16 nb2 hn4 hq2 b16) (cwI 2 hts gX4_made_X3_init rfl rfl rfl INX3 LK38 IMX3_init rfl (by decide +kernel) ⟨Nat.le_of_ble_eq_true rfl, Nat.le_of_ble_eq_true rfl⟩) (mk_pre hMK hw ⟨rfl, ob2⟩) rfl rfl hl.1 rfl (lv_room (Nat.le_of_ble_eq_true rfl)) dX4_made_19 ⟨Nat.le_of_ble_eq_true rfl, Nat.le_of_ble_eq_true rfl⟩) hw hA zb (fun T3 H3 locs3 ib hw x3 k3 => ?_)
  refine W.widen (k := 2) (n := 402) (by omega) (by omega) ?_
  exact W.aret (v := .ref b) hx hb hr (Or.inl ⟨_, rfl⟩) (Or.inr ⟨_, rfl⟩) (fun t ht hW => ⟨_, T3, rfl, ⟨b, rfl, ib, hsub.trans x3.1, fun y ct hy => by
    rcases x3.2 y ct hy with w1 | w1 | w1
    · rw [eT] at w1
      by_cases ey : y = q
      · exact Or.inr (by rw [ey]; exact Nat.le_trans (Nat.le_trans zb (Nat.le_of_lt ob.lt)) zq)
      · rw [hp_up_n ey] at w1
        exact Or.inl w1
    · exact Or.inr (by rw [w1]; exact zb)
    · exact Or.inr (Nat.le_trans (Nat.le_trans (Nat.le_trans zb (Nat.le_of_lt ob.lt)) z2) w1)⟩, by rw [ht]; exact hw.1, hw.2.F ht⟩) hw.2.2.2 dX4_made_22
