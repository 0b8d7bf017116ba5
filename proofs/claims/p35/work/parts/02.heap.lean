/-! THE TYPED HEAP: what each cell of the class must hold, told by predicates; a method keeps it. -/
/-- an int between two numbers -/
def iv (x : Int32) (lo hi : Int) : Prop := lo ≤ x.toInt ∧ x.toInt ≤ hi
def rI (lo hi : Int) : Value → Prop := fun v => ∃ x : Int32, v = .int x ∧ iv x lo hi
def rA : Value → Prop := fun v => ∃ x : Int32, v = .int x
def rR (b : Nat) : Value → Prop := fun v => v = .ref b
def rL : Value → Prop := fun v => ∃ x : Int64, v = .long x
abbrev hp_C : Type := (Nat × Nat × (Nat → Value → Prop)) ⊕ (Nat × List (Value → Prop))
abbrev hp_T : Type := Nat → Option hp_C
abbrev hp_D : Type := va_G × (Nat → ClassId) × (Nat → Nat) × (Nat → Nat)
abbrev hp_tys (dA : Nat → ClassId) : List (ClassId × FieldType) := [(dA 0, .int), (dA 1, .byte), (dA 2, .boolean), (dA 3, .long), (dA 4, .object "PalmCensus$Memory"), (dA 5, .object "PalmCensus$Rule")]
/-- the texts that the class names, their lengths and bytes -/
def js_len : List Nat := [1, 3, 5, 58, 2, 1, 5, 6, 1, 3, 41]
def js_byt : List (List Int32) := [[93], [60, 61, 62], [43, 45, 42, 47, 37], [111, 110, 101, 32, 111, 116, 104, 101, 114, 32, 103, 97, 116, 101, 32, 104, 111, 117, 114, 32, 100, 97, 121, 32, 109, 101, 116, 32, 107, 105, 110, 32, 108, 101, 102, 116, 32, 103, 108, 111, 118, 101, 115, 32, 99, 104, 105, 108, 100, 114, 101, 110, 32, 99, 114, 111, 119, 100], [105, 102], [59], [115, 104, 97, 107, 101], [97, 110, 100, 32, 111, 114], [91], [110, 111, 116], [116, 111, 119, 110, 32, 112, 101, 114, 115, 111, 110, 32, 108, 101, 102, 116, 32, 103, 108, 111, 118, 101, 100, 32, 99, 104, 105, 108, 100, 32, 107, 105, 110, 32, 99, 111, 117, 110, 116, 101, 114]]
def hp_R (D : hp_D) (U : State) : Prop := vk_R "PalmCensus$RuleReader" 103 "]" (D.2.2.1 0) U ∧ vk_R "PalmCensus$RuleReader" 105 "<=>" (D.2.2.1 1) U ∧ vk_R "PalmCensus$RuleReader" 114 "+-*/%" (D.2.2.1 2) U ∧ vk_R "PalmCensus$RuleReader" 127 "one other gate hour day met kin left gloves children crowd" (D.2.2.1 3) U ∧ vk_R "PalmCensus$RuleReader" 54 "if" (D.2.2.1 4) U ∧ vk_R "PalmCensus$RuleReader" 69 ";" (D.2.2.1 5) U ∧ vk_R "PalmCensus$RuleReader" 75 "shake" (D.2.2.1 6) U ∧ vk_R "PalmCensus$RuleReader" 90 "and or" (D.2.2.1 7) U ∧ vk_R "PalmCensus$RuleReader" 92 "[" (D.2.2.1 8) U ∧ vk_R "PalmCensus$RuleReader" 97 "not" (D.2.2.1 9) U ∧ vk_R "PalmCensus$TownReader" 38 ";" (D.2.2.1 5) U ∧ vk_R "PalmCensus$TownReader" 44 "town person left gloved child kin counter" (D.2.2.1 10) U
def hp_S (D : hp_D) (A : Nat → Prop) (U : State) (H : Heap) : Prop := vk_S 11 js_len js_byt D.2.2.1 D.2.2.2 A U H ∧ va_Z "java/lang/String" "COMPACT_STRINGS" "Z" (.int 1) A U H ∧ va_Zq "jdk/internal/util/Preconditions" "SIOOBE_FORMATTER" "Ljava/util/function/BiFunction;" A U H
def hp_N (U : State) : Prop := va_Nw (.methodLinkNest RX5 75 yX11_listMembers "PalmCensus") U ∧ va_Nw (.methodLinkNest RX10 134 yX11_listMembers "PalmCensus") U ∧ va_Nw (.methodLinkNest RX11 11 yX7_init "PalmCensus") U ∧ va_Nw (.methodLinkNest RX11 62 yX5_init "PalmCensus") U ∧ va_Nw (.methodLinkNest RX11 69 yX10_init "PalmCensus") U ∧ va_Nw (.methodLinkNest RX11 76 yX2_init "PalmCensus") U ∧ va_Nw (.methodLinkNest RX11 83 yX6_init "PalmCensus") U ∧ va_Nw (.methodLinkNest RX11 90 yX0_init "PalmCensus") U
theorem hp_N.warm {s U : State} (hW : s.WarmedH U.vm) (h : hp_N s) : hp_N U := by
  obtain ⟨h0, h1, h2, h3, h4, h5, h6, h7⟩ := h
  exact ⟨va_Nw.warmM hW h0, va_Nw.warmM hW h1, va_Nw.warmM hW h2, va_Nw.warmM hW h3, va_Nw.warmM hW h4, va_Nw.warmM hW h5, va_Nw.warmM hW h6, va_Nw.warmM hW h7⟩
theorem hp_R.warm {D : hp_D} {s U : State} (hW : s.WarmedH U.vm) (h : hp_R D s) : hp_R D U := by
  obtain ⟨h0, h1, h2, h3, h4, h5, h6, h7, h8, h9, h10, h11⟩ := h
  exact ⟨h0.warm hW, h1.warm hW, h2.warm hW, h3.warm hW, h4.warm hW, h5.warm hW, h6.warm hW, h7.warm hW, h8.warm hW, h9.warm hW, h10.warm hW, h11.warm hW⟩
theorem hp_N.same {s U : State} (hv : U.vm = s.vm) (h : hp_N s) : hp_N U := by
  obtain ⟨h0, h1, h2, h3, h4, h5, h6, h7⟩ := h
  exact ⟨va_Nw.same rfl hv.symm h0, va_Nw.same rfl hv.symm h1, va_Nw.same rfl hv.symm h2, va_Nw.same rfl hv.symm h3, va_Nw.same rfl hv.symm h4, va_Nw.same rfl hv.symm h5, va_Nw.same rfl hv.symm h6, va_Nw.same rfl hv.symm h7⟩
theorem hp_R.same {D : hp_D} {s U : State} (hv : U.vm = s.vm) (h : hp_R D s) : hp_R D U := by
  obtain ⟨h0, h1, h2, h3, h4, h5, h6, h7, h8, h9, h10, h11⟩ := h
  exact ⟨h0.same hv, h1.same hv, h2.same hv, h3.same hv, h4.same hv, h5.same hv, h6.same hv, h7.same hv, h8.same hv, h9.same hv, h10.same hv, h11.same hv⟩
def hp_K (D : hp_D) (U : State) : Prop := va_K D.1 vwCl (hp_tys D.2.1) U
theorem hp_K.moved {D : hp_D} {u U : State} (hvm : u.vm.Alike U.vm) (h : hp_K D u) : hp_K D U := va_K.moved hvm h
def hp_at (D : hp_D) (H : Heap) (a : Nat) (t : hp_C) : Prop := match t with
  | .inl q => ∃ f : Nat → Value, H[a]? = some (arrV (D.2.1 q.1) q.2.1 f) ∧ ∀ j, j < q.2.1 → q.2.2 j (f j)
  | .inr q => ∃ (r : vw_C) (V : Nat → Value), vwCl[q.1]? = some r ∧ t_OB a (D.1.1 q.1) r.2.2 (D.1.2 q.1) H V ∧ ∀ (k : Nat) (P : Value → Prop), q.2[k]? = some P → P (V k)
def hp_ok (D : hp_D) (T : hp_T) (H : Heap) : Prop := ∀ (a : Nat) (t : hp_C), T a = some t → hp_at D H a t
/-- the cells that the typing knows -/
def hp_F (T : hp_T) : Nat → Prop := fun q => ∃ t : hp_C, T q = some t
/-- a field's value now -/
def hp_f (D : hp_D) (H : Heap) (a ci k : Nat) (v : Value) : Prop := ∃ (r : vw_C) (V : Nat → Value), vwCl[ci]? = some r ∧ t_OB a (D.1.1 ci) r.2.2 (D.1.2 ci) H V ∧ V k = v
theorem hp_at.kept {D : hp_D} {H H1 : Heap} {a : Nat} {t : hp_C} (h : hp_at D H a t) (hq : H1[a]? = H[a]?) : hp_at D H1 a t := by
  cases t with
  | inl q =>
    obtain ⟨f, h1, h2⟩ := h
    exact ⟨f, by rw [hq]; exact h1, h2⟩
  | inr q =>
    obtain ⟨r, V, h1, h2, h3⟩ := h
    exact ⟨r, V, h1, h2.kept hq, h3⟩
theorem hp_at.lt {D : hp_D} {H : Heap} {a : Nat} {t : hp_C} (h : hp_at D H a t) : a < H.size := by
  cases t with
  | inl q =>
    obtain ⟨f, h1, h2⟩ := h
    exact (Array.getElem?_eq_some_iff.mp h1).1
  | inr q =>
    obtain ⟨r, V, h1, ⟨cell, h2, -⟩, h3⟩ := h
    exact (Array.getElem?_eq_some_iff.mp h2).1
theorem hp_f.kept {D : hp_D} {H H1 : Heap} {a ci k : Nat} {v : Value} (h : hp_f D H a ci k v) (hq : H1[a]? = H[a]?) : hp_f D H1 a ci k v := by
  obtain ⟨r, V, h1, h2, h3⟩ := h
  exact ⟨r, V, h1, h2.kept hq, h3⟩
theorem hp_ne {T : hp_T} {a b : Nat} {x y : hp_C} (ha : T a = some x) (hb : T b = some y) (h : x ≠ y) : a ≠ b := fun e => h (by rw [e, hb] at ha; exact (Option.some.inj ha).symm)
theorem hp_ne_ao {T : hp_T} {a b : Nat} {x : Nat × Nat × (Nat → Value → Prop)} {y : Nat × List (Value → Prop)} (ha : T a = some (.inl x)) (hb : T b = some (.inr y)) : a ≠ b := fun e => by rw [e, hb] at ha; cases ha
theorem hp_ne_oo {T : hp_T} {a b : Nat} {i j : Nat} {x y : List (Value → Prop)} (ha : T a = some (.inr (i, x))) (hb : T b = some (.inr (j, y))) (h : i ≠ j) : a ≠ b := fun e => by rw [e, hb] at ha; cases ha; exact h rfl
/-- what a walk holds: the typed heap, and that nothing else has changed -/
def hp_w (D : hp_D) (T : hp_T) (s : State) (H : Heap) (locs : List Loc) : Prop := hp_ok D T H ∧ va_S (hp_F T) s.heap H locs
theorem hp_w.rf {D : hp_D} {T : hp_T} {s : State} (h : hp_ok D T s.heap) : hp_w D T s s.heap [] := ⟨h, va_S.rf⟩
/-- what every method of the class may take as given: the tables, the links among nest mates, the texts -/
def hp_G (D : hp_D) (T : hp_T) (U : State) : Prop := hp_K D U ∧ hp_N U ∧ hp_R D U ∧ hp_S D (hp_F T) U U.heap
theorem hp_S.kept {D : hp_D} {A : Nat → Prop} {u U : State} {H H1 : Heap} (hvm : u.vm.Alike U.vm) (h : hp_S D A u H) (hq : ∀ q : Nat, q < H.size → ¬ A q → H1[q]? = H[q]?) : hp_S D A U H1 := by
  obtain ⟨h1, h2, h3⟩ := h
  exact ⟨(h1.moved hvm).kept hq, (h2.moved hvm).kept hq, (h3.moved hvm).kept hq⟩
theorem hp_G.at {D : hp_D} {T : hp_T} {s U : State} {H : Heap} {locs : List Loc} (h : hp_G D T s) (hw : hp_w D T s H locs) (hU : U.heap = H) (hW : s.WarmedH U.vm) : hp_G D T U := by
  obtain ⟨h1, h2, h3, h4⟩ := h
  exact ⟨h1.moved hW.alike, h2.warm hW, h3.warm hW, h4.kept hW.alike (fun q a b => by rw [hU]; exact hw.2.2.1 q a b)⟩
theorem hp_G.same {D : hp_D} {T : hp_T} {s U : State} (h : hp_G D T s) (hU : U.heap = s.heap) (hv : U.vm = s.vm) : hp_G D T U := by
  obtain ⟨h1, h2, h3, h4⟩ := h
  have hal : s.vm.Alike U.vm := by rw [hv]; exact Vm.Alike.refl _
  exact ⟨h1.moved hal, h2.same hv, h3.same hv, h4.kept hal (fun q _ _ => by rw [hU])⟩
section HPW
variable {p : Program} {l : Launch} {e : Env} {R : Room} {s : State} {m : MethodId} {args : Array Value} {below : List Frame} {meth : Method} {c : Code} {H : Heap} {locs : List Loc} {cells slots : Nat} {Q : State → Prop}
variable {cc : ByteArray} {pc : Nat} {ls : Array Slot} {rest : List Value} {D : hp_D} {T : hp_T} {a : Nat}
/-- getfield, typed: the value and that it stands there -/
theorem hp_get (hexec : p.tables.exec = Jvm.exec) (hb : c.code = cc) {own C : String} {TT : u_T} {N ci index : Nat} {Ts : List Cond} (hts : ∀ w ∈ Ts, w.before args s = true) (hin : ∀ w ∈ u_ws C TT N, w ∈ Ts) (hown : s.vm.findClass own = some m.cls) (hK : hp_K D s) (hH : hp_ok D T H) {Ps : List (Value → Prop)} (ha : T a = some (.inr (ci, Ps))) (hc : vwCl[ci]? = some (C, TT, N)) (k : Nat) (hk : k < N) (hlink : (Cond.fieldLink own index (TT k).1 (TT k).2.1 (TT k).2.2.1).before args s = true) {P : Value → Prop} (hp : Ps[k]? = some P) (hdg : decode cc pc = .ok (.getfield index, 3))
    (kk : ∀ v : Value, P v → hp_f D H a ci k v → W p l e R s m args below meth c H locs cells slots Q (F0 m (pc + 3) ls (v :: rest))) : W p l e R s m args below meth c H locs cells slots Q (F0 m pc ls (.ref a :: rest)) := by
  obtain ⟨r, V, h1, ⟨cell, q1, q2, q3, q4⟩, h3⟩ := hH a _ ha
  have hr : r = (C, TT, N) := Option.some.inj (h1.symm.trans hc)
  subst hr
  obtain ⟨hS, hfc, kC, hkC, hkind⟩ := hK.1 ci _ hc
  obtain ⟨cf, kf, fi, f, hi, hsl⟩ := hS k hk
  refine W.getf hexec hb hown hlink hi (u_facts hfc hkC (u_lays hts hin hk) hi).1 q1 (by rw [q3]; exact fun h => by cases h) (v := V k) ?_ rfl rfl hdg (kk (V k) (h3 k P hp) ⟨_, V, hc, ⟨cell, q1, q2, q3, q4⟩, rfl⟩)
  rw [hsl, q4 k hk]
theorem hp_geti (hexec : p.tables.exec = Jvm.exec) (hb : c.code = cc) {own C : String} {TT : u_T} {N ci index : Nat} {Ts : List Cond} (hts : ∀ w ∈ Ts, w.before args s = true) (hin : ∀ w ∈ u_ws C TT N, w ∈ Ts) (hown : s.vm.findClass own = some m.cls) (hK : hp_K D s) (hH : hp_ok D T H) {Ps : List (Value → Prop)} (ha : T a = some (.inr (ci, Ps))) (hc : vwCl[ci]? = some (C, TT, N)) (k : Nat) (hk : k < N) (hlink : (Cond.fieldLink own index (TT k).1 (TT k).2.1 (TT k).2.2.1).before args s = true) {lo hi : Int} (hp : Ps[k]? = some (rI lo hi)) (hdg : decode cc pc = .ok (.getfield index, 3))
    (kk : ∀ x : Int32, iv x lo hi → hp_f D H a ci k (.int x) → W p l e R s m args below meth c H locs cells slots Q (F0 m (pc + 3) ls (.int x :: rest))) : W p l e R s m args below meth c H locs cells slots Q (F0 m pc ls (.ref a :: rest)) := by
  refine hp_get hexec hb hts hin hown hK hH ha hc k hk hlink hp hdg (fun v hv hf => ?_)
  obtain ⟨x, rfl, hx⟩ := hv
  exact kk x hx hf
theorem hp_getA (hexec : p.tables.exec = Jvm.exec) (hb : c.code = cc) {own C : String} {TT : u_T} {N ci index : Nat} {Ts : List Cond} (hts : ∀ w ∈ Ts, w.before args s = true) (hin : ∀ w ∈ u_ws C TT N, w ∈ Ts) (hown : s.vm.findClass own = some m.cls) (hK : hp_K D s) (hH : hp_ok D T H) {Ps : List (Value → Prop)} (ha : T a = some (.inr (ci, Ps))) (hc : vwCl[ci]? = some (C, TT, N)) (k : Nat) (hk : k < N) (hlink : (Cond.fieldLink own index (TT k).1 (TT k).2.1 (TT k).2.2.1).before args s = true) (hp : Ps[k]? = some rA) (hdg : decode cc pc = .ok (.getfield index, 3))
    (kk : ∀ x : Int32, hp_f D H a ci k (.int x) → W p l e R s m args below meth c H locs cells slots Q (F0 m (pc + 3) ls (.int x :: rest))) : W p l e R s m args below meth c H locs cells slots Q (F0 m pc ls (.ref a :: rest)) := by
  refine hp_get hexec hb hts hin hown hK hH ha hc k hk hlink hp hdg (fun v hv hf => ?_)
  obtain ⟨x, rfl⟩ := hv
  exact kk x hf
theorem hp_getr (hexec : p.tables.exec = Jvm.exec) (hb : c.code = cc) {own C : String} {TT : u_T} {N ci index : Nat} {Ts : List Cond} (hts : ∀ w ∈ Ts, w.before args s = true) (hin : ∀ w ∈ u_ws C TT N, w ∈ Ts) (hown : s.vm.findClass own = some m.cls) (hK : hp_K D s) (hH : hp_ok D T H) {Ps : List (Value → Prop)} (ha : T a = some (.inr (ci, Ps))) (hc : vwCl[ci]? = some (C, TT, N)) (k : Nat) (hk : k < N) (hlink : (Cond.fieldLink own index (TT k).1 (TT k).2.1 (TT k).2.2.1).before args s = true) {b : Nat} (hp : Ps[k]? = some (rR b)) (hdg : decode cc pc = .ok (.getfield index, 3))
    (kk : W p l e R s m args below meth c H locs cells slots Q (F0 m (pc + 3) ls (.ref b :: rest))) : W p l e R s m args below meth c H locs cells slots Q (F0 m pc ls (.ref a :: rest)) := by
  refine hp_get hexec hb hts hin hown hK hH ha hc k hk hlink hp hdg (fun v hv hf => ?_)
  cases (show v = .ref b from hv)
  exact kk
/-- getfield of a field whose value is known -/
theorem hp_getf (hexec : p.tables.exec = Jvm.exec) (hb : c.code = cc) {own C : String} {TT : u_T} {N ci index : Nat} {Ts : List Cond} (hts : ∀ w ∈ Ts, w.before args s = true) (hin : ∀ w ∈ u_ws C TT N, w ∈ Ts) (hown : s.vm.findClass own = some m.cls) (hK : hp_K D s) {k : Nat} {v : Value} (hf : hp_f D H a ci k v) (hc : vwCl[ci]? = some (C, TT, N)) (hk : k < N) (hlink : (Cond.fieldLink own index (TT k).1 (TT k).2.1 (TT k).2.2.1).before args s = true) (hdg : decode cc pc = .ok (.getfield index, 3))
    (kk : W p l e R s m args below meth c H locs cells slots Q (F0 m (pc + 3) ls (v :: rest))) : W p l e R s m args below meth c H locs cells slots Q (F0 m pc ls (.ref a :: rest)) := by
  obtain ⟨r, V, h1, ⟨cell, q1, q2, q3, q4⟩, h3⟩ := hf
  have hr : r = (C, TT, N) := Option.some.inj (h1.symm.trans hc)
  subst hr
  obtain ⟨hS, hfc, kC, hkC, hkind⟩ := hK.1 ci _ hc
  obtain ⟨cf, kf, fi, f, hi, hsl⟩ := hS k hk
  refine W.getf hexec hb hown hlink hi (u_facts hfc hkC (u_lays hts hin hk) hi).1 q1 (by rw [q3]; exact fun h => by cases h) (v := v) ?_ rfl rfl hdg kk
  rw [hsl, q4 k hk, h3]
/-- what a field's writing leaves -/
def hp_wr (D : hp_D) (H H1 : Heap) (a ci k : Nat) : Prop := ∀ (b cj j : Nat) (w : Value), hp_f D H b cj j w → (b ≠ a ∨ (cj = ci ∧ j ≠ k)) → hp_f D H1 b cj j w
theorem hp_put (hexec : p.tables.exec = Jvm.exec) (hb : c.code = cc) {own C : String} {TT : u_T} {N ci index : Nat} {Ts : List Cond} (hts : ∀ w ∈ Ts, w.before args s = true) (hin : ∀ w ∈ u_ws C TT N, w ∈ Ts) (ty0 : Nat → FieldType) (hty : ∀ k, k < N → parseFieldDescriptor (TT k).2.2.1 = some (ty0 k)) (hnm : ∀ a, a < N → ∀ b, b < N → a ≠ b → (TT a).2.1 ≠ (TT b).2.1) (hown : s.vm.findClass own = some m.cls) (hK : hp_K D s) (hH : hp_w D T s H locs) {Ps : List (Value → Prop)} (ha : T a = some (.inr (ci, Ps))) (hc : vwCl[ci]? = some (C, TT, N)) (k : Nat) (hk : k < N) (hlink : (Cond.fieldLink own index (TT k).1 (TT k).2.1 (TT k).2.2.1).before args s = true) (hfin : (TT k).2.2.2 = false) {P : Value → Prop} (hp : Ps[k]? = some P) {v : Value} (hv : P v) (hn : narrow (ty0 k) v = v) (hfit : fits (ty0 k) v = true) (hdg : decode cc pc = .ok (.putfield index, 3))
    (kk : ∀ (H1 : Heap) (locs1 : List Loc), hp_w D T s H1 locs1 → hp_f D H1 a ci k v → hp_wr D H H1 a ci k → W p l e R s m args below meth c H1 locs1 cells slots Q (F0 m (pc + 3) ls rest)) : W p l e R s m args below meth c H locs cells slots Q (F0 m pc ls (v :: .ref a :: rest)) := by
  obtain ⟨hO, hS0⟩ := hH
  obtain ⟨r, V, h1, ⟨cell, q1, q2, q3, q4⟩, h3⟩ := hO a _ ha
  have hr : r = (C, TT, N) := Option.some.inj (h1.symm.trans hc)
  subst hr
  have hap := va_apart (own := own) hts hin ty0 hty hnm hK hc
  obtain ⟨hS, hfc, kC, hkC, hkind⟩ := hK.1 ci _ hc
  obtain ⟨cf, kf, fi, f, hi, hsl⟩ := hS k hk
  have hlay := hts _ (hin _ (u_in_lay hk))
  unfold u_lay at hlay
  rw [if_neg (by rw [hfin]; decide)] at hlay
  have hst := (u_facts hfc hkC (u_lays hts hin hk) hi).1
  have h6 := u_store hfc hkC hkind hlay hi (hty k hk) hn hfit
  refine W.putK hexec hb (f := f) ⟨hown, hlink, ⟨_, _, _, hi⟩, hst⟩ (by rw [q2]; exact h6) q1 q3 (by rw [hsl]; exact k2_hasslot (q4 k hk)) rfl rfl hdg fun H' e1 e2 e3 => ?_
  rw [hsl] at e1 ⊢
  have hob : t_OB a (D.1.1 ci) N (D.1.2 ci) H' (updV V k v) := ⟨_, e1, q2, q3, t_set q4 hap hk v⟩
  refine kk H' _ ⟨fun b t hbt => ?_, hS0.put e2 e3 ⟨_, ha⟩⟩ ⟨_, updV V k v, hc, hob, by simp [updV]⟩ (fun b cj j w hw hne => ?_)
  · by_cases hba : b = a
    · subst hba
      have ht : t = .inr (ci, Ps) := Option.some.inj (hbt.symm.trans ha)
      subst ht
      refine ⟨_, updV V k v, hc, hob, fun j P' hj => ?_⟩
      by_cases hjk : j = k
      · subst hjk
        have : P' = P := Option.some.inj (hj.symm.trans hp)
        subst this
        simpa [updV] using hv
      · simpa [updV, hjk] using h3 j P' hj
    · exact (hO b t hbt).kept (e3 b hba)
  · by_cases hba : b = a
    · subst hba
      obtain ⟨hcj, hjk⟩ := hne.resolve_left (fun h => h rfl)
      subst hcj
      obtain ⟨r', V', w1, ⟨cell', c1, c2, c3, c4⟩, w3⟩ := hw
      cases q1.symm.trans c1
      have hr' : r' = (C, TT, N) := Option.some.inj (w1.symm.trans hc)
      subst hr'
      exact ⟨_, updV V' k v, hc, ⟨_, e1, c2, c3, t_set c4 hap hk v⟩, by simp [updV, hjk, w3]⟩
    · exact hw.kept (e3 b hba)
/-- an object's cell is no array's cell -/
theorem hp_fa {b cj j t0 n : Nat} {w : Value} {f : Nat → Value} {ty : FieldType} (hK : hp_K D s) (hf : hp_f D H b cj j w) (ht : (hp_tys D.2.1)[t0]? = some (D.2.1 t0, ty)) (ha : H[a]? = some (arrV (D.2.1 t0) n f)) : b ≠ a := by
  intro h
  subst h
  obtain ⟨r, V, h1, ⟨cell, q1, q2, q3, q4⟩, h3⟩ := hf
  cases q1.symm.trans ha
  obtain ⟨hS, hfc, kC, hkC, hkind⟩ := hK.1 cj _ h1
  obtain ⟨-, k, hk, comp, hkk⟩ := (hK.2 t0 _ ht).1 n f
  have e : (arrV (D.2.1 t0) n f).cls = D.1.1 cj := q2
  rw [e] at hk
  cases hk.symm.trans hkC
  rw [hkind] at hkk
  cases hkk
/-- what an array's writing leaves: every field -/
def hp_ar (D : hp_D) (H H1 : Heap) : Prop := ∀ (b cj j : Nat) (w : Value), hp_f D H b cj j w → hp_f D H1 b cj j w
theorem hp_ld {ty : FieldType} {t0 n : Nat} {P : Nat → Value → Prop} {i : Int32} (hK : hp_K D s) (hH : hp_ok D T H) (ha : T a = some (.inl (t0, n, P))) (ht : (hp_tys D.2.1)[t0]? = some (D.2.1 t0, ty)) (hin : vp_in i n) : ∃ cell v, H[a]? = some cell ∧ s.isArrayOf cell ty ∧ cell.vm ≠ .unknown ∧ ¬ (i < 0 ∨ cell.slots.size ≤ i.toNatClampNeg) ∧ cell.slots[i.toNatClampNeg]? = some v ∧ P i.toNatClampNeg v := by
  obtain ⟨f, h1, h2⟩ := hH a _ ha
  have hlt : i.toNatClampNeg < n := Nat.not_le.mp fun q => hin (Or.inr q)
  refine ⟨_, f i.toNatClampNeg, h1, (hK.2 t0 _ ht).1 n f, (fun q => by cases q), ?_, arrV_read _ _ hlt, h2 _ hlt⟩
  rw [arrV_size]
  exact hin
theorem hp_iald (hexec : p.tables.exec = Jvm.exec) (hb : c.code = cc) (hK : hp_K D s) (hH : hp_ok D T H) {n : Nat} {P : Nat → Value → Prop} (ha : T a = some (.inl (0, n, P))) {i : Int32} (hin : vp_in i n) (hdg : decode cc pc = .ok (.iaload, 1))
    (kk : ∀ v : Value, P i.toNatClampNeg v → W p l e R s m args below meth c H locs cells slots Q (F0 m (pc + 1) ls (v :: rest))) : W p l e R s m args below meth c H locs cells slots Q (F0 m pc ls (.int i :: .ref a :: rest)) := by
  obtain ⟨cell, v, h1, h2, h3, h4, h5, h6⟩ := hp_ld hK hH ha rfl hin
  exact W.iald hexec hb h1 h2 h3 h4 h5 rfl rfl hdg (kk v h6)
theorem hp_ialdI (hexec : p.tables.exec = Jvm.exec) (hb : c.code = cc) (hK : hp_K D s) (hH : hp_ok D T H) {n : Nat} {lo hi : Int} (ha : T a = some (.inl (0, n, fun _ => rI lo hi))) {i : Int32} (hin : vp_in i n) (hdg : decode cc pc = .ok (.iaload, 1))
    (kk : ∀ x : Int32, iv x lo hi → W p l e R s m args below meth c H locs cells slots Q (F0 m (pc + 1) ls (.int x :: rest))) : W p l e R s m args below meth c H locs cells slots Q (F0 m pc ls (.int i :: .ref a :: rest)) :=
  hp_iald hexec hb hK hH ha hin hdg (fun v hv => by obtain ⟨x, rfl, hx⟩ := hv; exact kk x hx)
theorem hp_ialdA (hexec : p.tables.exec = Jvm.exec) (hb : c.code = cc) (hK : hp_K D s) (hH : hp_ok D T H) {n : Nat} (ha : T a = some (.inl (0, n, fun _ => rA))) {i : Int32} (hin : vp_in i n) (hdg : decode cc pc = .ok (.iaload, 1))
    (kk : ∀ x : Int32, W p l e R s m args below meth c H locs cells slots Q (F0 m (pc + 1) ls (.int x :: rest))) : W p l e R s m args below meth c H locs cells slots Q (F0 m pc ls (.int i :: .ref a :: rest)) :=
  hp_iald hexec hb hK hH ha hin hdg (fun v hv => by obtain ⟨x, rfl⟩ := hv; exact kk x)
theorem hp_baldA (hexec : p.tables.exec = Jvm.exec) (hb : c.code = cc) (hK : hp_K D s) (hH : hp_ok D T H) {n : Nat} (ha : T a = some (.inl (1, n, fun _ => rA))) {i : Int32} (hin : vp_in i n) (hdg : decode cc pc = .ok (.baload, 1))
    (kk : ∀ x : Int32, W p l e R s m args below meth c H locs cells slots Q (F0 m (pc + 1) ls (.int x :: rest))) : W p l e R s m args below meth c H locs cells slots Q (F0 m pc ls (.int i :: .ref a :: rest)) := by
  obtain ⟨cell, v, h1, h2, h3, h4, h5, x, rfl⟩ := hp_ld hK hH ha rfl hin
  exact W.bald hexec hb h1 h2 h3 h4 h5 rfl rfl hdg (kk x)
theorem hp_zaldA (hexec : p.tables.exec = Jvm.exec) (hb : c.code = cc) (hK : hp_K D s) (hH : hp_ok D T H) {n : Nat} (ha : T a = some (.inl (2, n, fun _ => rA))) {i : Int32} (hin : vp_in i n) (hdg : decode cc pc = .ok (.baload, 1))
    (kk : ∀ x : Int32, W p l e R s m args below meth c H locs cells slots Q (F0 m (pc + 1) ls (.int x :: rest))) : W p l e R s m args below meth c H locs cells slots Q (F0 m pc ls (.int i :: .ref a :: rest)) := by
  obtain ⟨cell, v, h1, h2, h3, h4, h5, x, rfl⟩ := hp_ld hK hH ha rfl hin
  exact W.zald hexec hb h1 h2 h3 h4 h5 rfl rfl hdg (kk x)
theorem hp_laldA (hexec : p.tables.exec = Jvm.exec) (hb : c.code = cc) (hK : hp_K D s) (hH : hp_ok D T H) {n : Nat} (ha : T a = some (.inl (3, n, fun _ => rL))) {i : Int32} (hin : vp_in i n) (hdg : decode cc pc = .ok (.laload, 1))
    (kk : ∀ x : Int64, W p l e R s m args below meth c H locs cells slots Q (F0 m (pc + 1) ls (.long x :: rest))) : W p l e R s m args below meth c H locs cells slots Q (F0 m pc ls (.int i :: .ref a :: rest)) := by
  obtain ⟨cell, v, h1, h2, h3, h4, h5, x, rfl⟩ := hp_ld hK hH ha rfl hin
  exact W.lald hexec hb h1 h2 h3 h4 h5 rfl rfl hdg (kk x)
/-- an array's cell written anew, its predicate kept -/
theorem hp_ast {t0 n k : Nat} {ty : FieldType} {P : Nat → Value → Prop} {f : Nat → Value} {x : Value} {H1 : Heap} (hK : hp_K D s) (hH : hp_w D T s H locs) (ha : T a = some (.inl (t0, n, P))) (ht : (hp_tys D.2.1)[t0]? = some (D.2.1 t0, ty)) (hf : H[a]? = some (arrV (D.2.1 t0) n f)) (hP : ∀ j, j < n → P j (f j)) (hx : P k x) (e : H1[a]? = some ((arrV (D.2.1 t0) n f).setSlot k x)) (z : H1.size = H.size) (oq : ∀ q : Nat, q ≠ a → H1[q]? = H[q]?) : hp_w D T s H1 (locs ++ [⟨a, k⟩]) ∧ hp_ar D H H1 := by
  refine ⟨⟨fun b t hbt => ?_, hH.2.put z oq ⟨_, ha⟩⟩, fun b cj j w hw => hw.kept (oq b (hp_fa hK hw ht hf))⟩
  by_cases hba : b = a
  · subst hba
    have htt : t = .inl (t0, n, P) := Option.some.inj (hbt.symm.trans ha)
    subst htt
    refine ⟨updV f k x, by rw [e, arrV_store], fun j hj => ?_⟩
    by_cases hjk : j = k
    · subst hjk; simpa [updV] using hx
    · simpa [updV, hjk] using hP j hj
  · exact (hH.1 b t hbt).kept (oq b hba)
theorem hp_iast (hexec : p.tables.exec = Jvm.exec) (hb : c.code = cc) (hK : hp_K D s) (hH : hp_w D T s H locs) {n : Nat} {P : Nat → Value → Prop} (ha : T a = some (.inl (0, n, P))) {i x : Int32} (hin : vp_in i n) (hx : P i.toNatClampNeg (.int x)) (hdg : decode cc pc = .ok (.iastore, 1))
    (kk : ∀ (H1 : Heap) (locs1 : List Loc), hp_w D T s H1 locs1 → hp_ar D H H1 → W p l e R s m args below meth c H1 locs1 cells slots Q (F0 m (pc + 1) ls rest)) : W p l e R s m args below meth c H locs cells slots Q (F0 m pc ls (.int x :: .int i :: .ref a :: rest)) := by
  obtain ⟨f, h1, h2⟩ := hH.1 a _ ha
  refine W.iast hexec hb h1 ((hK.2 0 _ rfl).1 n f) (fun q => by cases q) (by rw [arrV_size]; exact hin) rfl rfl hdg fun H1 e z oq => ?_
  obtain ⟨g1, g2⟩ := hp_ast hK hH ha rfl h1 h2 hx e z oq
  exact kk H1 _ g1 g2
theorem hp_bastA (hexec : p.tables.exec = Jvm.exec) (hb : c.code = cc) (hK : hp_K D s) (hH : hp_w D T s H locs) {n : Nat} (ha : T a = some (.inl (1, n, fun _ => rA))) {i x : Int32} (hin : vp_in i n) (hdg : decode cc pc = .ok (.bastore, 1))
    (kk : ∀ (H1 : Heap) (locs1 : List Loc), hp_w D T s H1 locs1 → hp_ar D H H1 → W p l e R s m args below meth c H1 locs1 cells slots Q (F0 m (pc + 1) ls rest)) : W p l e R s m args below meth c H locs cells slots Q (F0 m pc ls (.int x :: .int i :: .ref a :: rest)) := by
  obtain ⟨f, h1, h2⟩ := hH.1 a _ ha
  refine W.bast hexec hb h1 ((hK.2 1 _ rfl).1 n f) (fun q => by cases q) (by rw [arrV_size]; exact hin) rfl rfl hdg fun H1 e z oq => ?_
  obtain ⟨g1, g2⟩ := hp_ast hK hH ha rfl h1 h2 (show rA (narrow .byte (.int x)) from ⟨_, rfl⟩) e z oq
  exact kk H1 _ g1 g2
theorem hp_zastA (hexec : p.tables.exec = Jvm.exec) (hb : c.code = cc) (hK : hp_K D s) (hH : hp_w D T s H locs) {n : Nat} (ha : T a = some (.inl (2, n, fun _ => rA))) {i x : Int32} (hin : vp_in i n) (hdg : decode cc pc = .ok (.bastore, 1))
    (kk : ∀ (H1 : Heap) (locs1 : List Loc), hp_w D T s H1 locs1 → hp_ar D H H1 → W p l e R s m args below meth c H1 locs1 cells slots Q (F0 m (pc + 1) ls rest)) : W p l e R s m args below meth c H locs cells slots Q (F0 m pc ls (.int x :: .int i :: .ref a :: rest)) := by
  obtain ⟨f, h1, h2⟩ := hH.1 a _ ha
  refine W.zast hexec hb h1 ((hK.2 2 _ rfl).1 n f) (fun q => by cases q) (by rw [arrV_size]; exact hin) rfl rfl hdg fun H1 e z oq => ?_
  obtain ⟨g1, g2⟩ := hp_ast hK hH ha rfl h1 h2 (show rA (narrow .boolean (.int x)) from ⟨_, rfl⟩) e z oq
  exact kk H1 _ g1 g2
theorem hp_lastA (hexec : p.tables.exec = Jvm.exec) (hb : c.code = cc) (hK : hp_K D s) (hH : hp_w D T s H locs) {n : Nat} (ha : T a = some (.inl (3, n, fun _ => rL))) {i : Int32} {x : Int64} (hin : vp_in i n) (hdg : decode cc pc = .ok (.lastore, 1))
    (kk : ∀ (H1 : Heap) (locs1 : List Loc), hp_w D T s H1 locs1 → hp_ar D H H1 → W p l e R s m args below meth c H1 locs1 cells slots Q (F0 m (pc + 1) ls rest)) : W p l e R s m args below meth c H locs cells slots Q (F0 m pc ls (.long x :: .int i :: .ref a :: rest)) := by
  obtain ⟨f, h1, h2⟩ := hH.1 a _ ha
  refine W.last hexec hb h1 ((hK.2 3 _ rfl).1 n f) (fun q => by cases q) (by rw [arrV_size]; exact hin) rfl rfl hdg fun H1 e z oq => ?_
  obtain ⟨g1, g2⟩ := hp_ast hK hH ha rfl h1 h2 (show rL (.long x) from ⟨_, rfl⟩) e z oq
  exact kk H1 _ g1 g2
theorem hp_alen (hexec : p.tables.exec = Jvm.exec) (hb : c.code = cc) (hK : hp_K D s) (hH : hp_ok D T H) {t0 n : Nat} {P : Nat → Value → Prop} (ha : T a = some (.inl (t0, n, P))) {ty : FieldType} (ht : (hp_tys D.2.1)[t0]? = some (D.2.1 t0, ty)) {v : Int32} (hv : Int32.ofNat n = v) (hdg : decode cc pc = .ok (.arraylength, 1))
    (kk : W p l e R s m args below meth c H locs cells slots Q (F0 m (pc + 1) ls (.int v :: rest))) : W p l e R s m args below meth c H locs cells slots Q (F0 m pc ls (.ref a :: rest)) := by
  obtain ⟨f, h1, h2⟩ := hH a _ ha
  subst hv
  exact W.alen (n := Int32.ofNat n) hexec hb h1 ((hK.2 t0 _ ht).1 n f) (by rw [arrV_size] <;> rfl) rfl rfl hdg kk
/-- a contract that leaves the heap as it is -/
def hq_p (post : Option Value → Prop) : Array Value → State → Outcome → State → Prop := fun _ st oc t => ∃ v : Option Value, oc = .returned v ∧ post v ∧ t.heap = st.heap
/-- a contract that keeps the typed heap -/
def hq_e (D : hp_D) (T : hp_T) (post : Option Value → State → State → Prop) : Array Value → State → Outcome → State → Prop := fun _ st oc t => ∃ v : Option Value, oc = .returned v ∧ post v st t ∧ hp_ok D T t.heap ∧ va_F (hp_F T) st t
/-- a contract's start -/
def hp_Pc (D : hp_D) (T : hp_T) (av : List Value) (B : Heap → Prop) : Array Value → State → Prop := fun v U => v = av.toArray ∧ hp_ok D T U.heap ∧ hp_G D T U ∧ B U.heap
theorem hp_Pc.blind {av : List Value} {B : Heap → Prop} : FrameBlind (hp_Pc D T av B) := fun _ U g mk h => ⟨h.1, h.2.1, h.2.2.1.same (U := U.calling g mk _) rfl rfl, h.2.2.2⟩
theorem hp_Pc.at {av : List Value} {B : Heap → Prop} (hG : hp_G D T s) (hH : hp_w D T s H locs) (hB : B H) : ∀ U : State, U.heap = H → s.WarmedH U.vm → hp_Pc D T av B av.toArray U := fun U hU hW => ⟨rfl, by rw [hU]; exact hH.1, hG.at hH hU hW, by rw [hU]; exact hB⟩
/-- the receiver's class -/
theorem hp_recv (hK : hp_K D s) (hH : hp_ok D T H) {ci : Nat} {Ps : List (Value → Prop)} (ha : T a = some (.inr (ci, Ps))) {q : vw_C} (hc : vwCl[ci]? = some q) : ∃ cell : Cell, H[a]? = some cell ∧ cell.vm.isStatics = false ∧ s.vm.findClass q.1 = some cell.cls := by
  obtain ⟨r, V, h1, ⟨cell, q1, q2, q3, q4⟩, h3⟩ := hH a _ ha
  obtain ⟨hS, hfc, -⟩ := hK.1 ci _ hc
  exact ⟨cell, q1, by rw [q3]; rfl, by rw [q2]; exact hfc⟩
theorem hp_preV (hG : hp_G D T s) (hH : hp_w D T s H locs) {ci : Nat} {Ps : List (Value → Prop)} (ha : T a = some (.inr (ci, Ps))) {q : vw_C} (hc : vwCl[ci]? = some q) {As : List Value} {B : Heap → Prop} (hB : B H) : PreV s H q.1 a (hp_Pc D T (.ref a :: As) B) As := ⟨hp_Pc.blind, hp_recv hG.1 hH.1 ha hc, hp_Pc.at hG hH hB⟩
theorem hp_preS (hG : hp_G D T s) (hH : hp_w D T s H locs) {As : List Value} {B : Heap → Prop} (hB : B H) : PreS s H (hp_Pc D T As B) As := ⟨hp_Pc.blind, hp_Pc.at hG hH hB⟩
variable {st0 : List Value} {av : Array Value} {mc ms : Nat}
/-- a call that leaves the heap as it is -/
theorem hp_callp {post : Option Value → Prop} (hr : va_Run p l e R s m args below meth c H locs cells slots 0 0 (F0 m pc ls st0) rest (hq_p post av) (fun _ => False))
    (kk : ∀ v : Option Value, post v → W p l e R s m args below meth c H locs cells slots Q (F0 m (pc + 3) ls (v.toList ++ rest))) : W p l e R s m args below meth c H locs cells slots Q (F0 m pc ls st0) := by
  intro T0 hT X
  obtain ⟨v, st₀, t, T', L, h0, X', hL, e1, e2, ⟨v', hv, hp, hh⟩, st⟩ := hr T0 hT X
  cases hv
  have hLn : L = [] := List.eq_nil_iff_forall_not_mem.mpr fun q hq => hL q hq
  subst hLn
  rw [List.append_nil] at X'
  obtain ⟨t2, a1, b1⟩ := kk v hp T' (by rw [e1, hh, h0]) X'
  exact ⟨t2, st t2 a1, b1⟩
theorem hp_callpi {P : Int32 → Prop} (hr : va_Run p l e R s m args below meth c H locs cells slots 0 0 (F0 m pc ls st0) rest (hq_p (fun v => ∃ r : Int32, v = some (.int r) ∧ P r) av) (fun _ => False))
    (kk : ∀ r : Int32, P r → W p l e R s m args below meth c H locs cells slots Q (F0 m (pc + 3) ls (.int r :: rest))) : W p l e R s m args below meth c H locs cells slots Q (F0 m pc ls st0) :=
  hp_callp hr (fun v hv => by obtain ⟨r, rfl, h⟩ := hv; exact kk r h)
/-- a call that keeps the typed heap -/
theorem hp_calle {post : Option Value → State → State → Prop} (hr : va_Run p l e R s m args below meth c H locs cells slots mc ms (F0 m pc ls st0) rest (hq_e D T post av) (hp_F T)) (hH : hp_w D T s H locs)
    (kk : ∀ (v : Option Value) (st t : State) (H1 : Heap) (locs1 : List Loc), st.heap = H → t.heap = H1 → post v st t → hp_w D T s H1 locs1 → W p l e R s m args below meth c H1 locs1 (cells + mc) (slots + ms) Q (F0 m (pc + 3) ls (v.toList ++ rest))) : W p l e R s m args below meth c H locs cells slots Q (F0 m pc ls st0) := by
  intro T0 hT X
  obtain ⟨v, st₀, t, T', L, h0, X', hL, e1, e2, ⟨v', hv, hp, hok, hz, hk⟩, st⟩ := hr T0 hT X
  cases hv
  rw [h0] at hz hk
  obtain ⟨t2, a1, b1⟩ := kk v st₀ t T'.heap (locs ++ L) h0 e1.symm hp ⟨by rw [e1]; exact hok, Nat.le_trans hH.2.1 (by rw [e1]; exact hz), fun q h1 h2 => by
    rw [e1, hk q (Nat.lt_of_lt_of_le h1 hH.2.1) h2]; exact hH.2.2.1 q h1 h2, fun q hq => by
      rcases List.mem_append.mp hq with h | h
      · exact hH.2.2.2 q h
      · exact hL q h⟩ T' rfl X'
  exact ⟨t2, st t2 a1, b1⟩
theorem hp_callei {P : Int32 → State → State → Prop} (hr : va_Run p l e R s m args below meth c H locs cells slots mc ms (F0 m pc ls st0) rest (hq_e D T (fun v st t => ∃ r : Int32, v = some (.int r) ∧ P r st t) av) (hp_F T)) (hH : hp_w D T s H locs)
    (kk : ∀ (r : Int32) (st t : State) (H1 : Heap) (locs1 : List Loc), st.heap = H → t.heap = H1 → P r st t → hp_w D T s H1 locs1 → W p l e R s m args below meth c H1 locs1 (cells + mc) (slots + ms) Q (F0 m (pc + 3) ls (.int r :: rest))) : W p l e R s m args below meth c H locs cells slots Q (F0 m pc ls st0) :=
  hp_calle hr hH (fun v st t H1 locs1 e1 e2 hv hw => by obtain ⟨r, rfl, h⟩ := hv; exact kk r st t H1 locs1 e1 e2 h hw)
theorem hp_callev {P : State → State → Prop} (hr : va_Run p l e R s m args below meth c H locs cells slots mc ms (F0 m pc ls st0) rest (hq_e D T (fun v st t => v = none ∧ P st t) av) (hp_F T)) (hH : hp_w D T s H locs)
    (kk : ∀ (st t : State) (H1 : Heap) (locs1 : List Loc), st.heap = H → t.heap = H1 → P st t → hp_w D T s H1 locs1 → W p l e R s m args below meth c H1 locs1 (cells + mc) (slots + ms) Q (F0 m (pc + 3) ls rest)) : W p l e R s m args below meth c H locs cells slots Q (F0 m pc ls st0) :=
  hp_calle hr hH (fun v st t H1 locs1 e1 e2 hv hw => by obtain ⟨rfl, h⟩ := hv; exact kk st t H1 locs1 e1 e2 h hw)
end HPW
