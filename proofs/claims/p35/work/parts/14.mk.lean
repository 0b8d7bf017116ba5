/-! MAKERS: the typing grows; a cell that is being made stands beside it, by its own fields. -/
def hp_up (T : hp_T) (a : Nat) (ct : hp_C) : hp_T := fun q => if q = a then some ct else T q
theorem hp_up_s (T : hp_T) (a : Nat) (ct : hp_C) : hp_up T a ct a = some ct := by simp [hp_up]
theorem hp_up_n {T : hp_T} {a q : Nat} {ct : hp_C} (h : q ≠ a) : hp_up T a ct q = T q := by simp [hp_up, h]
def rV (w : Value) : Value → Prop := fun v => v = w
/-- what may be taken as given where cells are made -/
def mk_K (D : hp_D) (U : State) : Prop := hp_K D U ∧ hp_N U ∧ va_AO "PalmCensus$Rule" U ∧ va_AO "PalmCensus$Memory" U ∧ va_Nw (.castable "[I" "java/lang/Cloneable") U
def mk_w (D : hp_D) (T : hp_T) (A : Nat → Prop) (s : State) (H : Heap) (locs : List Loc) : Prop := hp_ok D T H ∧ va_S A s.heap H locs
/-- an object by its fields -/
def hp_o (D : hp_D) (H : Heap) (a ci : Nat) (V : Nat → Value) : Prop := ∃ r : vw_C, vwCl[ci]? = some r ∧ t_OB a (D.1.1 ci) r.2.2 (D.1.2 ci) H V
theorem hp_o.kept {D : hp_D} {H H1 : Heap} {a ci : Nat} {V : Nat → Value} (h : hp_o D H a ci V) (hq : H1[a]? = H[a]?) : hp_o D H1 a ci V := by
  obtain ⟨r, h1, h2⟩ := h
  exact ⟨r, h1, h2.kept hq⟩
theorem hp_o.lt {D : hp_D} {H : Heap} {a ci : Nat} {V : Nat → Value} (h : hp_o D H a ci V) : a < H.size := by
  obtain ⟨r, h1, cell, h2, -⟩ := h
  exact (Array.getElem?_eq_some_iff.mp h2).1
/-- the typing holds what it held; what is new lies behind all, or is the cell itself -/
def hp_sub (T T1 : hp_T) : Prop := ∀ q ct, T q = some ct → T1 q = some ct
def hp_gr (T T1 : hp_T) (a sz : Nat) : Prop := hp_sub T T1 ∧ ∀ q ct, T1 q = some ct → T q = some ct ∨ q = a ∨ sz ≤ q
theorem hp_sub.trans {T T1 T2 : hp_T} (h : hp_sub T T1) (g : hp_sub T1 T2) : hp_sub T T2 := fun q ct hq => g q ct (h q ct hq)
theorem hp_sub_up {T : hp_T} {a : Nat} {ct : hp_C} (h : T a = none) : hp_sub T (hp_up T a ct) := fun q c hq => by
  by_cases e : q = a
  · rw [e, h] at hq
    cases hq
  · rw [hp_up_n e]
    exact hq
/-- a contract's end, of what makes a cell -/
def hq_m (D : hp_D) (T : hp_T) (a : Nat) (isx : hp_T → Prop) : Array Value → State → Outcome → State → Prop := fun _ st oc t => oc = .returned none ∧ ∃ T1 : hp_T, hp_gr T T1 a st.heap.size ∧ isx T1 ∧ hp_ok D T1 t.heap ∧ va_F (fun q => q = a ∨ st.heap.size ≤ q) st t
def mk_Pc (D : hp_D) (T : hp_T) (av : List Value) (B : Heap → Prop) : Array Value → State → Prop := fun v U => v = av.toArray ∧ hp_ok D T U.heap ∧ mk_K D U ∧ B U.heap
theorem mk_K.warm {D : hp_D} {s U : State} (hW : s.WarmedH U.vm) (h : mk_K D s) : mk_K D U := ⟨h.1.moved hW.alike, h.2.1.warm hW, h.2.2.1.moved hW.alike, h.2.2.2.1.moved hW.alike, va_Nw.warmC hW h.2.2.2.2⟩
theorem mk_K.same {D : hp_D} {s U : State} (hv : U.vm = s.vm) (h : mk_K D s) : mk_K D U := ⟨h.1.moved (by rw [hv]; exact Vm.Alike.refl _), h.2.1.same hv, h.2.2.1.moved (by rw [hv]; exact Vm.Alike.refl _), h.2.2.2.1.moved (by rw [hv]; exact Vm.Alike.refl _), va_Nw.same rfl hv.symm h.2.2.2.2⟩
theorem mk_Pc.blind {D : hp_D} {T : hp_T} {av : List Value} {B : Heap → Prop} : FrameBlind (mk_Pc D T av B) := fun _ U g mk h => ⟨h.1, h.2.1, h.2.2.1.same (U := U.calling g mk _) rfl, h.2.2.2⟩
section MKW
variable {p : Program} {l : Launch} {e : Env} {R : Room} {s : State} {m : MethodId} {args : Array Value} {below : List Frame} {meth : Method} {c : Code} {H : Heap} {locs : List Loc} {cells slots : Nat} {Q : State → Prop}
variable {cc : ByteArray} {pc : Nat} {ls : Array Slot} {rest : List Value} {D : hp_D} {T : hp_T} {a : Nat} {A : Nat → Prop}
theorem mk_none (hH : hp_ok D T H) {q : Nat} (h : H.size ≤ q) : T q = none := by
  cases e : T q with
  | none => rfl
  | some ct => exact absurd (hH q ct e).lt (Nat.not_lt.mpr h)
theorem mk_pre {T : hp_T} {av : List Value} {B : Heap → Prop} (hM : mk_K D s) (hH : mk_w D T A s H locs) (hB : B H) : PreS s H (mk_Pc D T av B) av := ⟨mk_Pc.blind, fun U hU hW => ⟨rfl, by rw [hU]; exact hH.1, hM.warm hW, by rw [hU]; exact hB⟩⟩
theorem mk_new (hexec : p.tables.exec = Jvm.exec) (hb : c.code = cc) {own C : String} {TT : u_T} {N ci index : Nat} {Ts : List Cond} (hts : ∀ w ∈ Ts, w.before args s = true) (hin : ∀ w ∈ u_ws C TT N, w ∈ Ts) (ty : Nat → FieldType) (hty : ∀ k, k < N → parseFieldDescriptor (TT k).2.2.1 = some (ty k)) (hown : s.vm.findClass own = some m.cls) (hcl : (Cond.classLink own index C).before args s = true) (hinst : (Cond.instantiable C N).before args s = true) (hini : (Cond.initialized C).before args s = true)
    (hK : hp_K D s) (hH : mk_w D T A s H locs) (hc : vwCl[ci]? = some (C, TT, N)) (hcells : cells + 1 ≤ R.cells) (hslots : slots + N ≤ R.slots) (hdg : decode cc pc = .ok (.new index, 3))
    (kk : ∀ (q : Nat) (H1 : Heap), mk_w D T A s H1 locs → hp_o D H1 q ci (fun k => defaultValue (ty k)) → q = H.size → (∀ x, x < H.size → H1[x]? = H[x]?) → T q = none →
      W p l e R s m args below meth c H1 locs (cells + 1) (slots + N) Q (F0 m (pc + 3) ls (.ref q :: rest))) : W p l e R s m args below meth c H locs cells slots Q (F0 m pc ls rest) := by
  have hKn := hK.1 ci _ hc
  refine W.newcK hexec hb hown hcl hinst hini rfl hdg hcells hslots hKn.2.1 rfl fun H1 kC hkC e1 z1 o1 => ?_
  exact kk H.size H1 ⟨fun b t hbt => (hH.1 b t hbt).kept (o1 b (hH.1 b t hbt).lt), Nat.le_trans hH.2.1 (by omega), fun x h1 h2 => (o1 x (Nat.lt_of_lt_of_le h1 hH.2.1)).trans (hH.2.2.1 x h1 h2), hH.2.2.2⟩ ⟨_, hc, u_born ty hts hin hKn hkC e1 hty⟩ rfl o1 (mk_none hH.1 (Nat.le_refl _))
theorem mk_grow {q : Nat} {t0 n : Nat} {P : Nat → Value → Prop} {f : Nat → Value} {H1 : Heap} (hH : mk_w D T A s H locs) (hq : q = H.size) (e1 : H1[q]? = some (arrV (D.2.1 t0) n f)) (hP : ∀ j, j < n → P j (f j)) (z1 : H1.size = q + 1) (o1 : ∀ x, x < q → H1[x]? = H[x]?) : mk_w D (hp_up T q (.inl (t0, n, P))) A s H1 locs ∧ T q = none := by
  subst hq
  have hn : ∀ x ct, T x = some ct → x ≠ H.size := fun x ct hx => Nat.ne_of_lt (hH.1 x ct hx).lt
  refine ⟨⟨fun b t hbt => ?_, Nat.le_trans hH.2.1 (by omega), fun x h1 h2 => (o1 x (Nat.lt_of_lt_of_le h1 hH.2.1)).trans (hH.2.2.1 x h1 h2), hH.2.2.2⟩, mk_none hH.1 (Nat.le_refl _)⟩
  by_cases hb2 : b = H.size
  · subst hb2
    rw [hp_up_s] at hbt
    cases hbt
    exact ⟨f, e1, hP⟩
  · rw [hp_up_n hb2] at hbt
    exact (hH.1 b t hbt).kept (o1 b (hH.1 b t hbt).lt)
theorem mk_newa (hexec : p.tables.exec = Jvm.exec) (hb : c.code = cc) {atype : ArrayType} (harr : (Cond.arrayClass (newarray.typeOf atype)).before args s = true) {ty : FieldType} (hty : newarray.typeOf atype = ty) (hprim : ∀ C, ty ≠ .object C) {t0 : Nat} (ht : (hp_tys D.2.1)[t0]? = some (D.2.1 t0, ty)) (hK : hp_K D s) (hH : mk_w D T A s H locs)
    {n : Int32} {N' : Nat} {P : Nat → Value → Prop} (hP : ∀ j, j < N' → P j (defaultValue ty)) (hn : ¬ n < 0) (hN : n.toNatClampNeg = N') (hbytes : N' * componentBytes ty ≤ 536870912) (hcells : cells + 1 ≤ R.cells) (hslots : slots + N' ≤ R.slots) (hdg : decode cc pc = .ok (.newarray atype, 2))
    (kk : ∀ (q : Nat) (H1 : Heap), mk_w D (hp_up T q (.inl (t0, N', P))) A s H1 locs → q = H.size → (∀ x, x < H.size → H1[x]? = H[x]?) → T q = none →
      W p l e R s m args below meth c H1 locs (cells + 1) (slots + N') Q (F0 m (pc + 2) ls (.ref q :: rest))) : W p l e R s m args below meth c H locs cells slots Q (F0 m pc ls (.int n :: rest)) := by
  subst hty
  refine va_newaK hexec hb harr rfl hdg rfl hn hN hbytes hcells hslots rfl fun H1 cA e1 z1 o1 hAr hNm => ?_
  have hcA : cA = D.2.1 t0 := by
    have h2 := (hK.2 t0 _ ht).2
    unfold va_RA at h2
    cases hty : newarray.typeOf atype with
    | object C => exact absurd hty (hprim C)
    | _ => rw [hty] at h2 hNm; exact Option.some.inj (hNm.symm.trans h2)
  subst hcA
  obtain ⟨g1, g2⟩ := mk_grow (P := P) hH rfl e1 (fun j hj => hP j hj) z1 o1
  exact kk H.size H1 g1 rfl o1 g2
theorem mk_newq (hexec : p.tables.exec = Jvm.exec) (hb : c.code = cc) {own C : String} {index : Nat} (hown : s.vm.findClass own = some m.cls) (hclink : (Cond.classLink own index C).before args s = true) (hover : va_AO C s) {t0 : Nat} (ht : (hp_tys D.2.1)[t0]? = some (D.2.1 t0, .object C)) (hK : hp_K D s) (hH : mk_w D T A s H locs)
    {n : Int32} {N' : Nat} {P : Nat → Value → Prop} (hP : ∀ j, j < N' → P j .null) (hn : ¬ n < 0) (hN : n.toNatClampNeg = N') (hbytes : N' * 4 ≤ 536870912) (hcells : cells + 1 ≤ R.cells) (hslots : slots + N' ≤ R.slots) (hdg : decode cc pc = .ok (.anewarray index, 3))
    (kk : ∀ (q : Nat) (H1 : Heap), mk_w D (hp_up T q (.inl (t0, N', P))) A s H1 locs → q = H.size → (∀ x, x < H.size → H1[x]? = H[x]?) → T q = none →
      W p l e R s m args below meth c H1 locs (cells + 1) (slots + N') Q (F0 m (pc + 3) ls (.ref q :: rest))) : W p l e R s m args below meth c H locs cells slots Q (F0 m pc ls (.int n :: rest)) := by
  subst hN
  refine W.anew hexec hb hown hclink (va_AO.use hover) rfl hdg rfl hn hbytes hcells hslots fun cA kA comp f1 f2 f3 f4 => ?_
  generalize hH1 : H.push ({ cls := cA, slots := Array.replicate n.toNatClampNeg .null, vm := .none } : Cell) = H1
  have z1 : H1.size = H.size + 1 := by rw [← hH1, Array.size_push]
  have e1 : H1[H.size]? = some (arrV cA n.toNatClampNeg (fun _ => .null)) := by rw [← hH1, Array.getElem?_push_size, ← arrV_new]
  have o1 : ∀ q : Nat, q < H.size → H1[q]? = H[q]? := fun q hq => by rw [← hH1, Array.getElem?_push, if_neg (Nat.ne_of_lt hq)]
  have hcA : cA = D.2.1 t0 := by
    obtain ⟨kA', comp', h1, h2, h3, h4⟩ := (hK.2 t0 _ ht).2
    exact Option.some.inj (f1.symm.trans h4)
  subst hcA
  obtain ⟨g1, g2⟩ := mk_grow (P := P) hH rfl e1 hP z1 o1
  exact kk H.size H1 g1 rfl o1 g2
theorem mk_put (hexec : p.tables.exec = Jvm.exec) (hb : c.code = cc) {own C : String} {TT : u_T} {N ci index : Nat} {Ts : List Cond} (hts : ∀ w ∈ Ts, w.before args s = true) (hin : ∀ w ∈ u_ws C TT N, w ∈ Ts) (ty0 : Nat → FieldType) (hty : ∀ k, k < N → parseFieldDescriptor (TT k).2.2.1 = some (ty0 k)) (hnm : ∀ a, a < N → ∀ b, b < N → a ≠ b → (TT a).2.1 ≠ (TT b).2.1) (hown : s.vm.findClass own = some m.cls) (hK : hp_K D s) (hH : mk_w D T A s H locs) {V : Nat → Value} (ho : hp_o D H a ci V) (hTa : T a = none) (hAa : A a) (hc : vwCl[ci]? = some (C, TT, N)) (k : Nat) (hk : k < N) (hlink : (Cond.fieldLink own index (TT k).1 (TT k).2.1 (TT k).2.2.1).before args s = true) (hfin : (TT k).2.2.2 = false) {v : Value} (hn : narrow (ty0 k) v = v) (hfit : fits (ty0 k) v = true) (hdg : decode cc pc = .ok (.putfield index, 3))
    (kk : ∀ (H1 : Heap) (locs1 : List Loc), mk_w D T A s H1 locs1 → hp_o D H1 a ci (updV V k v) → W p l e R s m args below meth c H1 locs1 cells slots Q (F0 m (pc + 3) ls rest)) : W p l e R s m args below meth c H locs cells slots Q (F0 m pc ls (v :: .ref a :: rest)) := by
  obtain ⟨r, h1, cell, q1, q2, q3, q4⟩ := ho
  have hr : r = (C, TT, N) := Option.some.inj (h1.symm.trans hc)
  subst hr
  have hap := va_apart (own := own) hts hin ty0 hty hnm hK hc
  obtain ⟨hS, hfc, kC, hkC, hkind⟩ := hK.1 ci _ hc
  obtain ⟨cf, kf, fi, f, hi, hsl⟩ := hS k hk
  have hlay := hts _ (hin _ (u_in_lay hk))
  unfold u_lay at hlay
  rw [if_neg (by rw [hfin]; decide)] at hlay
  have hst := (u_facts hfc hkC (u_lays hts hin hk) hi).1
  have h6 := u_store hfc hkC hkind hlay hi (hty k hk) hn hfit
  refine W.putK hexec hb (f := f) ⟨hown, hlink, ⟨_, _, _, hi⟩, hst⟩ (by rw [q2]; exact h6) q1 q3 (by rw [hsl]; exact k2_hasslot (q4 k hk)) rfl rfl hdg fun H' e1 e2 e3 => ?_
  rw [hsl] at e1 ⊢
  exact kk H' _ ⟨fun b t hbt => (hH.1 b t hbt).kept (e3 b (fun h => by rw [h, hTa] at hbt; cases hbt)), hH.2.put e2 e3 hAa⟩ ⟨_, hc, _, e1, q2, q3, t_set q4 hap hk v⟩
theorem mk_putF (hexec : p.tables.exec = Jvm.exec) (hb : c.code = cc) {own C : String} {TT : u_T} {N ci index : Nat} {Ts : List Cond} (hts : ∀ w ∈ Ts, w.before args s = true) (hin : ∀ w ∈ u_ws C TT N, w ∈ Ts) (ty0 : Nat → FieldType) (hty : ∀ k, k < N → parseFieldDescriptor (TT k).2.2.1 = some (ty0 k)) (hnm : ∀ a, a < N → ∀ b, b < N → a ≠ b → (TT a).2.1 ≠ (TT b).2.1) (hown : s.vm.findClass own = some m.cls) (hK : hp_K D s) (hH : mk_w D T A s H locs) {V : Nat → Value} (ho : hp_o D H a ci V) (hTa : T a = none) (hAa : A a) (hc : vwCl[ci]? = some (C, TT, N)) (k : Nat) (hk : k < N) (hlink : (Cond.fieldLink own index (TT k).1 (TT k).2.1 (TT k).2.2.1).before args s = true) (hfin : (TT k).2.2.2 = true) (hin2 : meth.name = "<init>") (hdecl : (TT k).1 = own) {v : Value} (hn : narrow (ty0 k) v = v) (hfit : fits (ty0 k) v = true) (hdg : decode cc pc = .ok (.putfield index, 3))
    (kk : ∀ (H1 : Heap) (locs1 : List Loc), mk_w D T A s H1 locs1 → hp_o D H1 a ci (updV V k v) → W p l e R s m args below meth c H1 locs1 cells slots Q (F0 m (pc + 3) ls rest)) : W p l e R s m args below meth c H locs cells slots Q (F0 m pc ls (v :: .ref a :: rest)) := by
  obtain ⟨r, h1, cell, q1, q2, q3, q4⟩ := ho
  have hr : r = (C, TT, N) := Option.some.inj (h1.symm.trans hc)
  subst hr
  have hap := va_apart (own := own) hts hin ty0 hty hnm hK hc
  obtain ⟨hS, hfc, kC, hkC, hkind⟩ := hK.1 ci _ hc
  obtain ⟨cf, kf, fi, f, hi, hsl⟩ := hS k hk
  have hlay := hts _ (hin _ (u_in_lay hk))
  unfold u_lay at hlay
  rw [if_pos hfin] at hlay
  have hst := (u_facts hfc hkC (u_lays hts hin hk) hi).1
  have hcf : m.cls = cf := by
    obtain ⟨_, _, c', _, _, _, -, -, hf', -, -, -, hown2, -⟩ := Cond.laysFinal_spec hlay
    have e1 : c' = cf := by have := hi.symm.trans hf'; simp at this; exact this.1.symm
    rw [hdecl] at hown2
    rw [← e1]; exact Option.some.inj (hown.symm.trans hown2)
  have h6 := u_fits hfc hkC hkind (Or.inr hlay) hi (hty k hk) hn hfit
  refine W.putFinK hexec hb hown hlink hi hst hcf hin2 (by rw [q2]; exact h6) q1 q3 (by rw [hsl]; exact k2_hasslot (q4 k hk)) rfl rfl hdg fun H' e1 e2 e3 => ?_
  rw [hsl] at e1 ⊢
  exact kk H' _ ⟨fun b t hbt => (hH.1 b t hbt).kept (e3 b (fun h => by rw [h, hTa] at hbt; cases hbt)), hH.2.put e2 e3 hAa⟩ ⟨_, hc, _, e1, q2, q3, t_set q4 hap hk v⟩
/-- getfield of the object that is being made -/
theorem mk_get (hexec : p.tables.exec = Jvm.exec) (hb : c.code = cc) {own C : String} {TT : u_T} {N ci index : Nat} {Ts : List Cond} (hts : ∀ w ∈ Ts, w.before args s = true) (hin : ∀ w ∈ u_ws C TT N, w ∈ Ts) (hown : s.vm.findClass own = some m.cls) (hK : hp_K D s) {V : Nat → Value} (ho : hp_o D H a ci V) (hc : vwCl[ci]? = some (C, TT, N)) (k : Nat) (hk : k < N) (hlink : (Cond.fieldLink own index (TT k).1 (TT k).2.1 (TT k).2.2.1).before args s = true) {v : Value} (hv : V k = v) (hdg : decode cc pc = .ok (.getfield index, 3))
    (kk : W p l e R s m args below meth c H locs cells slots Q (F0 m (pc + 3) ls (v :: rest))) : W p l e R s m args below meth c H locs cells slots Q (F0 m pc ls (.ref a :: rest)) := by
  obtain ⟨r, h1, h2⟩ := ho
  exact hp_getf hexec hb hts hin hown hK (k := k) (v := v) ⟨r, V, h1, h2, hv⟩ hc hk hlink hdg kk
variable {st0 : List Value} {av : Array Value} {mc ms : Nat}
/-- a maker is called on a cell that has just come -/
theorem mk_call {isx : hp_T → Prop} {q : Nat} (hr : va_Run p l e R s m args below meth c H locs cells slots mc ms (F0 m pc ls st0) rest (hq_m D T q isx av) (fun x => x = q ∨ H.size ≤ x)) (hH : mk_w D T A s H locs) (hA : ∀ x, s.heap.size ≤ x → A x) (hq : s.heap.size ≤ q)
    (kk : ∀ (T1 : hp_T) (H1 : Heap) (locs1 : List Loc), isx T1 → mk_w D T1 A s H1 locs1 → hp_gr T T1 q H.size → (∀ x, x < H.size → x ≠ q → H1[x]? = H[x]?) → W p l e R s m args below meth c H1 locs1 (cells + mc) (slots + ms) Q (F0 m (pc + 3) ls rest)) : W p l e R s m args below meth c H locs cells slots Q (F0 m pc ls st0) := by
  intro T0 hT X
  obtain ⟨v, st₀, t, T', L, h0, X', hL, e1, e2, ⟨hv, T1, hg, hi, hok, hz, hk⟩, st⟩ := hr T0 hT X
  cases hv
  rw [h0] at hz hk hg
  have hq2 : ∀ x, x < H.size → x ≠ q → T'.heap[x]? = H[x]? := fun x h1 h2 => by
    rw [e1]
    refine hk x h1 (fun z => ?_)
    rcases z with z | z
    · exact h2 z
    · exact absurd h1 (Nat.not_lt.mpr z)
  have hA2 : ∀ x : Loc, x ∈ locs ++ L → A x.base := fun x hx => by
    rcases List.mem_append.mp hx with h | h
    · exact hH.2.2.2 x h
    · rcases hL x h with z | z
      · exact hA _ (by rw [z]; exact hq)
      · exact hA _ (Nat.le_trans hH.2.1 z)
  have hw : mk_w D T1 A s T'.heap (locs ++ L) := ⟨by rw [e1]; exact hok, Nat.le_trans hH.2.1 (by rw [e1]; exact hz), fun x h1 _ => (hq2 x (Nat.lt_of_lt_of_le h1 hH.2.1) (fun z => absurd h1 (Nat.not_lt.mpr (by rw [z]; exact hq)))).trans (hH.2.2.1 x h1 (by assumption)), hA2⟩
  obtain ⟨t2, a1, b1⟩ := kk T1 T'.heap (locs ++ L) hi hw hg hq2 T' rfl X'
  exact ⟨t2, st t2 a1, b1⟩
/-- one cell alone -/
def hp_one (a : Nat) (ct : hp_C) : hp_T := hp_up (fun _ => none) a ct
theorem hp_one_ok {ct : hp_C} (hH : hp_ok D T H) (ha : T a = some ct) : hp_ok D (hp_one a ct) H := fun b t hbt => by
  by_cases h : b = a
  · subst h
    unfold hp_one at hbt
    rw [hp_up_s] at hbt
    cases hbt
    exact hH b _ ha
  · unfold hp_one at hbt
    rw [hp_up_n h] at hbt
    cases hbt
theorem hp_one_F {ct : hp_C} {x : Nat} (h : hp_F (hp_one a ct) x) : x = a := by
  obtain ⟨t, h⟩ := h
  by_cases e : x = a
  · exact e
  · unfold hp_one at h
    rw [hp_up_n e] at h
    cases h
/-- a call that writes one cell of the typing alone -/
theorem mk_one {ct : hp_C} {P : State → State → Prop} (hr : va_Run p l e R s m args below meth c H locs cells slots mc ms (F0 m pc ls st0) rest (hq_e D (hp_one a ct) (fun v st t => v = none ∧ P st t) av) (hp_F (hp_one a ct))) (hH : mk_w D T A s H locs) (ha : T a = some ct) (hAa : A a)
    (kk : ∀ (H1 : Heap) (locs1 : List Loc), mk_w D T A s H1 locs1 → (∀ x, x < H.size → x ≠ a → H1[x]? = H[x]?) → H.size ≤ H1.size → W p l e R s m args below meth c H1 locs1 (cells + mc) (slots + ms) Q (F0 m (pc + 3) ls rest)) : W p l e R s m args below meth c H locs cells slots Q (F0 m pc ls st0) := by
  intro T0 hT X
  obtain ⟨v, st₀, t, T', L, h0, X', hL, e1, e2, ⟨v', hv, ⟨hn, -⟩, hok, hz, hk⟩, st⟩ := hr T0 hT X
  cases hv
  subst hn
  rw [h0] at hz hk
  have hq : ∀ x, x < H.size → x ≠ a → T'.heap[x]? = H[x]? := fun x h1 h2 => by rw [e1]; exact hk x h1 (fun z => h2 (hp_one_F z))
  obtain ⟨t2, a1, b1⟩ := kk T'.heap (locs ++ L) ⟨fun b t2 hbt => by
      by_cases h : b = a
      · subst h
        have := hok b ct (by unfold hp_one; exact hp_up_s _ _ _)
        rw [ha] at hbt
        cases hbt
        rw [e1]
        exact this
      · exact (hH.1 b t2 hbt).kept (hq b (hH.1 b t2 hbt).lt h), Nat.le_trans hH.2.1 (by rw [e1]; exact hz), fun x h1 h2 => by
      rw [hq x (Nat.lt_of_lt_of_le h1 hH.2.1) (fun z => h2 (by rw [z]; exact hAa))]; exact hH.2.2.1 x h1 h2, fun x hx => by
      rcases List.mem_append.mp hx with h | h
      · exact hH.2.2.2 x h
      · rw [hp_one_F (hL x h)]
        exact hAa⟩ hq (by rw [e1]; exact hz) T' rfl X'
  exact ⟨t2, st t2 a1, b1⟩
end MKW
