/-! OPEN: the typing changed at a cell; what the law's own walk takes as given -/
theorem hp_upup (T : hp_T) (a : Nat) (c1 c2 : hp_C) : hp_up (hp_up T a c1) a c2 = hp_up T a c2 := by
  funext q
  by_cases e : q = a
  · subst e
    rw [hp_up_s, hp_up_s]
  · rw [hp_up_n e, hp_up_n e, hp_up_n e]
theorem hp_F_up {T : hp_T} {a q : Nat} {ct : hp_C} (h : hp_F (hp_up T a ct) q) : hp_F T q ∨ q = a := by
  by_cases e : q = a
  · exact Or.inr e
  · obtain ⟨t, ht⟩ := h
    rw [hp_up_n e] at ht
    exact Or.inl ⟨t, ht⟩
theorem hp_setP {D : hp_D} {T : hp_T} {H : Heap} {a ci k : Nat} {Ps : List (Value → Prop)} {P : Value → Prop} {v : Value} (h : hp_ok D T H) (ha : T a = some (.inr (ci, Ps))) (hf : hp_f D H a ci k v) (hP : P v) : hp_ok D (hp_up T a (.inr (ci, Ps.set k P))) H := fun b t hbt => by
  by_cases e : b = a
  · subst e
    rw [hp_up_s] at hbt
    cases hbt
    obtain ⟨r, V, h1, ⟨cell, q1, q2, q3, q4⟩, h3⟩ := h b _ ha
    obtain ⟨r', V', h1', ⟨cell', q1', q2', q3', q4'⟩, h3'⟩ := hf
    have hr : r' = r := Option.some.inj (h1'.symm.trans h1)
    subst hr
    have hcell : cell' = cell := Option.some.inj (q1'.symm.trans q1)
    subst hcell
    refine ⟨r', fun j => if j = k then v else V j, h1, ⟨cell', q1, q2, q3, fun j hj => ?_⟩, fun j Q hQ => ?_⟩
    · by_cases ej : j = k
      · subst ej
        show _ = some (if j = j then v else V j)
        rw [if_pos rfl, ← h3']
        exact q4' j hj
      · show _ = some (if j = k then v else V j)
        rw [if_neg ej]
        exact q4 j hj
    · show Q (if j = k then v else V j)
      rw [List.getElem?_set] at hQ
      by_cases ej : k = j
      · rw [if_pos ej] at hQ
        split at hQ
        · cases hQ
          rw [if_pos ej.symm]
          exact hP
        · cases hQ
      · rw [if_neg ej] at hQ
        rw [if_neg (fun z => ej z.symm)]
        exact h3 j Q hQ
  · rw [hp_up_n e] at hbt
    exact h b t hbt
theorem hp_getv {D : hp_D} {T : hp_T} {H : Heap} {a ci k : Nat} {Ps : List (Value → Prop)} {v : Value} (h : hp_ok D T H) (ha : T a = some (.inr (ci, Ps))) (hk : Ps[k]? = some (rV v)) : hp_f D H a ci k v := by
  obtain ⟨r, V, h1, h2, h3⟩ := h a _ ha
  exact ⟨r, V, h1, h2, h3 k _ hk⟩
theorem hp_f_uniq {D : hp_D} {H : Heap} {a ci k : Nat} {v w : Value} {C : String} {TT : u_T} {N : Nat} (hc : vwCl[ci]? = some (C, TT, N)) (hk : k < N) (h : hp_f D H a ci k v) (g : hp_f D H a ci k w) : v = w := by
  obtain ⟨r, V, h1, ⟨cell, q1, q2, q3, q4⟩, h3⟩ := h
  obtain ⟨r', V', h1', ⟨cell', q1', q2', q3', q4'⟩, h3'⟩ := g
  have hr : r' = r := Option.some.inj (h1'.symm.trans h1)
  subst hr
  have hr2 : r' = (C, TT, N) := Option.some.inj (h1.symm.trans hc)
  subst hr2
  have hcell : cell' = cell := Option.some.inj (q1'.symm.trans q1)
  subst hcell
  rw [← h3, ← h3']
  exact Option.some.inj ((q4 k hk).symm.trans (q4' k hk))
theorem hp_weakA {D : hp_D} {T : hp_T} {H : Heap} {a t0 n : Nat} {P P' : Nat → Value → Prop} (h : hp_ok D T H) (ha : T a = some (.inl (t0, n, P))) (hP : ∀ j v, P j v → P' j v) : hp_ok D (hp_up T a (.inl (t0, n, P'))) H := fun b t hbt => by
  by_cases e : b = a
  · subst e
    rw [hp_up_s] at hbt
    cases hbt
    obtain ⟨f, h1, h2⟩ := h b _ ha
    exact ⟨f, h1, fun j hj => hP j _ (h2 j hj)⟩
  · rw [hp_up_n e] at hbt
    exact h b t hbt
theorem hp_weakO {D : hp_D} {T : hp_T} {H : Heap} {a ci : Nat} {Ps Ps' : List (Value → Prop)} (h : hp_ok D T H) (ha : T a = some (.inr (ci, Ps))) (hP : ∀ (k : Nat) (P' : Value → Prop), Ps'[k]? = some P' → ∃ P : Value → Prop, Ps[k]? = some P ∧ ∀ v, P v → P' v) : hp_ok D (hp_up T a (.inr (ci, Ps'))) H := fun b t hbt => by
  by_cases e : b = a
  · subst e
    rw [hp_up_s] at hbt
    cases hbt
    obtain ⟨r, V, h1, h2, h3⟩ := h b _ ha
    refine ⟨r, V, h1, h2, fun k P' hk => ?_⟩
    obtain ⟨P, g1, g2⟩ := hP k P' hk
    exact g2 _ (h3 k P g1)
  · rw [hp_up_n e] at hbt
    exact h b t hbt
/-- all cells but the arrays of the one kind and the objects of the one class are typed as they were -/
def hp_cx (n1 n2 : Nat) (ct : hp_C) : Bool := match ct with
  | .inl q => q.1 != n1
  | .inr q => q.1 != n2
def hp_sc (n1 n2 : Nat) (T T1 : hp_T) : Prop := ∀ (q : Nat) (ct : hp_C), T q = some ct → hp_cx n1 n2 ct = true → T1 q = some ct
theorem hp_sc.upO {n1 n2 a : Nat} {T : hp_T} {Ps Ps' : List (Value → Prop)} (ha : T a = some (.inr (n2, Ps))) : hp_sc n1 n2 T (hp_up T a (.inr (n2, Ps'))) := fun q ct hq hc => by
  by_cases e : q = a
  · subst e
    rw [ha] at hq
    cases hq
    simp [hp_cx] at hc
  · rw [hp_up_n e]
    exact hq
theorem hp_sc.upA {n1 n2 a n : Nat} {T : hp_T} {P P' : Nat → Value → Prop} (ha : T a = some (.inl (n1, n, P))) : hp_sc n1 n2 T (hp_up T a (.inl (n1, n, P'))) := fun q ct hq hc => by
  by_cases e : q = a
  · subst e
    rw [ha] at hq
    cases hq
    simp [hp_cx] at hc
  · rw [hp_up_n e]
    exact hq
theorem hp_sc.trans {n1 n2 : Nat} {T T1 T2 : hp_T} (h : hp_sc n1 n2 T T1) (g : hp_sc n1 n2 T1 T2) : hp_sc n1 n2 T T2 := fun q ct hq hc => g q ct (h q ct hq hc) hc
theorem hp_sub.sc {n1 n2 : Nat} {T T1 : hp_T} (h : hp_sub T T1) : hp_sc n1 n2 T T1 := fun q ct hq _ => h q ct hq
/-- what the law takes as given beside the typing; A: all that was made since -/
def lw_G (D : hp_D) (A : Nat → Prop) (U : State) (H : Heap) : Prop := mk_K D U ∧ hp_R D U ∧ hp_S D A U H
theorem hp_S.narrow {D : hp_D} {A B : Nat → Prop} {U : State} {H : Heap} (h : hp_S D A U H) (g : ∀ q, B q → A q) : hp_S D B U H := ⟨h.1.narrow g, h.2.1.narrow g, h.2.2.narrow g⟩
theorem lw_G.hp {D : hp_D} {T : hp_T} {A : Nat → Prop} {U : State} (h : lw_G D A U U.heap) (g : ∀ q, hp_F T q → A q) : hp_G D T U := ⟨h.1.1, h.1.2.1, h.2.1, h.2.2.narrow g⟩
theorem lw_G.at {D : hp_D} {T : hp_T} {A : Nat → Prop} {s U : State} {H : Heap} {locs : List Loc} (h : lw_G D A s s.heap) (hw : mk_w D T A s H locs) (hU : U.heap = H) (hW : s.WarmedH U.vm) : lw_G D A U U.heap := ⟨h.1.warm hW, h.2.1.warm hW, h.2.2.kept hW.alike (fun q a b => by rw [hU]; exact hw.2.2.1 q a b)⟩
theorem lw_G.same {D : hp_D} {A : Nat → Prop} {s U : State} (h : lw_G D A s s.heap) (hU : U.heap = s.heap) (hv : U.vm = s.vm) : lw_G D A U U.heap := ⟨h.1.same hv, h.2.1.same hv, h.2.2.kept (by rw [hv]; exact Vm.Alike.refl _) (fun q _ _ => by rw [hU])⟩
def lx_Pc (D : hp_D) (T : hp_T) (A : Nat → Prop) (av : List Value) (B : Heap → Prop) : Array Value → State → Prop := fun v U => v = av.toArray ∧ hp_ok D T U.heap ∧ lw_G D A U U.heap ∧ (∀ q, hp_F T q → A q) ∧ (∀ q, U.heap.size ≤ q → A q) ∧ B U.heap
def lw_q (D : hp_D) (A : Nat → Prop) (post : Option Value → hp_T → State → State → Prop) : Array Value → State → Outcome → State → Prop := fun _ st oc t => ∃ (v : Option Value) (T1 : hp_T), oc = .returned v ∧ post v T1 st t ∧ hp_ok D T1 t.heap ∧ (∀ q, hp_F T1 q → A q) ∧ va_F A st t
theorem lx_Pc.blind {D : hp_D} {T : hp_T} {A : Nat → Prop} {av : List Value} {B : Heap → Prop} : FrameBlind (lx_Pc D T A av B) := fun _ U g mk h => ⟨h.1, h.2.1, h.2.2.1.same (U := U.calling g mk _) rfl rfl, h.2.2.2⟩
section LWW
variable {p : Program} {l : Launch} {e : Env} {R : Room} {s : State} {m : MethodId} {args : Array Value} {below : List Frame} {meth : Method} {c : Code} {H : Heap} {locs : List Loc} {cells slots : Nat} {Q : State → Prop}
variable {cc : ByteArray} {pc : Nat} {ls : Array Slot} {rest : List Value} {D : hp_D} {T : hp_T} {a : Nat} {A : Nat → Prop}
theorem lw_preV (hG : lw_G D A s s.heap) (hH : mk_w D T A s H locs) (hTA : ∀ q, hp_F T q → A q) {ci : Nat} {Ps : List (Value → Prop)} (ha : T a = some (.inr (ci, Ps))) {q : vw_C} (hc : vwCl[ci]? = some q) {As : List Value} {B : Heap → Prop} (hB : B H) : PreV s H q.1 a (hp_Pc D T (.ref a :: As) B) As :=
  ⟨hp_Pc.blind, hp_recv hG.1.1 hH.1 ha hc, fun U hU hW => ⟨rfl, by rw [hU]; exact hH.1, (hG.at hH hU hW).hp hTA, by rw [hU]; exact hB⟩⟩
theorem lw_preW (hG : lw_G D A s s.heap) (hH : mk_w D T A s H locs) (hTA : ∀ q, hp_F T q → A q) (hA : ∀ q, H.size ≤ q → A q) {ci : Nat} {Ps : List (Value → Prop)} (ha : T a = some (.inr (ci, Ps))) {q : vw_C} (hc : vwCl[ci]? = some q) {As : List Value} {B : Heap → Prop} (hB : B H) : PreV s H q.1 a (lx_Pc D T A (.ref a :: As) B) As :=
  ⟨lx_Pc.blind, hp_recv hG.1.1 hH.1 ha hc, fun U hU hW => ⟨rfl, by rw [hU]; exact hH.1, hG.at hH hU hW, hTA, by rw [hU]; exact hA, by rw [hU]; exact hB⟩⟩
/-- a reference is put into an array -/
theorem mk_aast (hexec : p.tables.exec = Jvm.exec) (hb : c.code = cc) (hK : hp_K D s) (hH : mk_w D T A s H locs) {t0 n ci v : Nat} {P P' : Nat → Value → Prop} {r : vw_C} {Ps : List (Value → Prop)} (ha : T a = some (.inl (t0, n, P))) (hAa : A a) (ht : (hp_tys D.2.1)[t0]? = some (D.2.1 t0, .object r.1)) (hv : T v = some (.inr (ci, Ps))) (hc : vwCl[ci]? = some r) {i : Int32} (hin : vp_in i n) (hnew : P' i.toNatClampNeg (.ref v)) (hold : ∀ j x, j < n → j ≠ i.toNatClampNeg → P j x → P' j x) (hdg : decode cc pc = .ok (.aastore, 1))
    (kk : ∀ (H1 : Heap) (locs1 : List Loc), mk_w D (hp_up T a (.inl (t0, n, P'))) A s H1 locs1 → (∀ x, x ≠ a → H1[x]? = H[x]?) → H1.size = H.size → W p l e R s m args below meth c H1 locs1 cells slots Q (F0 m (pc + 1) ls rest)) : W p l e R s m args below meth c H locs cells slots Q (F0 m pc ls (.ref v :: .int i :: .ref a :: rest)) := by
  have hlt : i.toNatClampNeg < n := Nat.not_le.mp fun q => hin (Or.inr q)
  have h0 : ¬ i < 0 := fun q => hin (Or.inl q)
  obtain ⟨f, e0, hf⟩ := hH.1 a _ ha
  obtain ⟨r', V, hr', ⟨cellV, g1, g2, g3, -⟩, -⟩ := hH.1 v _ hv
  have hcls := (hK.1 ci r hc).2
  obtain ⟨kA, comp, k1, k2, k3, -⟩ := (hK.2 t0 _ ht).2
  have hcomp : comp = D.1.1 ci := Option.some.inj (k3.symm.trans hcls.1)
  subst hcomp
  obtain ⟨kC, hkC, -⟩ := hcls.2
  refine W.aast hexec hb e0 (fun q h => by cases h) (fun h => by cases h) k1 k2 rfl hkC ⟨h0, by show _ < (arrV _ _ _).slots.size; rw [arrV_size]; exact hlt⟩ g1 (fun q h => by rw [g3] at h; cases h) (by rw [g2]; exact hkC) (by rw [g2]; exact va_assign hcls) rfl rfl hdg fun H1 e1 z oq => ?_
  rw [arrV_store] at e1
  refine kk H1 _ ⟨fun b t hbt => ?_, hH.2.put z oq hAa⟩ oq z
  by_cases hb2 : b = a
  · subst hb2
    rw [hp_up_s] at hbt
    cases hbt
    refine ⟨_, e1, fun j hj => ?_⟩
    by_cases hji : j = i.toNatClampNeg
    · subst hji
      simpa [updV] using hnew
    · have h9 := hold j _ hj hji (hf j hj)
      simpa [updV, hji] using h9
  · rw [hp_up_n hb2] at hbt
    exact (hH.1 b t hbt).kept (oq b hb2)
/-- an array is cloned -/
theorem mk_clone (hexec : p.tables.exec = Jvm.exec) (hb : c.code = cc) (hml : c.maxLocals = ls.size) {own ad : String} {index : Nat} (hown : s.vm.findClass own = some m.cls)
    (hlink : (Cond.methodLink own index ⟨ad, "clone", "()Ljava/lang/Object;"⟩).before args s = true) (hsame : (Cond.sameMethod ad "java/lang/Object" "clone" "()Ljava/lang/Object;").before args s = true)
    (hnat : (Cond.native ⟨"java/lang/Object", "clone", "()Ljava/lang/Object;"⟩).before args s = true) (hinst : (Cond.instanceMethod ⟨"java/lang/Object", "clone", "()Ljava/lang/Object;"⟩).before args s = true)
    (hsel : (Cond.selects ad ⟨ad, "clone", "()Ljava/lang/Object;"⟩ ⟨"java/lang/Object", "clone", "()Ljava/lang/Object;"⟩).before args s = true) (hcl : va_Nw (.castable ad "java/lang/Cloneable") s)
    (hK : hp_K D s) (hH : mk_w D T A s H locs) {t0 n : Nat} {P : Nat → Value → Prop} {ty : FieldType} (ha : T a = some (.inl (t0, n, P))) (ht : (hp_tys D.2.1)[t0]? = some (D.2.1 t0, ty)) (hnm : s.vm.findClass ad = some (D.2.1 t0)) (hfit : ∀ (j : Nat) (v : Value), P j v → fits ty v = true)
    (hframes : 1 ≤ R.frames) (hlocals : (rest.map fun v => v.category).sum + 14 ≤ R.locals) (hcells : cells + 1 ≤ R.cells) (hslots : slots + n ≤ R.slots) (hdg : decode cc pc = .ok (.invokevirtual index, 3))
    (kk : ∀ (q : Nat) (H1 : Heap), mk_w D (hp_up T q (.inl (t0, n, P))) A s H1 locs → q = H.size → (∀ x, x < H.size → H1[x]? = H[x]?) → T q = none →
      W p l e R s m args below meth c H1 locs (cells + 1) (slots + n) Q (F0 m (pc + 3) ls (.ref q :: rest))) : W p l e R s m args below meth c H locs cells slots Q (F0 m pc ls (.ref a :: rest)) := by
  obtain ⟨f, e0, hf⟩ := hH.1 a _ ha
  obtain ⟨c0, t0', f1, f2, f3⟩ := Cond.castable_spec (va_Nw.use (A := args) rfl hcl)
  cases hnm.symm.trans f1
  intro T2 hT X
  have hcellT : T2.heap[a]? = some (arrV (D.2.1 t0) n f) := by rw [hT]; exact e0
  obtain ⟨-, kA, hkA, comp, hkind⟩ := State.isArrayOf_alike X.warmed.alike ((hK.2 t0 _ ht).1 0 (fun _ => .null))
  obtain ⟨-, kS, hkS, compS, hkindS⟩ := (hK.2 t0 _ ht).1 0 (fun _ => .null)
  obtain ⟨vm', X', st⟩ := X.cloneArray hexec hown hlink hsame hnat hinst hsel (a := a) (cell := arrV (D.2.1 t0) n f) hcellT (fun k h => by cases h) (fun h => by cases h) hnm f2 f3
    (fun i v hv => by
      have hi : i < n := by
        have h9 := (Array.getElem?_eq_some_iff.mp hv).1
        rw [arrV_size] at h9
        exact h9
      rw [arrV_read _ _ hi] at hv
      cases hv
      have hk' : T2.vm.classes[D.2.1 t0]? = some kA := hkA
      have h8 := hfit i _ (hf i hi)
      show T2.fitsSlot (D.2.1 t0) _ i (f i) = true
      simpa [State.fitsSlot, State.slotType?, hk', hkind] using h8)
    (g := F0 m pc ls (.ref a :: rest)) rfl (by rw [hml]) rfl (by rw [hb]; exact hdg) hframes (by show 2 * 0 + _ + 14 ≤ _; omega) hcells (by rw [arrV_size]; exact hslots) (hloader := Vm.clonesLoader_of_array hkS hkindS)
  rw [arrV_size] at X'
  generalize hH1 : H.push (arrV (D.2.1 t0) n f) = H1
  have z1 : H1.size = H.size + 1 := by rw [← hH1, Array.size_push]
  have e1 : H1[H.size]? = some (arrV (D.2.1 t0) n f) := by rw [← hH1, Array.getElem?_push_size]
  have o1 : ∀ q : Nat, q < H.size → H1[q]? = H[q]? := fun q hq => by rw [← hH1, Array.getElem?_push, if_neg (Nat.ne_of_lt hq)]
  obtain ⟨g1, g2⟩ := mk_grow (P := P) hH rfl e1 hf z1 o1
  obtain ⟨t, b1, b2⟩ := kk H.size H1 g1 rfl o1 g2 ((T2.setVm vm').pushCell (arrV (D.2.1 t0) n f)) (by rw [← hH1, ← hT]; rfl) X'
  refine ⟨t, st t ?_, b2⟩
  rw [hT]
  exact b1
variable {st0 : List Value} {av : Array Value} {mc ms : Nat}
/-- a call that keeps the typing, out of a wider world -/
theorem mk_calle {post : Option Value → State → State → Prop} (hr : va_Run p l e R s m args below meth c H locs cells slots mc ms (F0 m pc ls st0) rest (hq_e D T post av) (hp_F T)) (hH : mk_w D T A s H locs) (hTA : ∀ q, hp_F T q → A q)
    (kk : ∀ (v : Option Value) (st t : State) (H1 : Heap) (locs1 : List Loc), st.heap = H → t.heap = H1 → post v st t → mk_w D T A s H1 locs1 → H.size ≤ H1.size → (∀ q, q < H.size → ¬ hp_F T q → H1[q]? = H[q]?) → W p l e R s m args below meth c H1 locs1 (cells + mc) (slots + ms) Q (F0 m (pc + 3) ls (v.toList ++ rest))) : W p l e R s m args below meth c H locs cells slots Q (F0 m pc ls st0) := by
  intro T0 hT X
  obtain ⟨v, st₀, t, T', L, h0, X', hL, e1, e2, ⟨v', hv, hp, hok, hz, hk⟩, st⟩ := hr T0 hT X
  cases hv
  rw [h0] at hz hk
  have hw : mk_w D T A s T'.heap (locs ++ L) := ⟨by rw [e1]; exact hok, Nat.le_trans hH.2.1 (by rw [e1]; exact hz), fun q h1 h2 => by
    rw [e1, hk q (Nat.lt_of_lt_of_le h1 hH.2.1) (fun z => h2 (hTA q z))]; exact hH.2.2.1 q h1 h2, fun q hq => by
      rcases List.mem_append.mp hq with h | h
      · exact hH.2.2.2 q h
      · exact hTA _ (hL q h)⟩
  obtain ⟨t2, a1, b1⟩ := kk v st₀ t T'.heap (locs ++ L) h0 e1.symm hp hw (by rw [e1]; exact hz) (fun q h1 h2 => by rw [e1]; exact hk q h1 h2) T' rfl X'
  exact ⟨t2, st t2 a1, b1⟩
/-- a call that may change the typing -/
theorem mk_callq {post : Option Value → hp_T → State → State → Prop} (hr : va_Run p l e R s m args below meth c H locs cells slots mc ms (F0 m pc ls st0) rest (lw_q D A post av) A) (hH : mk_w D T A s H locs)
    (kk : ∀ (v : Option Value) (T1 : hp_T) (st t : State) (H1 : Heap) (locs1 : List Loc), st.heap = H → t.heap = H1 → post v T1 st t → mk_w D T1 A s H1 locs1 → (∀ q, hp_F T1 q → A q) → H.size ≤ H1.size → (∀ q, q < H.size → ¬ A q → H1[q]? = H[q]?) → W p l e R s m args below meth c H1 locs1 (cells + mc) (slots + ms) Q (F0 m (pc + 3) ls (v.toList ++ rest))) : W p l e R s m args below meth c H locs cells slots Q (F0 m pc ls st0) := by
  intro T0 hT X
  obtain ⟨v, st₀, t, T', L, h0, X', hL, e1, e2, ⟨v', T1, hv, hp, hok, hTA, hz, hk⟩, st⟩ := hr T0 hT X
  cases hv
  rw [h0] at hz hk
  have hw : mk_w D T1 A s T'.heap (locs ++ L) := ⟨by rw [e1]; exact hok, Nat.le_trans hH.2.1 (by rw [e1]; exact hz), fun q h1 h2 => by
    rw [e1, hk q (Nat.lt_of_lt_of_le h1 hH.2.1) h2]; exact hH.2.2.1 q h1 h2, fun q hq => by
      rcases List.mem_append.mp hq with h | h
      · exact hH.2.2.2 q h
      · exact hL q h⟩
  obtain ⟨t2, a1, b1⟩ := kk v T1 st₀ t T'.heap (locs ++ L) h0 e1.symm hp hw hTA (by rw [e1]; exact hz) (fun q h1 h2 => by rw [e1]; exact hk q h1 h2) T' rfl X'
  exact ⟨t2, st t2 a1, b1⟩
end LWW
