theorem hp_ar.trans {D : hp_D} {H H1 H2 : Heap} (h : hp_ar D H H1) (g : hp_ar D H1 H2) : hp_ar D H H2 := fun b cj j w hw => g b cj j w (h b cj j w hw)
/-- a field's value by the typing alone -/
theorem hp_opI {D : hp_D} {T : hp_T} {H : Heap} {a ci : Nat} {Ps : List (Value → Prop)} (hH : hp_ok D T H) (ha : T a = some (.inr (ci, Ps))) (k : Nat) {lo hi : Int} (hp : Ps[k]? = some (rI lo hi)) : ∃ x : Int32, iv x lo hi ∧ hp_f D H a ci k (.int x) := by
  obtain ⟨r, V, h1, h2, h3⟩ := hH a _ ha
  obtain ⟨x, e, hx⟩ := h3 k _ hp
  exact ⟨x, hx, r, V, h1, h2, e⟩
theorem hp_opA {D : hp_D} {T : hp_T} {H : Heap} {a ci : Nat} {Ps : List (Value → Prop)} (hH : hp_ok D T H) (ha : T a = some (.inr (ci, Ps))) (k : Nat) (hp : Ps[k]? = some rA) : ∃ x : Int32, hp_f D H a ci k (.int x) := by
  obtain ⟨r, V, h1, h2, h3⟩ := hH a _ ha
  obtain ⟨x, e⟩ := h3 k _ hp
  exact ⟨x, r, V, h1, h2, e⟩
def rN (P : Nat → Prop) : Value → Prop := fun v => v = .null ∨ ∃ b : Nat, v = .ref b ∧ P b
section HPX
variable {p : Program} {l : Launch} {e : Env} {R : Room} {s : State} {m : MethodId} {args : Array Value} {below : List Frame} {meth : Method} {c : Code} {H : Heap} {locs : List Loc} {cells slots : Nat} {Q : State → Prop}
variable {cc : ByteArray} {pc : Nat} {ls : Array Slot} {rest : List Value} {D : hp_D} {T : hp_T} {a : Nat} {st0 : List Value} {av : Array Value}
theorem hp_callpl (hr : va_Run p l e R s m args below meth c H locs cells slots 0 0 (F0 m pc ls st0) rest (hq_p (fun v => ∃ r : Int64, v = some (.long r) ∧ True) av) (fun _ => False))
    (kk : ∀ r : Int64, True → W p l e R s m args below meth c H locs cells slots Q (F0 m (pc + 3) ls (.long r :: rest))) : W p l e R s m args below meth c H locs cells slots Q (F0 m pc ls st0) :=
  hp_callp hr (fun v hv => by obtain ⟨r, rfl, h⟩ := hv; exact kk r h)
theorem hp_copy (hexec : p.tables.exec = Jvm.exec) (hb : c.code = cc) (hml : c.maxLocals = ls.size) {own : String} {index : Nat} (hown : s.vm.findClass own = some m.cls) (hlink : (Cond.methodLink own index arraycopyName).before args s = true) (hnat : (Cond.native arraycopyName).before args s = true) (hstat : (Cond.static arraycopyName).before args s = true) (hini : (Cond.initialized "java/lang/System").before args s = true)
    (hK : hp_K D s) (hH : hp_w D T s H locs) {a0 n0 n1 : Nat} {P0 P1 : Value → Prop} (ha0 : T a0 = some (.inl (0, n0, fun _ => P0))) (ha1 : T a = some (.inl (0, n1, fun _ => P1))) (hP : ∀ v, P0 v → P1 v) (hI : ∀ v, P0 v → ∃ x : Int32, v = .int x)
    {sp dp n : Int32} (h1 : ¬ sp < 0) (h2 : ¬ dp < 0) (h3 : ¬ n < 0) (h4 : sp.toNatClampNeg + n.toNatClampNeg ≤ n0) (h5 : dp.toNatClampNeg + n.toNatClampNeg ≤ n1)
    (hframes : 1 ≤ R.frames) (hlocals : (rest.map fun v => v.category).sum + (nativeFrameWords "java/lang/System" "arraycopy" 5 + 11) ≤ R.locals) (hdg : decode cc pc = .ok (.invokestatic index, 3))
    (kk : ∀ (H1 : Heap) (locs1 : List Loc), hp_w D T s H1 locs1 → hp_ar D H H1 → W p l e R s m args below meth c H1 locs1 cells slots Q (F0 m (pc + 3) ls rest)) : W p l e R s m args below meth c H locs cells slots Q (F0 m pc ls (.int n :: .int dp :: .ref a :: .int sp :: .ref a0 :: rest)) := by
  have nn : ∀ z : Int32, ¬ z < 0 → z.toInt = (z.toNatClampNeg : Int) := by
    intro z hz
    have hz0 : (0 : Int) ≤ z.toInt := by
      have := Int32.not_lt.mp hz
      simpa using Int32.le_iff_toInt_le.mp this
    show z.toInt = ((z.toInt.toNat : Nat) : Int)
    omega
  intro T0 hT X
  obtain ⟨f, hc0, hf⟩ := hH.1 a0 _ ha0
  obtain ⟨g, hc1, hg⟩ := hH.1 a _ ha1
  obtain ⟨-, k0, hk0, cm0, hkk0⟩ := (hK.2 0 _ rfl).1 n0 f
  obtain ⟨-, k1, hk1, cm1, hkk1⟩ := (hK.2 0 _ rfl).1 n1 g
  obtain ⟨vm', X', step⟩ := X.arraycopy hexec hown hlink hnat hstat hini (src := a0) (dst := a) (cs := arrV (D.2.1 0) n0 f) (cd := arrV (D.2.1 0) n1 g) (srcPos := sp) (destPos := dp) (n := n) (by rw [hT]; exact hc0) (by rw [hT]; exact hc1)
    (fun _ h => by cases h) (fun _ h => by cases h) (fun h => by cases h) (fun h => by cases h) hk0 hk1 hkk0 hkk1 (by simp [refKind]) h1 h2 h3
    (by rw [nn sp h1, nn n h3]; show ¬ _ > ((arrV (D.2.1 0) n0 f).slots.size : Int); rw [arrV_size]; omega)
    (by rw [nn dp h2, nn n h3]; show ¬ _ > ((arrV (D.2.1 0) n1 g).slots.size : Int); rw [arrV_size]; omega)
    (fun vm₁ _ i hi => by
      have hlt : sp.toNatClampNeg + i < n0 := by omega
      obtain ⟨x, ex⟩ := hI _ (hf _ hlt)
      have e : (arrV (D.2.1 0) n0 f).slots.getD (sp.toNatClampNeg + i) .null = .int x := by
        rw [Array.getD_eq_getD_getElem?, arrV_read _ _ hlt, ex]
        rfl
      refine ⟨?_, ?_⟩
      · rw [e]
        rfl
      · rw [e]
        exact trivial)
    (g := F0 m pc ls (.int n :: .int dp :: .ref a :: .int sp :: .ref a0 :: rest)) rfl (by rw [hml]) (rest := rest) rfl (by rw [hb]; exact hdg) hframes (by show 2 * 0 + _ + _ ≤ _; omega)
  have e1 : copied (arrV (D.2.1 0) n0 f) (arrV (D.2.1 0) n1 g) sp dp n = arrV (D.2.1 0) n1 (va_cpy f g sp.toNatClampNeg dp.toNatClampNeg n.toNatClampNeg) := va_copied (fun z : Value => z) (D.2.1 0) (D.2.1 0) f g h4
  rw [e1] at X' step
  have hl : a < H.size := (Array.getElem?_eq_some_iff.mp hc1).1
  have hheap : ((T0.setVm vm').setCell a (arrV (D.2.1 0) n1 (va_cpy f g sp.toNatClampNeg dp.toNatClampNeg n.toNatClampNeg))).heap = H.setIfInBounds a (arrV (D.2.1 0) n1 (va_cpy f g sp.toNatClampNeg dp.toNatClampNeg n.toNatClampNeg)) := by rw [← hT]; rfl
  have oq : ∀ q : Nat, q ≠ a → (H.setIfInBounds a (arrV (D.2.1 0) n1 (va_cpy f g sp.toNatClampNeg dp.toNatClampNeg n.toNatClampNeg)))[q]? = H[q]? := fun q hq => by simp [Array.getElem?_setIfInBounds, Ne.symm hq]
  have hok : hp_ok D T (H.setIfInBounds a (arrV (D.2.1 0) n1 (va_cpy f g sp.toNatClampNeg dp.toNatClampNeg n.toNatClampNeg))) := by
    intro b t hbt
    by_cases hba : b = a
    · subst hba
      have htt : t = .inl (0, n1, fun _ => P1) := Option.some.inj (hbt.symm.trans ha1)
      subst htt
      refine ⟨_, by simp [Array.getElem?_setIfInBounds, hl]; rfl, fun j hj => ?_⟩
      show P1 (va_cpy f g _ _ _ j)
      unfold va_cpy
      split
      · rename_i hc
        exact hP _ (hf _ (show sp.toNatClampNeg + (j - dp.toNatClampNeg) < n0 by omega))
      · exact hg j hj
    · exact (hH.1 b t hbt).kept (oq b hba)
  obtain ⟨t, a1, b1⟩ := kk _ _ ⟨hok, by simp; exact hH.2.1, fun q g1 g2 => by
      rw [oq q (fun e => g2 (by rw [e]; exact ⟨_, ha1⟩))]
      exact hH.2.2.1 q g1 g2, fun q hq => by
      rcases List.mem_append.mp hq with h | h
      · exact hH.2.2.2 q h
      · obtain ⟨z, -, hz⟩ := List.mem_map.mp h
        rw [← hz]
        exact ⟨_, ha1⟩⟩ (fun b cj j w hw => hw.kept (oq b (hp_fa hK hw rfl hc1))) _ hheap X'
  exact ⟨t, step t a1, b1⟩
theorem hp_aald (hexec : p.tables.exec = Jvm.exec) (hb : c.code = cc) (hK : hp_K D s) (hH : hp_ok D T H) {t0 n : Nat} {C : String} {P : Nat → Value → Prop} (ha : T a = some (.inl (t0, n, P))) (ht : (hp_tys D.2.1)[t0]? = some (D.2.1 t0, .object C)) (hty : (FieldType.object C).isReference = true) {i : Int32} (hin : vp_in i n) (hdg : decode cc pc = .ok (.aaload, 1))
    (kk : ∀ v : Value, P i.toNatClampNeg v → W p l e R s m args below meth c H locs cells slots Q (F0 m (pc + 1) ls (v :: rest))) : W p l e R s m args below meth c H locs cells slots Q (F0 m pc ls (.int i :: .ref a :: rest)) := by
  obtain ⟨cell, v, h1, h2, h3, h4, h5, h6⟩ := hp_ld hK hH ha ht hin
  exact W.aald hexec hb h1 h2 hty h3 h4 h5 rfl rfl hdg (kk v h6)
theorem hp_caller {b : Nat} {mc ms : Nat} (hr : va_Run p l e R s m args below meth c H locs cells slots mc ms (F0 m pc ls st0) rest (hq_e D T (fun v _ _ => v = some (.ref b)) av) (hp_F T)) (hH : hp_w D T s H locs)
    (kk : ∀ (st t : State) (H1 : Heap) (locs1 : List Loc), st.heap = H → t.heap = H1 → hp_w D T s H1 locs1 → W p l e R s m args below meth c H1 locs1 (cells + mc) (slots + ms) Q (F0 m (pc + 3) ls (.ref b :: rest))) : W p l e R s m args below meth c H locs cells slots Q (F0 m pc ls st0) :=
  hp_calle hr hH (fun v st t H1 locs1 e1 e2 hv hw => by subst hv; exact kk st t H1 locs1 e1 e2 hw)
theorem hp_aloadN (hexec : p.tables.exec = Jvm.exec) (hb : c.code = cc) {k : Fin 4} {i : Nat} (hdg : decode cc pc = .ok (.aload_n k, 1)) (hi : (k : Nat) = i) (hl : ls[i]? = some (.val .null))
    (kk : W p l e R s m args below meth c H locs cells slots Q (F0 m (pc + 1) ls (.null :: rest))) : W p l e R s m args below meth c H locs cells slots Q (F0 m pc ls rest) := by
  subst hi
  intro T0 hT X
  obtain ⟨t, a1, b1⟩ := kk T0 hT X
  refine ⟨t, ?_, b1⟩
  jvm_step X.here [X.here.top, hexec, hb, hdg, hl]
  exact ⟨rfl, a1⟩
end HPX
