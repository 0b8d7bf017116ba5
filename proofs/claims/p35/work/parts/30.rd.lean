/-! THE REFERENCE'S READER: relations between numbers, what stands on the tape -/
theorem iv_o {x : Int32} {lo hi : Int} (h : iv x lo hi) : lo ≤ x.toInt ∧ x.toInt ≤ hi := h
def hp_on (P : Nat → Prop) (H H1 : Heap) : Prop := ∀ q, ¬ P q → H1[q]? = H[q]?
theorem hp_on.trans {P : Nat → Prop} {H H1 H2 : Heap} (h : hp_on P H H1) (g : hp_on P H1 H2) : hp_on P H H2 := fun q hq => (g q hq).trans (h q hq)
theorem hp_on.mono {P P' : Nat → Prop} {H H1 : Heap} (h : hp_on P H H1) (g : ∀ q, P q → P' q) : hp_on P' H H1 := fun q hq => h q (fun z => hq (g q z))
/-- a sign of the tape lies between two -/
def chb (Tp : Nat → Value) (lo hi k t : Int) : Prop := 0 ≤ k ∧ k < t ∧ ∃ x : Int32, Value.int x = Tp k.toNat ∧ lo ≤ x.toInt ∧ x.toInt ≤ hi
theorem chb_in {Tp : Nat → Value} {lo hi k t : Int} {x : Int32} (h : chb Tp lo hi k t) (e : Value.int x = Tp k.toNat) : lo ≤ x.toInt ∧ x.toInt ≤ hi := by
  obtain ⟨-, -, y, e2, h2⟩ := h
  have h3 : Value.int x = .int y := e.trans e2.symm
  cases h3
  exact h2
theorem chb_mk {Tp : Nat → Value} {lo hi k t : Int} {x y : Int32} (h0 : 0 ≤ k) (h1 : k < t) (e : Value.int x = Tp k.toNat) (e2 : Value.int y = Tp k.toNat) (h2 : lo ≤ x.toInt) (h3 : y.toInt ≤ hi) : chb Tp lo hi k t := by
  have h4 : Value.int x = .int y := e.trans e2.symm
  cases h4
  exact ⟨h0, h1, x, e, h2, h3⟩
theorem le64 {a b : Int32} {x y : Int64} (ea : a.toInt64 = x) (eb : b.toInt64 = y) (h : x ≤ y) : a.toInt ≤ b.toInt := by
  have h1 := Int64.le_iff_toInt_le.mp h
  rw [← ea, ← eb, Int32.toInt_toInt64, Int32.toInt_toInt64] at h1
  exact h1
section HPR
variable {p : Program} {l : Launch} {e : Env} {R : Room} {s : State} {m : MethodId} {args : Array Value} {below : List Frame} {meth : Method} {c : Code} {H : Heap} {locs : List Loc} {cells slots : Nat} {Q : State → Prop}
variable {cc : ByteArray} {pc : Nat} {ls : Array Slot} {rest : List Value} {D : hp_D} {T : hp_T} {a : Nat}
theorem hp_bald (hexec : p.tables.exec = Jvm.exec) (hb : c.code = cc) (hK : hp_K D s) (hH : hp_ok D T H) {n : Nat} {P : Nat → Value → Prop} (ha : T a = some (.inl (1, n, P))) {i : Int32} (hin : vp_in i n) (hdg : decode cc pc = .ok (.baload, 1))
    (kk : ∀ v : Value, P i.toNatClampNeg v → W p l e R s m args below meth c H locs cells slots Q (F0 m (pc + 1) ls (v :: rest))) : W p l e R s m args below meth c H locs cells slots Q (F0 m pc ls (.int i :: .ref a :: rest)) := by
  obtain ⟨cell, v, h1, h2, h3, h4, h5, h6⟩ := hp_ld hK hH ha rfl hin
  exact W.bald hexec hb h1 h2 h3 h4 h5 rfl rfl hdg (kk v h6)
theorem hp_putE (hexec : p.tables.exec = Jvm.exec) (hb : c.code = cc) {own C : String} {TT : u_T} {N ci index : Nat} {Ts : List Cond} (hts : ∀ w ∈ Ts, w.before args s = true) (hin : ∀ w ∈ u_ws C TT N, w ∈ Ts) (ty0 : Nat → FieldType) (hty : ∀ k, k < N → parseFieldDescriptor (TT k).2.2.1 = some (ty0 k)) (hnm : ∀ a, a < N → ∀ b, b < N → a ≠ b → (TT a).2.1 ≠ (TT b).2.1) (hown : s.vm.findClass own = some m.cls) (hK : hp_K D s) (hH : hp_w D T s H locs) {Ps : List (Value → Prop)} (ha : T a = some (.inr (ci, Ps))) (hc : vwCl[ci]? = some (C, TT, N)) (k : Nat) (hk : k < N) (hlink : (Cond.fieldLink own index (TT k).1 (TT k).2.1 (TT k).2.2.1).before args s = true) (hfin : (TT k).2.2.2 = false) {P : Value → Prop} (hp : Ps[k]? = some P) {v : Value} (hv : P v) (hn : narrow (ty0 k) v = v) (hfit : fits (ty0 k) v = true) (hdg : decode cc pc = .ok (.putfield index, 3))
    (kk : ∀ (H1 : Heap) (locs1 : List Loc), hp_w D T s H1 locs1 → hp_f D H1 a ci k v → hp_wr D H H1 a ci k → (∀ q, q ≠ a → H1[q]? = H[q]?) → W p l e R s m args below meth c H1 locs1 cells slots Q (F0 m (pc + 3) ls rest)) : W p l e R s m args below meth c H locs cells slots Q (F0 m pc ls (v :: .ref a :: rest)) := by
  obtain ⟨hO, hS0⟩ := hH
  obtain ⟨r, V, h1, ⟨cell, q1, q2, q3, q4⟩, h3⟩ := hO a _ ha
  have hr : r = (C, TT, N) := Option.some.inj (h1.symm.trans hc)
  subst hr
  have hap := va_apart (own := own) hts hin ty0 hty hnm hK hc
  obtain ⟨hS, hfc, kC, hkC, hkind⟩ := hK.1 ci _ hc
  obtain ⟨cf, kf, fi, f, hi, hsl⟩ := hS k hk
  have hlay := hts _ (hin _ (u_in_lay hk))
  unfold u_lay at hlay
  rw [if_neg (by rw [hfin]; decide)] at hlay
  have hst := (u_facts hfc hkC (u_lays hts hin hk) hi).1
  have h6 := u_store hfc hkC hkind hlay hi (hty k hk) hn hfit
  refine W.putK hexec hb (f := f) ⟨hown, hlink, ⟨_, _, _, hi⟩, hst⟩ (by rw [q2]; exact h6) q1 q3 (by rw [hsl]; exact k2_hasslot (q4 k hk)) rfl rfl hdg fun H' e1 e2 e3 => ?_
  rw [hsl] at e1 ⊢
  have hob : t_OB a (D.1.1 ci) N (D.1.2 ci) H' (updV V k v) := ⟨_, e1, q2, q3, t_set q4 hap hk v⟩
  refine kk H' _ ⟨fun b t hbt => ?_, hS0.put e2 e3 ⟨_, ha⟩⟩ ⟨_, updV V k v, hc, hob, by simp [updV]⟩ (fun b cj j w hw hne => ?_) e3
  · by_cases hba : b = a
    · subst hba
      have ht : t = .inr (ci, Ps) := Option.some.inj (hbt.symm.trans ha)
      subst ht
      refine ⟨_, updV V k v, hc, hob, fun j P' hj => ?_⟩
      by_cases hjk : j = k
      · subst hjk
        have : P' = P := Option.some.inj (hj.symm.trans hp)
        subst this
        simpa [updV] using hv
      · simpa [updV, hjk] using h3 j P' hj
    · exact (hO b t hbt).kept (e3 b hba)
  · by_cases hba : b = a
    · subst hba
      obtain ⟨hcj, hjk⟩ := hne.resolve_left (fun h => h rfl)
      subst hcj
      obtain ⟨r', V', w1, ⟨cell', c1, c2, c3, c4⟩, w3⟩ := hw
      cases q1.symm.trans c1
      have hr' : r' = (C, TT, N) := Option.some.inj (w1.symm.trans hc)
      subst hr'
      exact ⟨_, updV V' k v, hc, ⟨_, e1, c2, c3, t_set c4 hap hk v⟩, by simp [updV, hjk, w3]⟩
    · exact hw.kept (e3 b hba)
end HPR
theorem wd_in {Tp : Nat → Value} {lo hi x t nx n : Int} (h : chb Tp lo hi x t) (q : x = nx + n) (h0 : 0 ≤ n) (hv : 0 < n → chb Tp lo hi nx t) : chb Tp lo hi nx t := by
  by_cases e : 0 < n
  · exact hv e
  · have h1 : x = nx := by omega
    rw [← h1]
    exact h
def isMp (T : hp_T) (a : Nat) (A : Nat → Nat) (Gm : moG) (Tp : Nat → Value) : Prop := moOk Gm ∧ (∀ j v, v = Tp j → ∃ x : Int32, v = .int x) ∧ T a = some (.inr (12, [(rR (A 0)), (rI 0 400), (rI 0 6), (rR (A 1)), (rR (A 2)), (rR (A 3)), (rR (A 4)), (rR (A 5)), (rI 0 400), rA, rA, (rI 0 6), rA, rA, rA, (rR (A 6)), (rI 0 400), (rR (A 7)), (rI 0 64), (rR (A 8)), (rR (A 9)), (rI (-1) 5), (gx Gm), (rR (A 10)), (rI 0 20), (rR (A 11)), (rI 0 1024), (rR (A 12)), (rR (A 13)), (rR (A 14)), (rR (A 15)), (rR (A 16)), (rI 0 45), rA, rA, rA, (rR (A 17)), rL, (rR (A 18)), (rR (A 19)), (rR (A 20)), (rR (A 21)), (rR (A 22)), (rR (A 23))])) ∧ T (A 0) = some (.inl (1, 400, (fun j => rV (Tp j)))) ∧ T (A 1) = some (.inl (0, 2400, (fun _ => rA))) ∧ T (A 2) = some (.inl (0, 7, (fun _ => (rI 0 400)))) ∧ T (A 3) = some (.inl (0, 288, (fun _ => rA))) ∧ T (A 4) = some (.inl (0, 6, (fun _ => (rI 0 12)))) ∧ T (A 5) = some (.inl (0, 170, rP)) ∧ T (A 6) = some (.inl (0, 400, (fun _ => rA))) ∧ T (A 7) = some (.inl (3, 64, (fun _ => rL))) ∧ T (A 8) = some (.inl (3, 11, (fun _ => rL))) ∧ T (A 9) = some (.inl (0, 211, (gs Gm))) ∧ T (A 10) = some (.inl (0, 3400, wP)) ∧ T (A 11) = some (.inl (0, 1024, (fun _ => (rI 0 1023)))) ∧ T (A 12) = some (.inl (0, 1024, (fun _ => rA))) ∧ T (A 13) = some (.inl (0, 1536, (fun _ => rA))) ∧ T (A 14) = some (.inl (0, 3072, (fun _ => rA))) ∧ T (A 15) = some (.inl (0, 45, (fun _ => rA))) ∧ T (A 16) = some (.inl (0, 45, (fun _ => rA))) ∧ T (A 17) = some (.inl (0, 130, kP)) ∧ T (A 18) = some (.inl (0, 844, iP)) ∧ T (A 19) = some (.inl (0, 13600, wP)) ∧ T (A 20) = some (.inl (0, 4, (fun _ => (rI 0 20)))) ∧ T (A 21) = some (.inl (0, 4, (fun _ => (rI (-1) 5)))) ∧ T (A 22) = some (.inl (0, 4, (gX Gm))) ∧ T (A 23) = some (.inl (2, 4, (gM Gm)))
