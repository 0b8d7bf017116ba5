/-! THE READER'S CODES: what stands in `sign` behind a place is a good piece of code -/
def hp_c (D : hp_D) (H : Heap) (a n : Nat) (f : Nat → Int32) : Prop := H[a]? = some (arrV (D.2.1 0) n (fun j => .int (f j)))
theorem hp_c.kept {D : hp_D} {H H1 : Heap} {a n : Nat} {f : Nat → Int32} (h : hp_c D H a n f) (hq : H1[a]? = H[a]?) : hp_c D H1 a n f := by
  unfold hp_c at h ⊢
  rw [hq]
  exact h
theorem arrV_same {c : ClassId} {n : Nat} {f g : Nat → Value} (h : ∀ j, j < n → f j = g j) : arrV c n f = arrV c n g := by
  unfold arrV
  congr 1
  apply congrArg
  funext j
  exact h j.val j.isLt
theorem hp_c.ex {D : hp_D} {T : hp_T} {H : Heap} {a n : Nat} {P : Nat → Value → Prop} (h : hp_ok D T H) (ha : T a = some (.inl (0, n, P))) (hP : ∀ j v, P j v → ∃ x : Int32, v = .int x) : ∃ f : Nat → Int32, hp_c D H a n f := by
  obtain ⟨g, h1, h2⟩ := h a _ ha
  refine ⟨fun j => match g j with | .int x => x | _ => 0, ?_⟩
  unfold hp_c
  rw [h1]
  refine congrArg some (arrV_same (fun j hj => ?_))
  obtain ⟨x, e⟩ := hP j _ (h2 j hj)
  show g j = Value.int (match g j with | .int x => x | _ => 0)
  rw [e]
theorem hp_c.et {D : hp_D} {H : Heap} {a n j : Nat} {f : Nat → Int32} (h : hp_c D H a n f) (hj : j < n) : hp_et D 0 H a j (.int (f j)) := ⟨n, _, h, hj, rfl⟩
def agr (S S0 : Nat → Int32) (t b : Nat) : Prop := ∀ j, (j < 400 * t + b ∨ 400 * t + 400 ≤ j) → S j = S0 j
/-- the codes from place b on bring the pile from 0 to h; e: how many more were made; Bd: no more places than these are taken -/
def cs (D : hp_D) (H : Heap) (a : Nat) (A : Nat → Nat) (tx : Int32) (S0 : Nat → Int32) (b : Int) (h : Nat) (e Bd : Int) : Prop := ∃ (S : Nat → Int32) (L m : Int32), hp_c D H (A 1) 2400 S ∧ hp_et D 0 H (A 2) tx.toNatClampNeg (.int L) ∧ hp_f D H a 12 12 (.int m) ∧ 0 ≤ b ∧ b ≤ L.toInt ∧ L.toInt ≤ Bd ∧ L.toInt ≤ 400 ∧ (h : Int) + e ≤ m.toInt ∧ m.toInt ≤ 60 ∧ c_x S (400 * tx.toInt.toNat + b.toNat) (L.toInt - b).toNat 0 h ∧ agr S S0 tx.toInt.toNat b.toNat
def csw (D : hp_D) (H : Heap) (A : Nat → Nat) (tx : Int32) (S0 : Nat → Int32) (b : Int) : Prop := ∃ S : Nat → Int32, hp_c D H (A 1) 2400 S ∧ agr S S0 tx.toInt.toNat b.toNat
theorem cs.w {D : hp_D} {H : Heap} {a : Nat} {A : Nat → Nat} {tx : Int32} {S0 : Nat → Int32} {b : Int} {h : Nat} {e Bd : Int} (hc : cs D H a A tx S0 b h e Bd) : csw D H A tx S0 b := by
  obtain ⟨S, L, m, h1, h2, h3, h4, h5, h6, h7, h8, h9, h10, h11⟩ := hc
  exact ⟨S, h1, h11⟩
theorem cs.mono {D : hp_D} {H : Heap} {a : Nat} {A : Nat → Nat} {tx : Int32} {S0 : Nat → Int32} {b : Int} {h : Nat} {e Bd e' Bd' : Int} (hc : cs D H a A tx S0 b h e Bd) (he : e' ≤ e) (hB : Bd ≤ Bd') : cs D H a A tx S0 b h e' Bd' := by
  obtain ⟨S, L, m, h1, h2, h3, h4, h5, h6, h7, h8, h9, h10⟩ := hc
  exact ⟨S, L, m, h1, h2, h3, h4, h5, by omega, h7, by omega, h9, h10⟩
/-- nothing of it is touched -/
theorem cs.on {D : hp_D} {T : hp_T} {H H1 : Heap} {a : Nat} {A : Nat → Nat} {tx : Int32} {S0 : Nat → Int32} {b : Int} {h : Nat} {e Bd : Int} {P : Nat → Prop} {Lm : List (Nat × Nat)} (hc : cs D H a A tx S0 b h e Bd) (ho : hp_on P H H1) (hk : hp_km D Lm H H1) (h1 : ¬ P (A 1)) (h2 : ¬ P (A 2)) (hm : (12, 12) ∉ Lm) : cs D H1 a A tx S0 b h e Bd := by
  obtain ⟨S, L, m, g1, g2, g3, g4⟩ := hc
  exact ⟨S, L, m, g1.kept (ho _ h1), g2.kept (ho _ h2), hk _ _ _ _ g3 ⟨rfl, hm⟩, g4⟩
theorem csw.on {D : hp_D} {H H1 : Heap} {A : Nat → Nat} {tx : Int32} {S0 : Nat → Int32} {b : Int} {P : Nat → Prop} (hc : csw D H A tx S0 b) (ho : hp_on P H H1) (h1 : ¬ P (A 1)) : csw D H1 A tx S0 b := by
  obtain ⟨S, g1, g2⟩ := hc
  exact ⟨S, g1.kept (ho _ h1), g2⟩
/-- one field of the cell is written -/
theorem cs.put {D : hp_D} {H H1 : Heap} {a k : Nat} {A : Nat → Nat} {tx : Int32} {S0 : Nat → Int32} {b : Int} {h : Nat} {e Bd : Int} (hc : cs D H a A tx S0 b h e Bd) (g : hp_wr D H H1 a 12 k) (o : ∀ q, q ≠ a → H1[q]? = H[q]?) (h1 : A 1 ≠ a) (h2 : A 2 ≠ a) (hk : 12 ≠ k) : cs D H1 a A tx S0 b h e Bd := by
  obtain ⟨S, L, m, g1, g2, g3, g4⟩ := hc
  exact ⟨S, L, m, g1.kept (o _ h1), g2.kept (o _ h2), g _ _ _ _ g3 (Or.inr ⟨rfl, hk⟩), g4⟩
/-- one more was made -/
theorem cs.made {D : hp_D} {H H1 : Heap} {a : Nat} {A : Nat → Nat} {tx : Int32} {S0 : Nat → Int32} {b : Int} {h : Nat} {e Bd : Int} {P : Nat → Prop} {m0 m1 : Int32} (hc : cs D H a A tx S0 b h e Bd) (f0 : hp_f D H a 12 12 (.int m0)) (ho : hp_on P H H1) (h1 : ¬ P (A 1)) (h2 : ¬ P (A 2)) (f1 : hp_f D H1 a 12 12 (.int m1)) (hm : m1.toInt = m0.toInt + 1) (h60 : m1.toInt ≤ 60) : cs D H1 a A tx S0 b h (e + 1) Bd := by
  obtain ⟨S, L, m, g1, g2, g3, g4, g5, g6, g7, g8, g9, g10⟩ := hc
  have em := hp_f_uniq (C := _) (TT := _) (N := _) (ci := 12) rfl (by decide) g3 f0
  cases em
  exact ⟨S, L, m1, g1.kept (ho _ h1), g2.kept (ho _ h2), f1, g4, g5, g6, g7, by omega, h60, g10⟩
theorem cs.field {D : hp_D} {H : Heap} {a : Nat} {A : Nat → Nat} {tx : Int32} {S0 : Nat → Int32} {b : Int} {h : Nat} {e Bd : Int} (hc : cs D H a A tx S0 b h e Bd) (h0 : 0 ≤ e) : ∃ m : Int32, hp_f D H a 12 12 (.int m) ∧ iv m 0 60 := by
  obtain ⟨S, L, m, g1, g2, g3, g4, g5, g6, g7, g8, g9, g10⟩ := hc
  exact ⟨m, g3, by omega, g9⟩
/-- a code is put behind it -/
theorem cs_push {D : hp_D} {H : Heap} {a : Nat} {A : Nat → Nat} {tx i c L L' m : Int32} {S S0 : Nat → Int32} {b : Int} {h h2 : Nat} {e e2 Bd : Int} (hcS : hp_c D H (A 1) 2400 (fun j => if j = i.toNatClampNeg then c else S j)) (hi : i.toNatClampNeg = 400 * tx.toInt.toNat + L.toInt.toNat) (hcL : hp_et D 0 H (A 2) tx.toNatClampNeg (.int L')) (hL : L'.toInt = L.toInt + 1) (hcm : hp_f D H a 12 12 (.int m)) (b0 : 0 ≤ b) (hb : b ≤ L.toInt) (hB : L.toInt ≤ Bd) (h400 : L.toInt < 400) (hm : (h : Int) + e ≤ m.toInt) (h60 : m.toInt ≤ 60) (hx : c_x S (400 * tx.toInt.toNat + b.toNat) (L.toInt - b).toNat 0 h) (ha : agr S S0 tx.toInt.toNat b.toNat) (hst : c_st c h h2) (he : (h2 : Int) + e2 ≤ (h : Int) + e) : cs D H a A tx S0 b h2 e2 (Bd + 1) := by
  refine ⟨_, L', m, hcS, hcL, hcm, b0, by omega, by omega, by omega, by omega, h60, ?_, fun j hj => ?_⟩
  · rw [show (L'.toInt - b).toNat = (L.toInt - b).toNat + 1 by omega]
    refine c_x.push (h1 := h) (hx.same (fun j h1 h3 => if_neg (by omega))) ?_
    show c_st (if _ = _ then c else _) h h2
    rw [if_pos (by omega)]
    exact hst
  · have hne : ¬ j = i.toNatClampNeg := by omega
    show (if j = i.toNatClampNeg then c else S j) = S0 j
    rw [if_neg hne]
    exact ha j hj
section HPC
variable {p : Program} {l : Launch} {e : Env} {R : Room} {s : State} {m : MethodId} {args : Array Value} {below : List Frame} {meth : Method} {c : Code} {H : Heap} {locs : List Loc} {cells slots : Nat} {Q : State → Prop}
variable {cc : ByteArray} {pc : Nat} {ls : Array Slot} {rest : List Value} {D : hp_D} {T : hp_T} {a : Nat}
theorem hp_iastC (hexec : p.tables.exec = Jvm.exec) (hb : c.code = cc) (hK : hp_K D s) (hH : hp_w D T s H locs) {n : Nat} {P : Nat → Value → Prop} (ha : T a = some (.inl (0, n, P))) {i x : Int32} (hin : vp_in i n) (hx : P i.toNatClampNeg (.int x)) {f : Nat → Int32} (hf : hp_c D H a n f) (hdg : decode cc pc = .ok (.iastore, 1))
    (kk : ∀ (H1 : Heap) (locs1 : List Loc), hp_w D T s H1 locs1 → hp_ar D H H1 → (∀ q, q ≠ a → H1[q]? = H[q]?) → hp_c D H1 a n (fun j => if j = i.toNatClampNeg then x else f j) → W p l e R s m args below meth c H1 locs1 cells slots Q (F0 m (pc + 1) ls rest)) : W p l e R s m args below meth c H locs cells slots Q (F0 m pc ls (.int x :: .int i :: .ref a :: rest)) := by
  obtain ⟨f0, h1, h2⟩ := hH.1 a _ ha
  refine W.iast hexec hb hf ((hK.2 0 _ rfl).1 n _) (fun q => by cases q) (by rw [arrV_size]; exact hin) rfl rfl hdg fun H1 e z oq => ?_
  have e0 : arrV (D.2.1 0) n f0 = arrV (D.2.1 0) n (fun j => .int (f j)) := Option.some.inj (h1.symm.trans hf)
  have h3 : ∀ j, j < n → P j (.int (f j)) := fun j hj => by
    have a1 := arrV_read (D.2.1 0) f0 hj
    rw [e0, arrV_read (D.2.1 0) (fun j => .int (f j)) hj] at a1
    have a2 := h2 j hj
    rw [← Option.some.inj a1] at a2
    exact a2
  obtain ⟨g1, g2⟩ := hp_ast hK hH ha rfl hf h3 hx e z oq
  rw [arrV_store] at e
  refine kk H1 _ g1 g2 oq ?_
  unfold hp_c
  rw [e]
  refine congrArg some (arrV_same (fun j _ => ?_))
  by_cases e9 : j = i.toNatClampNeg
  · simp [updV, e9]
  · simp [updV, e9]
end HPC
theorem cs.le60 {D : hp_D} {H : Heap} {a : Nat} {A : Nat → Nat} {tx : Int32} {S0 : Nat → Int32} {b : Int} {h : Nat} {e Bd : Int} (hc : cs D H a A tx S0 b h e Bd) : (h : Int) + e ≤ 60 := by
  obtain ⟨S, L, m, g1, g2, g3, g4, g5, g6, g7, g8, g9, g10⟩ := hc
  omega
theorem c_lo16 (v : Int32) : (0 + 16 * v) &&& 15 = 0 := by
  refine Int32.toBitVec_inj.mp ?_
  show (0#32 + 16#32 * v.toBitVec) &&& 15#32 = 0#32
  rw [BitVec.zero_add, show (16#32 : BitVec 32) = BitVec.twoPow 32 4 from rfl, BitVec.twoPow_mul_eq_shiftLeft]
  apply BitVec.eq_of_getLsbD_eq
  intro k hk
  simp only [BitVec.getLsbD_and, BitVec.getLsbD_shiftLeft, BitVec.getLsbD_zero]
  by_cases h4 : k < 4
  · simp [h4]
  · have h15 : (15#32).getLsbD k = false := by
      have : ∀ q, q < 32 → 4 ≤ q → (15#32).getLsbD q = false := by decide
      exact this k hk (by omega)
    rw [h15, Bool.and_false]
theorem c_num (v : Int32) {h : Nat} (h60 : (h : Int) + 1 ≤ 60) : c_st (0 + 16 * v) h (h + 1) := Or.inl ⟨c_lo16 v, rfl, by omega⟩
theorem c_wtab : ∀ n, n < 11 → (1 + 16 * nI n) &&& 15 = 1 ∧ (1 + 16 * nI n) >>> (4 &&& 31) = nI n := by decide +kernel
theorem c_word {w : Int32} (b : iv w 0 10) {h : Nat} (h60 : (h : Int) + 1 ≤ 60) : c_st (1 + 16 * w) h (h + 1) := by
  obtain ⟨n, rfl, h1, h2, h3⟩ := iv_of w b (by decide)
  obtain ⟨g1, g2⟩ := c_wtab n (by omega)
  exact Or.inr (Or.inl ⟨g1, rfl, by omega, by rw [g2]; exact b⟩)
theorem c_btab : ∀ n, n < 15 → 2 ≤ n → n ≠ 11 → ¬ (nI n + 16 * 0) &&& 15 = 0 ∧ ¬ (nI n + 16 * 0) &&& 15 = 1 ∧ ¬ (nI n + 16 * 0) &&& 15 = 11 := by decide +kernel
theorem c_bin {s : Int32} {lo hi : Int} (b : iv s lo hi) (hl : 2 ≤ lo ∧ hi ≤ 14) (h11 : ¬ s.toInt = 11) (h : Nat) : c_st (s + 16 * 0) (h + 2) (h + 1) := by
  obtain ⟨n, rfl, h1, h2, h3⟩ := iv_of s b (by omega)
  have hn : (nI n).toInt = (n : Int) := by
    have := iv_nI (n := n) (lo := n) (hi := n) h3 (by omega) (by omega)
    have a1 := this.1
    have a2 := this.2
    omega
  obtain ⟨g1, g2, g3⟩ := c_btab n (by omega) (by omega) (fun z => h11 (by rw [hn]; omega))
  exact Or.inr (Or.inr (Or.inr ⟨g1, g2, g3, by omega, rfl⟩))
theorem c_not (h : Nat) : c_st (11 + 16 * 0) (h + 1) (h + 1) := Or.inr (Or.inr (Or.inl ⟨by decide, by omega, rfl⟩))
