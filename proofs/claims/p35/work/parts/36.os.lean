/-! THE READER'S TESTS AND CLAUSES: the pile of open signs with the codes; the finished clauses -/
def os (D : hp_D) (H : Heap) (a : Nat) (A : Nat → Nat) (tx : Int32) (S0 : Nat → Int32) (b : Int) (x : Nat) (q Bd : Int) : Prop := ∃ O : Nat → Int32, hp_c D H (A 6) 400 O ∧ ovd O q ∧ cs D H a A tx S0 b (x + nbin O q.toNat) 0 (Bd - q)
theorem os_mk {D : hp_D} {H : Heap} {a : Nat} {A : Nat → Nat} {tx : Int32} {S0 O : Nat → Int32} {b q Bd e B : Int} {x h : Nat} (hO : hp_c D H (A 6) 400 O) (hv : ovd O q) (hc : cs D H a A tx S0 b h e B) (hh : h = x + nbin O q.toNat) (he : 0 ≤ e) (hB : B ≤ Bd - q) : os D H a A tx S0 b x q Bd := ⟨O, hO, hv, by rw [← hh]; exact cs.mono hc he hB⟩
theorem cs.bd0 {D : hp_D} {H : Heap} {a : Nat} {A : Nat → Nat} {tx : Int32} {S0 : Nat → Int32} {b : Int} {h : Nat} {e Bd : Int} (hc : cs D H a A tx S0 b h e Bd) : 0 ≤ Bd := by
  obtain ⟨S, L, m, g1, g2, g3, g4, g5, g6, g7⟩ := hc
  omega
theorem cs.hh {D : hp_D} {H : Heap} {a : Nat} {A : Nat → Nat} {tx : Int32} {S0 : Nat → Int32} {b : Int} {h h' : Nat} {e Bd : Int} (hc : cs D H a A tx S0 b h e Bd) (hh : h = h') : cs D H a A tx S0 b h' e Bd := by
  rw [← hh]
  exact hc
theorem iv_tn {i : Int32} {q : Int} (hi : i.toInt = q) : i.toNatClampNeg = q.toNat := by
  show i.toInt.toNat = q.toNat
  rw [hi]
theorem nbin_off {O : Nat → Int32} {n : Nat} {s : Int32} : nbin (fun j => if j = n then s else O j) n = nbin O n := nbin_same (fun j hj => if_neg (by omega))
theorem nbin_p0 {O : Nat → Int32} {i s : Int32} {q q' : Int} (hi : i.toInt = q) (h0 : 0 ≤ q) (hq : q' = q + 1) (hs : s = 11 ∨ s = 91) : nbin (fun j => if j = i.toNatClampNeg then s else O j) q'.toNat = nbin O q.toNat := by
  rw [iv_tn hi, hq, show (q + 1).toNat = q.toNat + 1 by omega]
  have h1 : (fun j => if j = q.toNat then s else O j) q.toNat = s := if_pos rfl
  rcases hs with hs | hs
  · rw [nbin_not (h1.trans hs), nbin_off]
  · rw [nbin_br (h1.trans hs), nbin_off]
theorem nbin_p1 {O : Nat → Int32} {i s : Int32} {q q' : Int} (hi : i.toInt = q) (h0 : 0 ≤ q) (hq : q' = q + 1) (hs : s = 12 ∨ s = 13) : nbin (fun j => if j = i.toNatClampNeg then s else O j) q'.toNat = nbin O q.toNat + 1 := by
  rw [iv_tn hi, hq, show (q + 1).toNat = q.toNat + 1 by omega]
  have h1 : (fun j => if j = q.toNat then s else O j) q.toNat = s := if_pos rfl
  rw [nbin_bin (hs.imp (fun z => h1.trans z) (fun z => h1.trans z)), nbin_off]
theorem ovd_p {O : Nat → Int32} {i s : Int32} {q q' : Int} (h : ovd O q) (hi : i.toInt = q) (h0 : 0 ≤ q) (hq : q' = q + 1) (hs : s = 11 ∨ s = 12 ∨ s = 13 ∨ s = 91) : ovd (fun j => if j = i.toNatClampNeg then s else O j) q' := fun j hj => by
  rw [iv_tn hi]
  by_cases e : j = q.toNat
  · show (if j = q.toNat then s else O j) = 11 ∨ (if j = q.toNat then s else O j) = 12 ∨ (if j = q.toNat then s else O j) = 13 ∨ (if j = q.toNat then s else O j) = 91
    rw [if_pos e]
    exact hs
  · show (if j = q.toNat then s else O j) = 11 ∨ (if j = q.toNat then s else O j) = 12 ∨ (if j = q.toNat then s else O j) = 13 ∨ (if j = q.toNat then s else O j) = 91
    rw [if_neg e]
    exact h j (by omega)
theorem ovd_le {O : Nat → Int32} {q q' : Int} (h : ovd O q) (hq : q' ≤ q) : ovd O q' := fun j hj => h j (by omega)
theorem nbin_z (O : Nat → Int32) : nbin O (0 : Int).toNat = 0 := rfl
theorem nbin_d {O : Nat → Int32} {q q' : Int} (hq : q' = q - 1) (h1 : 1 ≤ q) (h : O (q - 1).toNat = 91) : nbin O q.toNat = nbin O q'.toNat := by
  rw [hq, show q.toNat = (q - 1).toNat + 1 by omega]
  exact nbin_br h
/-- a bracket is open: the pile can't be settled to its ground -/
theorem in_top {O : Nat → Int32} {q y : Int} (hj : ∃ j : Nat, (j : Int) < q ∧ O j = 91) (hn : ∀ j : Nat, y ≤ (j : Int) → (j : Int) < q → ¬ O j = 91) (ht : y = 0 ∨ O (y - 1).toNat = 91) (h0 : 0 ≤ y) : 1 ≤ y ∧ O (y - 1).toNat = 91 := by
  rcases ht with ht | ht
  · obtain ⟨j, h1, h2⟩ := hj
    exact absurd h2 (hn j (by omega) h1)
  · by_cases e : y = 0
    · obtain ⟨j, h1, h2⟩ := hj
      exact absurd h2 (hn j (by omega) h1)
    · exact ⟨by omega, ht⟩
theorem out_top {O : Nat → Int32} {q y : Int} (hj : ∀ j : Nat, (j : Int) < q → ¬ O j = 91) (ht : y = 0 ∨ O (y - 1).toNat = 91) (h0 : 0 ≤ y) (hy : y ≤ q) : y = 0 := by
  rcases ht with ht | ht
  · exact ht
  · by_cases e : y = 0
    · exact e
    · exact absurd ht (hj _ (by omega))
theorem chb_no {Tp : Nat → Value} {lo hi k t : Int} (h : chb Tp lo hi k t) (h2 : 32 < lo ∨ hi < 32) : ¬ chb Tp 32 32 k t := fun g => by
  obtain ⟨-, -, x, e, h3⟩ := h
  have := chb_in g e
  omega
/-- the codes' piece that begins at the length itself -/
theorem cs_start {D : hp_D} {H : Heap} {a : Nat} {A : Nat → Nat} {tx L m : Int32} {S : Nat → Int32} {Bd : Int} (hcS : hp_c D H (A 1) 2400 S) (hcL : hp_et D 0 H (A 2) tx.toNatClampNeg (.int L)) (hcm : hp_f D H a 12 12 (.int m)) (bm : iv m 0 60) (h0 : 0 ≤ L.toInt) (hB : L.toInt ≤ Bd) (h4 : L.toInt ≤ 400) : cs D H a A tx S L.toInt 0 0 Bd := by
  have b1 := bm.1
  have b2 := bm.2
  refine ⟨S, L, m, hcS, hcL, hcm, h0, Int.le_refl _, hB, h4, by omega, b2, ?_, fun _ _ => rfl⟩
  rw [Int.sub_self]
  exact rfl
def clB (K C : Nat → Int32) (t : Nat) (L : Int) : Prop := ∀ c : Nat, (c : Int) < (C t).toInt → (K (48 * t + 4 * c + 1)).toInt ≤ L ∧ (K (48 * t + 4 * c + 2) < 0 ∨ (K (48 * t + 4 * c + 3)).toInt ≤ L)
def kof (K' K C : Nat → Int32) (t : Nat) : Prop := ∀ j, ¬ (48 * t + 4 * (C t).toInt.toNat ≤ j ∧ j < 48 * t + 4 * (C t).toInt.toNat + 4) → K' j = K j
theorem c_g.agr {S S' : Nat → Int32} {t tx L : Nat} {b e : Int32} (h : c_g S t b e) (a : agr S' S tx L) (ht : t ≠ tx ∨ e.toInt ≤ (L : Int)) : c_g S' t b e := by
  obtain ⟨h1, h2, h3, h4⟩ := h
  have b1 := h1.1
  have b2 := h1.2
  have e1 := h2.1
  have e2 := h2.2
  refine ⟨h1, h2, h3, h4.same (fun j g1 g2 => a j ?_)⟩
  by_cases et : t = tx
  · rcases ht with ht | ht
    · exact absurd et ht
    · subst et
      exact Or.inl (by omega)
  · rcases Nat.lt_or_gt_of_ne et with g | g
    · exact Or.inl (by omega)
    · exact Or.inr (by omega)
theorem kof_at {K K' C : Nat → Int32} {t tx c d : Nat} (hK : kof K' K C tx) (hc : (c : Int) < (C t).toInt) (h12 : (C t).toInt ≤ 12) (h11 : (C tx).toInt ≤ 11) (hd : d < 4) : K' (48 * t + 4 * c + d) = K (48 * t + 4 * c + d) := hK _ (fun z => by
  obtain ⟨z1, z2⟩ := z
  by_cases e : t = tx
  · subst e
    omega
  · omega)
theorem mo_keep {S S' K K' C : Nat → Int32} {tx L : Nat} (hg : moGood S K C) (hb : clB K C tx (L : Int)) (h11 : (C tx).toInt ≤ 11) (a : agr S' S tx L) (hK : kof K' K C tx) : moGood S' K' C := fun t ht => by
  obtain ⟨h1, h2⟩ := hg t ht
  refine ⟨h1, fun c hc => ?_⟩
  obtain ⟨g1, g2⟩ := h2 c hc
  have e0 := kof_at (d := 0) hK hc h1.2 h11 (by omega)
  have e1 := kof_at (d := 1) hK hc h1.2 h11 (by omega)
  have e2 := kof_at (d := 2) hK hc h1.2 h11 (by omega)
  have e3 := kof_at (d := 3) hK hc h1.2 h11 (by omega)
  rw [Nat.add_zero] at e0
  have hB : t = tx → (K (48 * t + 4 * c + 1)).toInt ≤ (L : Int) ∧ (K (48 * t + 4 * c + 2) < 0 ∨ (K (48 * t + 4 * c + 3)).toInt ≤ (L : Int)) := fun e => by
    subst e
    exact hb c hc
  rw [e0, e1, e2, e3]
  refine ⟨g1.agr a ?_, ?_⟩
  · by_cases e : t = tx
    · exact Or.inr (hB e).1
    · exact Or.inl e
  · rcases g2 with g2 | g2
    · exact Or.inl g2
    · by_cases e : t = tx
      · rcases (hB e).2 with z | z
        · exact Or.inl z
        · exact Or.inr (g2.agr a (Or.inr z))
      · exact Or.inr (g2.agr a (Or.inl e))
theorem agr_trans {S S1 S2 : Nat → Int32} {t b b2 : Nat} (h : agr S1 S t b) (g : agr S2 S1 t b2) (hb : b ≤ b2) : agr S2 S t b := fun j hj => (g j (by omega)).trans (h j hj)
theorem mo_next {S S1 S2 K K5 C C' : Nat → Int32} {tx : Nat} {L0 L1 L2 : Int32} (hg : moGood S K C) (hb : clB K C tx L0.toInt) (htx : tx < 6) (h11 : (C tx).toInt ≤ 11) (h0 : 0 ≤ L0.toInt) (h01 : L0.toInt ≤ L1.toInt) (h12 : L1.toInt ≤ L2.toInt) (h2 : L2.toInt ≤ 400) (x1 : c_x S1 (400 * tx + L0.toInt.toNat) (L1.toInt - L0.toInt).toNat 0 1) (a1 : agr S1 S tx L0.toInt.toNat) (a2 : agr S2 S1 tx L1.toInt.toNat) (hK : kof K5 K C tx) (k0 : K5 (48 * tx + 4 * (C tx).toInt.toNat) = L0) (k1 : K5 (48 * tx + 4 * (C tx).toInt.toNat + 1) = L1) (k2 : K5 (48 * tx + 4 * (C tx).toInt.toNat + 2) < 0 ∨ (K5 (48 * tx + 4 * (C tx).toInt.toNat + 2) = L1 ∧ K5 (48 * tx + 4 * (C tx).toInt.toNat + 3) = L2 ∧ c_x S2 (400 * tx + L1.toInt.toNat) (L2.toInt - L1.toInt).toNat 0 1)) (hC : ∀ j, j ≠ tx → C' j = C j) (hC1 : (C' tx).toInt = (C tx).toInt + 1) : moGood S2 K5 C' ∧ clB K5 C' tx L2.toInt := by
  have hb' : clB K C tx (L0.toInt.toNat : Int) := by rw [Int.toNat_of_nonneg h0]; exact hb
  have m0 : moGood S2 K5 C := mo_keep hg hb' h11 (agr_trans a1 a2 (by omega)) hK
  have c0 := (hg tx htx).1.1
  have gx : c_g S2 tx L0 L1 := c_g.agr (L := L1.toInt.toNat) ⟨⟨h0, by omega⟩, ⟨by omega, by omega⟩, h01, x1⟩ a2 (Or.inr (by omega))
  refine ⟨fun t ht => ?_, fun c hc => ?_⟩
  · by_cases e : t = tx
    · subst e
      refine ⟨⟨by omega, by omega⟩, fun c hc => ?_⟩
      by_cases ec : (c : Int) < (C t).toInt
      · exact (m0 t ht).2 c ec
      · have en : c = (C t).toInt.toNat := by omega
        rw [en, k0, k1]
        refine ⟨gx, ?_⟩
        rcases k2 with k2 | ⟨k2, k3, x2⟩
        · exact Or.inl k2
        · rw [k2, k3]
          exact Or.inr ⟨⟨by omega, by omega⟩, ⟨by omega, h2⟩, h12, x2⟩
    · obtain ⟨g1, g2⟩ := m0 t ht
      rw [hC t e]
      exact ⟨g1, g2⟩
  · by_cases ec : (c : Int) < (C tx).toInt
    · have i1 := (hg tx htx).1.2
      have e1 := kof_at (d := 1) hK ec i1 h11 (by omega)
      have e2 := kof_at (d := 2) hK ec i1 h11 (by omega)
      have e3 := kof_at (d := 3) hK ec i1 h11 (by omega)
      obtain ⟨z1, z2⟩ := hb c ec
      rw [e1, e2, e3]
      exact ⟨by omega, z2.imp id (fun z => by omega)⟩
    · have en : c = (C tx).toInt.toNat := by omega
      rw [en, k1]
      exact ⟨h12, k2.imp id (fun z => by rw [z.2.1]; exact Int.le_refl _)⟩
/-- the reader between two clauses -/
def rd (D : hp_D) (H : Heap) (a : Nat) (A : Nat → Nat) (tx : Int32) (ln Bd : Int) : Prop := ∃ (S K C : Nat → Int32) (L m : Int32), hp_c D H (A 1) 2400 S ∧ hp_c D H (A 3) 288 K ∧ hp_c D H (A 4) 6 C ∧ hp_et D 0 H (A 2) tx.toNatClampNeg (.int L) ∧ hp_f D H a 12 12 (.int m) ∧ iv m 0 60 ∧ 0 ≤ L.toInt ∧ L.toInt ≤ Bd ∧ L.toInt ≤ 400 ∧ (C tx.toInt.toNat).toInt ≤ ln ∧ moGood S K C ∧ clB K C tx.toInt.toNat L.toInt
def rdw (D : hp_D) (H : Heap) (A : Nat → Nat) : Prop := ∃ S K C : Nat → Int32, hp_c D H (A 1) 2400 S ∧ hp_c D H (A 3) 288 K ∧ hp_c D H (A 4) 6 C ∧ moGood S K C
theorem rd.w {D : hp_D} {H : Heap} {a : Nat} {A : Nat → Nat} {tx : Int32} {ln Bd : Int} (h : rd D H a A tx ln Bd) : rdw D H A := by
  obtain ⟨S, K, C, L, m, h1, h2, h3, h4, h5, h6, h7, h8, h9, h10, h11, h12⟩ := h
  exact ⟨S, K, C, h1, h2, h3, h11⟩
theorem rd.mono {D : hp_D} {H : Heap} {a : Nat} {A : Nat → Nat} {tx : Int32} {ln Bd ln' Bd' : Int} (h : rd D H a A tx ln Bd) (hl : ln ≤ ln') (hB : Bd ≤ Bd') : rd D H a A tx ln' Bd' := by
  obtain ⟨S, K, C, L, m, h1, h2, h3, h4, h5, h6, h7, h8, h9, h10, h11, h12⟩ := h
  exact ⟨S, K, C, L, m, h1, h2, h3, h4, h5, h6, h7, by omega, h9, by omega, h11, h12⟩
theorem rd.on {D : hp_D} {H H1 : Heap} {a : Nat} {A : Nat → Nat} {tx : Int32} {ln Bd : Int} {P : Nat → Prop} {Lm : List (Nat × Nat)} (h : rd D H a A tx ln Bd) (ho : hp_on P H H1) (hk : hp_km D Lm H H1) (n1 : ¬ P (A 1)) (n3 : ¬ P (A 3)) (n4 : ¬ P (A 4)) (n2 : ¬ P (A 2)) (hm : (12, 12) ∉ Lm) : rd D H1 a A tx ln Bd := by
  obtain ⟨S, K, C, L, m, h1, h2, h3, h4, h5, h6⟩ := h
  exact ⟨S, K, C, L, m, h1.kept (ho _ n1), h2.kept (ho _ n3), h3.kept (ho _ n4), h4.kept (ho _ n2), hk _ _ _ _ h5 ⟨rfl, hm⟩, h6⟩
theorem rdw.on {D : hp_D} {H H1 : Heap} {A : Nat → Nat} {P : Nat → Prop} (h : rdw D H A) (ho : hp_on P H H1) (n1 : ¬ P (A 1)) (n3 : ¬ P (A 3)) (n4 : ¬ P (A 4)) : rdw D H1 A := by
  obtain ⟨S, K, C, h1, h2, h3, h4⟩ := h
  exact ⟨S, K, C, h1.kept (ho _ n1), h2.kept (ho _ n3), h3.kept (ho _ n4), h4⟩
theorem rd.put {D : hp_D} {H H1 : Heap} {a k : Nat} {A : Nat → Nat} {tx : Int32} {ln Bd : Int} (h : rd D H a A tx ln Bd) (g : hp_wr D H H1 a 12 k) (o : ∀ q, q ≠ a → H1[q]? = H[q]?) (n1 : A 1 ≠ a) (n3 : A 3 ≠ a) (n4 : A 4 ≠ a) (n2 : A 2 ≠ a) (hk : 12 ≠ k) : rd D H1 a A tx ln Bd := by
  obtain ⟨S, K, C, L, m, h1, h2, h3, h4, h5, h6⟩ := h
  exact ⟨S, K, C, L, m, h1.kept (o _ n1), h2.kept (o _ n3), h3.kept (o _ n4), h4.kept (o _ n2), g _ _ _ _ h5 (Or.inr ⟨rfl, hk⟩), h6⟩
theorem rdw.put {D : hp_D} {H H1 : Heap} {a : Nat} {A : Nat → Nat} (h : rdw D H A) (o : ∀ q, q ≠ a → H1[q]? = H[q]?) (n1 : A 1 ≠ a) (n3 : A 3 ≠ a) (n4 : A 4 ≠ a) : rdw D H1 A := by
  obtain ⟨S, K, C, h1, h2, h3, h4⟩ := h
  exact ⟨S, K, C, h1.kept (o _ n1), h2.kept (o _ n3), h3.kept (o _ n4), h4⟩
theorem mo_zero {S K C C' : Nat → Int32} {tx : Nat} (hg : moGood S K C) (hC : ∀ j, j ≠ tx → C' j = C j) (h0 : C' tx = 0) : moGood S K C' := fun t ht => by
  by_cases e : t = tx
  · subst e
    rw [h0]
    exact ⟨⟨by decide, by decide⟩, fun c hc => absurd hc (by have : (0 : Int32).toInt = 0 := rfl; omega)⟩
  · rw [hC t e]
    exact hg t ht
theorem mo_keepI {S S' K K' C : Nat → Int32} {tx : Nat} {L : Int} (hg : moGood S K C) (h0 : 0 ≤ L) (hb : clB K C tx L) (h11 : (C tx).toInt ≤ 11) (a : agr S' S tx L.toNat) (hK : kof K' K C tx) : moGood S' K' C := mo_keep (L := L.toNat) hg (by rw [Int.toNat_of_nonneg h0]; exact hb) h11 a hK
theorem kof_rf {K C : Nat → Int32} {tx : Nat} : kof K K C tx := fun _ _ => rfl
theorem kof_st {K K' K0 C : Nat → Int32} {tx n : Nat} {v : Int32} (h : kof K K0 C tx) (e : ∀ j, K' j = if j = n then v else K j) (hn : 48 * tx + 4 * (C tx).toInt.toNat ≤ n ∧ n < 48 * tx + 4 * (C tx).toInt.toNat + 4) : kof K' K0 C tx := fun j hj => by
  rw [e j, if_neg (fun z => hj (by rw [z]; exact hn))]
  exact h j hj
theorem hp_c.st {D : hp_D} {H : Heap} {a n i : Nat} {x : Int32} {f : Nat → Int32} (h : hp_c D H a n (fun j => if j = i then x else f j)) (hi : i < n) : hp_et D 0 H a i (.int x) := by
  have h1 : hp_et D 0 H a i (.int (if i = i then x else f i)) := hp_c.et h hi
  rw [if_pos rfl] at h1
  exact h1
/-- the reader ahead of a rule: nothing of it is finished -/
def rdz (D : hp_D) (H : Heap) (A : Nat → Nat) (tx : Int32) : Prop := ∃ S K C : Nat → Int32, hp_c D H (A 1) 2400 S ∧ hp_c D H (A 3) 288 K ∧ hp_c D H (A 4) 6 C ∧ moGood S K C ∧ C tx.toInt.toNat = 0
theorem rd_0 {D : hp_D} {H : Heap} {a : Nat} {A : Nat → Nat} {tx : Int32} {S K C : Nat → Int32} (h1 : hp_c D H (A 1) 2400 S) (h2 : hp_c D H (A 3) 288 K) (h3 : hp_c D H (A 4) 6 C) (h4 : hp_et D 0 H (A 2) tx.toNatClampNeg (.int 0)) (h5 : hp_f D H a 12 12 (.int 0)) (h6 : moGood S K C) (h7 : C tx.toInt.toNat = 0) : rd D H a A tx 0 0 := by
  have z : (0 : Int32).toInt = 0 := rfl
  refine ⟨S, K, C, 0, 0, h1, h2, h3, h4, h5, ⟨by decide, by decide⟩, by omega, by omega, by omega, by rw [h7]; omega, h6, fun c hc => ?_⟩
  rw [h7] at hc
  omega
