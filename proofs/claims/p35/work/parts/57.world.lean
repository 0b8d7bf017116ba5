/-! THE LAW'S WORLD: the class's typing and the reference's, apart -/
def lawA (s : State) (Am : Nat → Prop) : Nat → Prop := fun q => s.heap.size ≤ q ∧ ¬ Am q
def lawW (D : hp_D) (Tc Tm : hp_T) (Am : Nat → Prop) (s : State) (H : Heap) (locs : List Loc) : Prop := hp_ok D Tc H ∧ hp_ok D Tm H ∧ (∀ q, hp_F Tc q → lawA s Am q) ∧ (∀ q, hp_F Tm q → Am q) ∧ (∀ q, Am q → s.heap.size ≤ q ∧ q < H.size) ∧ va_S (fun q => s.heap.size ≤ q) s.heap H locs
theorem lw_G.narrow {D : hp_D} {A B : Nat → Prop} {U : State} {H : Heap} (h : lw_G D A U H) (g : ∀ q, B q → A q) : lw_G D B U H := ⟨h.1, h.2.1, h.2.2.narrow g⟩
section LAWR
variable {p : Program} {l : Launch} {e : Env} {R : Room} {s : State} {m : MethodId} {args : Array Value} {below : List Frame} {meth : Method} {c : Code} {H : Heap} {locs : List Loc} {cells slots : Nat} {Q : State → Prop}
variable {cc : ByteArray} {pc : Nat} {ls : Array Slot} {rest : List Value} {D : hp_D} {Tc Tm : hp_T} {Am : Nat → Prop} {a : Nat} {st0 : List Value} {av : Array Value} {mc ms : Nat}
theorem law_c {post : Option Value → hp_T → State → State → Prop} (hr : va_Run p l e R s m args below meth c H locs cells slots mc ms (F0 m pc ls st0) rest (lw_q D (lawA s Am) post av) (lawA s Am)) (hH : lawW D Tc Tm Am s H locs)
    (kk : ∀ (v : Option Value) (T1 : hp_T) (st t : State) (H1 : Heap) (locs1 : List Loc), post v T1 st t → lawW D T1 Tm Am s H1 locs1 → W p l e R s m args below meth c H1 locs1 (cells + mc) (slots + ms) Q (F0 m (pc + 3) ls (v.toList ++ rest))) : W p l e R s m args below meth c H locs cells slots Q (F0 m pc ls st0) := by
  obtain ⟨w1, w2, w3, w4, w5, w6⟩ := hH
  intro T0 hT X
  obtain ⟨v, st₀, t, T', L, h0, X', hL, e1, e2, ⟨v', T1, hv, hp, hok, hTA, hz, hk⟩, st⟩ := hr T0 hT X
  cases hv
  rw [h0] at hz hk
  have hq : ∀ q, q < H.size → ¬ lawA s Am q → T'.heap[q]? = H[q]? := fun q h1 h2 => by rw [e1]; exact hk q h1 h2
  have hz' : H.size ≤ T'.heap.size := by rw [e1]; exact hz
  have hw : lawW D T1 Tm Am s T'.heap (locs ++ L) := ⟨by rw [e1]; exact hok, fun b ct hb => (w2 b ct hb).kept (hq b (w2 b ct hb).lt (fun z => z.2 (w4 b ⟨ct, hb⟩))), hTA, w4, fun q hq2 => ⟨(w5 q hq2).1, Nat.lt_of_lt_of_le (w5 q hq2).2 hz'⟩, Nat.le_trans w6.1 hz', fun q h1 h2 => (hq q (Nat.lt_of_lt_of_le h1 w6.1) (fun z => h2 z.1)).trans (w6.2.1 q h1 h2), fun q hq2 => by
    rcases List.mem_append.mp hq2 with h | h
    · exact w6.2.2 q h
    · exact (hL q h).1⟩
  obtain ⟨t2, a1, b1⟩ := kk v T1 st₀ t T'.heap (locs ++ L) hp hw T' rfl X'
  exact ⟨t2, st t2 a1, b1⟩
theorem law_m {post : Option Value → hp_T → Prop} (hr : va_Run p l e R s m args below meth c H locs cells slots mc ms (F0 m pc ls st0) rest (lm_q D Tm post av) (hp_F Tm)) (hH : lawW D Tc Tm Am s H locs)
    (kk : ∀ (v : Option Value) (T1 : hp_T) (H1 : Heap) (locs1 : List Loc), post v T1 → lawW D Tc T1 Am s H1 locs1 → W p l e R s m args below meth c H1 locs1 (cells + mc) (slots + ms) Q (F0 m (pc + 3) ls (v.toList ++ rest))) : W p l e R s m args below meth c H locs cells slots Q (F0 m pc ls st0) := by
  obtain ⟨w1, w2, w3, w4, w5, w6⟩ := hH
  intro T0 hT X
  obtain ⟨v, st₀, t, T', L, h0, X', hL, e1, e2, ⟨v', T1, hv, hp, hok, hTA, hz, hk⟩, st⟩ := hr T0 hT X
  cases hv
  rw [h0] at hz hk
  have hq : ∀ q, q < H.size → ¬ hp_F Tm q → T'.heap[q]? = H[q]? := fun q h1 h2 => by rw [e1]; exact hk q h1 h2
  have hz' : H.size ≤ T'.heap.size := by rw [e1]; exact hz
  have hw : lawW D Tc T1 Am s T'.heap (locs ++ L) := ⟨fun b ct hb => (w1 b ct hb).kept (hq b (w1 b ct hb).lt (fun z => (w3 b ⟨ct, hb⟩).2 (w4 b z))), by rw [e1]; exact hok, w3, fun q h => w4 q (hTA q h), fun q hq2 => ⟨(w5 q hq2).1, Nat.lt_of_lt_of_le (w5 q hq2).2 hz'⟩, Nat.le_trans w6.1 hz', fun q h1 h2 => (hq q (Nat.lt_of_lt_of_le h1 w6.1) (fun z => h2 (w5 q (w4 q z)).1)).trans (w6.2.1 q h1 h2), fun q hq2 => by
    rcases List.mem_append.mp hq2 with h | h
    · exact w6.2.2 q h
    · exact (w5 _ (w4 _ (hL q h))).1⟩
  obtain ⟨t2, a1, b1⟩ := kk v T1 T'.heap (locs ++ L) hp hw T' rfl X'
  exact ⟨t2, st t2 a1, b1⟩
theorem law_preC (hG : lw_G D (fun q => s.heap.size ≤ q) s s.heap) (hH : lawW D Tc Tm Am s H locs) {ci : Nat} {Ps : List (Value → Prop)} (ha : Tc a = some (.inr (ci, Ps))) {q : vw_C} (hc : vwCl[ci]? = some q) {As : List Value} : PreV s H q.1 a (lx_Pc D Tc (lawA s Am) (.ref a :: As) (fun _ => True)) As := by
  obtain ⟨w1, w2, w3, w4, w5, w6⟩ := hH
  exact ⟨lx_Pc.blind, hp_recv hG.1.1 w1 ha hc, fun U hU hW => ⟨rfl, by rw [hU]; exact w1, (hG.at (T := Tc) (locs := locs) ⟨w1, w6⟩ hU hW).narrow (fun q h => h.1), w3, fun q hq => by
    rw [hU] at hq
    exact ⟨Nat.le_trans w6.1 hq, fun z => absurd (w5 q z).2 (Nat.not_lt.mpr hq)⟩, trivial⟩⟩
theorem law_preM (hG : lw_G D (fun q => s.heap.size ≤ q) s s.heap) (hH : lawW D Tc Tm Am s H locs) {ci : Nat} {Ps : List (Value → Prop)} (ha : Tm a = some (.inr (ci, Ps))) {q : vw_C} (hc : vwCl[ci]? = some q) {As : List Value} : PreV s H q.1 a (hp_Pc D Tm (.ref a :: As) (fun _ => True)) As := by
  obtain ⟨w1, w2, w3, w4, w5, w6⟩ := hH
  exact ⟨hp_Pc.blind, hp_recv hG.1.1 w2 ha hc, fun U hU hW => ⟨rfl, by rw [hU]; exact w2, (hG.at (T := Tm) (locs := locs) ⟨w2, w6⟩ hU hW).hp (fun q h => (w5 q (w4 q h)).1), trivial⟩⟩
end LAWR
/-- both sides tell the same of the images -/
def lawG (G : Nat → Option (Nat × Int32)) (X M : Nat → Int32) : Prop := ∀ j, j < 4 → (M j = 0 ∧ G j = none) ∨ (M j = 1 ∧ ∃ b : Nat, G j = some (b, X j))
theorem lawG_0 : lawG (fun _ => none) (fun _ => 0) (fun _ => 0) := fun _ _ => Or.inl ⟨rfl, rfl⟩
theorem lawG_image {G : Nat → Option (Nat × Int32)} {X M : Nat → Int32} {k b : Nat} {x : Int32} (h : lawG G X M) : lawG (imU G k (b, x)) (upI X k x) (upI M k 1) := fun j hj => by
  by_cases e : j = k
  · subst e
    exact Or.inr ⟨upI_s, b, by rw [imU_s, upI_s]⟩
  · rw [imU_n e, upI_n e, upI_n e]
    exact h j hj
theorem lawG_back {G : Nat → Option (Nat × Int32)} {X M : Nat → Int32} {k x : Int32} (h : lawG G X M) : bkX G k x = bkM X M k x := by
  by_cases hk : ¬ k < 0 ∧ k < 4
  · rcases h k.toNatClampNeg (iv_ltn (iv_in3 hk.1 hk.2) (by decide)) with ⟨h1, h2⟩ | ⟨h1, b, h2⟩
    · rw [bkX_none h2, show bkM X M k x = x from if_neg (fun z => absurd (h1.symm.trans z.2) (by decide))]
    · rw [bkX_some hk h2, show bkM X M k x = X k.toNatClampNeg from if_pos ⟨hk, h1⟩]
  · rw [bkX_out hk, show bkM X M k x = x from if_neg (fun z => hk z.1)]
