/-! THE LAW, from its entry -/
theorem isPC.S {T : hp_T} {a : Nat} (h : isPC T (fun _ => False) a) : ∃ tp tr rr rl nw im tl sk iq pa sn be : Nat, pcS T (fun _ => False) a tp tr rr rl nw im tl sk iq pa sn be (rV (.int 0)) (fun _ => none) := by
  obtain ⟨tp, tr, rr, rl, nw, im, tl, sk, iq, pa, sn, be, h0, jtp, jtr, jrr, jrl, jnw, jim, jtl, jsk, jiq, jpa, jsn, jbe⟩ := h
  exact ⟨tp, tr, rr, rl, nw, im, tl, sk, iq, pa, sn, be, h0, jtp, jtr, jrr, jrl, jnw, jim, jtl, jsk, jiq, jpa, jsn, jbe, fun b hb => False.elim hb, fun j b x _ hg => (by cases (show (none : Option (Nat × Int32)) = some (b, x) from hg)), fun i j b x y _ _ hg _ => (by cases (show (none : Option (Nat × Int32)) = some (b, x) from hg))⟩
theorem mW_0 {T : hp_T} {a : Nat} (h : isMo T a moG0) (hd : moD T a) : ∃ A : Nat → Nat, mW T a A 0 (fun _ => 0) (fun _ => 0) ∧ A 15 ≠ A 16 := by
  obtain ⟨A, hA⟩ := h.A
  obtain ⟨Ps, f, g, k1, k2, k3, k4⟩ := hd
  refine ⟨A, ⟨moG0, hA, rfl, rfl, fun _ => rfl, fun _ => rfl⟩, ?_⟩
  have e1 : f = A 15 := mo_addr (k := 30) k1 k2 hA.2.1 rfl
  have e2 : g = A 16 := mo_addr (k := 31) k1 k3 hA.2.1 rfl
  rw [← e1, ← e2]
  exact k4
def law_T0 : hp_T := fun _ => none
theorem law_T0_x {q : Nat} {ct : hp_C} {P : Prop} (h : law_T0 q = some ct) : P := by
  cases (show (none : Option hp_C) = some ct from h)
set_option maxHeartbeats 4000000 in
set_option maxRecDepth 100000 in
theorem whole_start {p : Program} {e : Env} {s : State} {m : MethodId} {below : List Frame} {meth : Method} {c : Code} (l : Launch) (hflags : l.flags = flags0) {b L : Nat} {xs : Nat → Int32} (hL : L ≤ 3072) (C0 : lw_At p s m meth c b L xs) : W p l e room_1 s m #[Value.ref b] below meth c s.heap [] 0 0 (lw_Z below #[Value.ref b] s) (entryFrame m ([Value.ref b] : List Value).toArray 4) := by
  obtain ⟨hx, hb, hr, hml, hown, hts, hX, hbl, hlocks, hgv⟩ := id C0
  obtain ⟨D, hG⟩ := law_start hts hgv
  have hown : s.vm.findClass RL = some m.cls := hown
  have htsL : ∀ w ∈ lw_tbl, w.before #[Value.ref b] s = true := hts
  have hA : ∀ q : Nat, s.heap.size ≤ q → (fun q : Nat => s.heap.size ≤ q) q := fun _ h => h
  have hw : mk_w D law_T0 (fun q : Nat => s.heap.size ≤ q) s s.heap [] := ⟨fun _ _ h => law_T0_x h, va_S.rf⟩
  have CL7 := hts (.classLink RL 7 RX11) (by decide +kernel)
  have CL10 := hts (.classLink RL 10 RX12) (by decide +kernel)
  have IS11 := hts (.instantiable RX11 13) (by decide +kernel)
  have IS12 := hts (.instantiable RX12 44) (by decide +kernel)
  have IN11 := hts (.initialized RX11) (by decide +kernel)
  have IN12 := hts (.initialized RX12) (by decide +kernel)
  have LK9 := hts (.methodLink RL 9 yX11_init) (by decide +kernel)
  have LK12 := hts (.methodLink RL 12 yX12_init) (by decide +kernel)
  have IM11 := hts (.instanceMethod yX11_init) (by decide +kernel)
  have IM12 := hts (.instanceMethod yX12_init) (by decide +kernel)
  have hl := lv_entry ([.ref b]) (n := 4) (Nat.le_of_ble_eq_true rfl)
  rw [lg_entry_eq]
  generalize (lg_sl ([.ref b]) ++ List.replicate (4 - (lg_sl ([.ref b])).length) Slot.unset).toArray = ls at hl ⊢
  have hl : lv_has ls 4 [(0, .ref b)] := hl
  refine mk_new (ci := 11) (C := RX11) (TT := TX11) (N := 13) hx hb hts law_iX11 tyX11 tyX11_ok hown CL7 IS11 IN11 hG.1.1 hw rfl (Nat.le_of_ble_eq_true rfl) (Nat.le_of_ble_eq_true rfl) dL_law_0 (fun q0 H0 hw0 oq0 eq0 k0 nq0 => ?_)
  refine lv_dup hx hb dL_law_3 rfl ?_
  refine mk_call (va_runI (As := []) (rest := [.ref q0]) ⟨hx, hb, hml, hown, htsL⟩ (mX11_init l D law_T0 q0 H0.size (fun _ => False) nq0) (cwI 0 htsL gL_law_X11_init rfl rfl rfl IN11 LK9 IM11 rfl (by decide +kernel) ⟨Nat.le_of_ble_eq_true rfl, Nat.le_of_ble_eq_true rfl⟩) (mk_pre hG.1 hw0 ⟨rfl, oq0⟩) rfl rfl hl.1 rfl (lv_room (Nat.le_of_ble_eq_true rfl)) dL_law_4 ⟨Nat.le_of_ble_eq_true rfl, Nat.le_of_ble_eq_true rfl⟩) hw0 hA (by rw [eq0]; exact Nat.le_refl _) (fun T1 H1 locs1 i1 hw1 g1 k1 => ?_)
  refine lv_astore_n (lv' := [(1, .ref q0), (0, .ref b)]) hx hb dL_law_7 rfl hl (by decide) rfl (fun ls hl => ?_)
  have hwN : mk_w D law_T0 (fun q : Nat => s.heap.size ≤ q) s H1 locs1 := ⟨fun _ _ h => law_T0_x h, hw1.2⟩
  refine mk_new (ci := 12) (C := RX12) (TT := TX12) (N := 44) hx hb hts law_iX12 tyX12 tyX12_ok hown CL10 IS12 IN12 hG.1.1 hwN rfl (Nat.le_of_ble_eq_true rfl) (Nat.le_of_ble_eq_true rfl) dL_law_8 (fun q8 H8 hw8 oq8 eq8 k8 nq8 => ?_)
  refine lv_dup hx hb dL_law_11 rfl ?_
  refine mk_call (va_runI (As := []) (rest := [.ref q8]) ⟨hx, hb, hml, hown, htsL⟩ (mX12_init l D law_T0 q8 H8.size nq8) (cwI 0 htsL gL_law_X12_init rfl rfl rfl IN12 LK12 IM12 rfl (by decide +kernel) ⟨Nat.le_of_ble_eq_true rfl, Nat.le_of_ble_eq_true rfl⟩) (mk_pre hG.1 hw8 ⟨rfl, oq8⟩) rfl rfl hl.1 rfl (lv_room (Nat.le_of_ble_eq_true rfl)) dL_law_12 ⟨Nat.le_of_ble_eq_true rfl, Nat.le_of_ble_eq_true rfl⟩) hw8 hA (by rw [eq8]; exact hw1.2.1) (fun T2 H2 locs2 i2 hw2 g2 k2 => ?_)
  have hz8 : H1.size < H8.size := by
    have h := oq8.lt
    rw [eq8] at h
    exact h
  have hlo : ∀ q, hp_F T1 q → s.heap.size ≤ q := fun q h => by
    obtain ⟨ct, h⟩ := h
    rcases g1.2 q ct h with y | y | y
    · exact law_T0_x y
    · rw [y, eq0]
      exact Nat.le_refl _
    · exact Nat.le_trans hw0.2.1 y
  have hhi : ∀ q, hp_F T1 q → q < H1.size := fun q h => by
    obtain ⟨ct, h⟩ := h
    exact (hw1.1 q ct h).lt
  have hokc : hp_ok D T1 H2 := fun q ct h => by
    have h1 := (hw1.1 q ct h).lt
    exact (hw1.1 q ct h).kept ((k2 q (Nat.lt_trans h1 hz8) (by rw [eq8]; exact Nat.ne_of_lt h1)).trans (k8 q h1))
  have hcA : ∀ q, hp_F T1 q → lawA s (hp_F T2) q := fun q h => ⟨hlo q h, fun z => by
    have h1 := hhi q h
    obtain ⟨ct, z⟩ := z
    rcases g2.2 q ct z with y | y | y
    · exact law_T0_x y
    · omega
    · omega⟩
  have hmA : ∀ q, hp_F T2 q → s.heap.size ≤ q ∧ q < H2.size := fun q h => by
    obtain ⟨ct, z⟩ := h
    refine ⟨?_, (hw2.1 q ct z).lt⟩
    rcases g2.2 q ct z with y | y | y
    · exact law_T0_x y
    · rw [y, eq8]
      exact hw1.2.1
    · exact Nat.le_trans hw8.2.1 y
  obtain ⟨tp, tr, rr, rl, nw, im, tl, sk, iq, pa, sn, be, hP⟩ := isPC.S i1
  obtain ⟨A, hm, hAB⟩ := mW_0 i2.1 i2.2
  have I : lawI D s q0 q8 H2 locs2 := ⟨T1, T2, hp_F T2, fun _ => False, A, 0, fun _ => none, fun _ => 0, fun _ => 0, tp, tr, rr, rl, nw, im, tl, sk, iq, pa, sn, be, ⟨hokc, hw2.1, hcA, fun _ h => h, hmA, hw2.2⟩, hP, hm, hAB, lawG_0, fun _ => Or.inl rfl⟩
  refine lv_astore_n (lv' := [(2, .ref q8), (1, .ref q0), (0, .ref b)]) hx hb dL_law_15 rfl hl (by decide) rfl (fun ls hl => ?_)
  refine lv_iconst (v := nI (6 * 0)) hx hb dL_law_16 (by decide +kernel) ?_
  refine lv_istore_n (lv' := [(3, .int (nI (6 * 0))), (2, .ref q8), (1, .ref q0), (0, .ref b)]) hx hb dL_law_17 rfl hl (by decide) rfl (fun ls hl => ?_)
  refine W.widen (k := 75 + 13 * 0) (n := 38804 + 402 * 0) (by omega) (by omega) ?_
  exact law_loop hL hr hlocks ⟨⟨hx, hb, hml, hown, htsL⟩, hX, hbl, hG⟩ 513 0 (Nat.zero_le _) (by omega) H2 locs2 ls I (lv_sub hl [3, 2, 1, 0] rfl)
