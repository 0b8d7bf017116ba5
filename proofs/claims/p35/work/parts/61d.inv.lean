/-! THE LAW'S WALK: what stands at its loop's head, and the steps that every case takes -/
def lawC (p : Program) (s : State) (m : MethodId) (c : Code) (b L : Nat) (xs : Nat → Int32) (D : hp_D) : Prop := CallFix p m c cL_law 4 s #[Value.ref b] lw_tbl RL ∧ va_X b L xs s s.heap ∧ b < s.heap.size ∧ lw_G D (fun q => s.heap.size ≤ q) s s.heap
def lawI (D : hp_D) (s : State) (a am : Nat) (H : Heap) (locs : List Loc) : Prop := ∃ (Tc Tm : hp_T) (Am Ru : Nat → Prop) (A : Nat → Nat) (x : Int32) (G : Nat → Option (Nat × Int32)) (X M : Nat → Int32) (tp tr rr rl nw im tl sk iq pa sn be : Nat), lawW D Tc Tm Am s H locs ∧ pcS Tc Ru a tp tr rr rl nw im tl sk iq pa sn be (rV (.int x)) G ∧ mW Tm am A x X M ∧ A 15 ≠ A 16 ∧ lawG G X M ∧ ∀ j, M j = 0 ∨ M j = 1
def lawB (i : Int32) (L : Nat) : Prop := vp_in (i + 1) L ∧ vp_in (i + 2) L ∧ vp_in (i + 3) L ∧ vp_in (i + 4) L ∧ vp_in (i + 5) L
theorem law_in {n k L : Nat} (h : n + k < L) (hL : L < 2 ^ 31) : vp_in (nI n + nI k) L := by
  rw [nI_add]
  exact vp_in_nI h hL
section LAWK
variable {p : Program} {l : Launch} {e : Env} {s : State} {m : MethodId} {below : List Frame} {meth : Method} {c : Code} {b L : Nat} {xs : Nat → Int32} {D : hp_D} {H : Heap} {locs : List Loc} {cells slots : Nat} {Q : State → Prop}
variable {pc : Nat} {ls : Array Slot} {rest : List Value} {a am : Nat} {i : Int32} {Tc Tm : hp_T} {Am Ru : Nat → Prop} {A : Nat → Nat} {x : Int32} {G : Nat → Option (Nat × Int32)} {X M : Nat → Int32} {tp tr rr rl nw im tl sk iq pa sn be : Nat}
theorem law_ld (C : lawC p s m c b L xs D) (hS : va_S (fun q : Nat => s.heap.size ≤ q) s.heap H locs) (hl : lv_has ls 4 [(0, .ref b), (1, .ref a), (2, .ref am), (3, .int i)]) {n : Int} {k : Int32} (hk : Int32.ofInt n = k) (hin : vp_in (i + k) L) (d0 : decode cL_law pc = .ok (.aload_n 0, 1)) (d1 : decode cL_law (pc + 1) = .ok (.iload_n 3, 1)) (d2 : decode cL_law (pc + 1 + 1) = .ok (.iconst n, 1)) (d3 : decode cL_law (pc + 1 + 1 + 1) = .ok (.iadd, 1)) (d4 : decode cL_law (pc + 1 + 1 + 1 + 1) = .ok (.iaload, 1))
    (kk : W p l e room_1 s m #[Value.ref b] below meth c H locs cells slots Q (F0 m (pc + 1 + 1 + 1 + 1 + 1) ls (.int (xs (i + k).toNatClampNeg) :: rest))) : W p l e room_1 s m #[Value.ref b] below meth c H locs cells slots Q (F0 m pc ls rest) := by
  obtain ⟨⟨hx, hb, hml, hown, hts⟩, hX, hbl, hG⟩ := C
  refine lv_aload_n hx hb d0 rfl (lv_at hl 0 rfl) ?_
  refine lv_iload_n hx hb d1 rfl (lv_at hl 3 rfl) ?_
  refine lv_iconst (v := k) hx hb d2 hk ?_
  refine lv_iadd hx hb d3 ?_
  exact va_sld hx hb hX hbl (A := fun q : Nat => s.heap.size ≤ q) (Nat.not_le.mpr hbl) hS hin d4 kk
theorem law_bl (C : lawC p s m c b L xs D) {y : Int32} (d0 : decode cL_law pc = .ok (.ifCond .eq 7, 3)) (d1 : decode cL_law (pc + 3) = .ok (.iconst 1, 1)) (d2 : decode cL_law (pc + 3 + 1) = .ok (.goto 4, 3)) (d3 : decode cL_law (pc + 7) = .ok (.iconst 0, 1))
    (kk : ∀ z : Int32, iv z 0 1 → W p l e room_1 s m #[Value.ref b] below meth c H locs cells slots Q (F0 m (pc + 7 + 1) ls (.int z :: rest))) : W p l e room_1 s m #[Value.ref b] below meth c H locs cells slots Q (F0 m pc ls (.int y :: rest)) := by
  refine lv_if_eq (tgt := pc + 7) C.1.1 C.1.2.1 d0 (by omega) (fun _ => ?_) (fun _ => ?_)
  · exact lv_iconst (v := 0) C.1.1 C.1.2.1 d3 (by decide) (kk 0 ⟨by decide +kernel, by decide +kernel⟩)
  · refine lv_iconst (v := 1) C.1.1 C.1.2.1 d1 (by decide) ?_
    exact lv_goto (tgt := pc + 7 + 1) C.1.1 C.1.2.1 d2 (by omega) (kk 1 ⟨by decide +kernel, by decide +kernel⟩)
theorem law_xc {y : MethodName} {bytes : ByteArray} {maxL index n mc ms : Nat} {ret : Option FieldType} {ws : List Cond} {rm : Room} {As st : List Value} {post : Option Value → hp_T → State → State → Prop} {Rc : hp_T → Prop} (C : lawC p s m c b L xs D) (w : lawW D Tc Tm Am s H locs) (hP : pcS Tc Ru a tp tr rr rl nw im tl sk iq pa sn be (rV (.int x)) G) (hz : ls.size = 4)
    (hM : Met l y ws rm (lx_Pc D Tc (lawA s Am) (.ref a :: As) (fun _ => True)) (lw_q D (lawA s Am) post) mc ms (lawA s Am)) (cw : CallW room_1 s #[Value.ref b] RL RX11 index y bytes maxL ret ws rm mc ms n) (hpost : ∀ v T1 st t, post v T1 st t → (∃ r : Int32, v = some (.int r)) ∧ Rc T1) (hn : As.length = n) (hst : st = As.reverse ++ [.ref a]) (d : decode cL_law pc = .ok (.invokevirtual index, 3)) (d2 : decode cL_law (pc + 3) = .ok (.pop, 1)) (hc : cells + mc ≤ 600000) (hs : slots + ms ≤ 7302250)
    (kk : ∀ (T1 : hp_T) (H1 : Heap) (locs1 : List Loc), lawW D T1 Tm Am s H1 locs1 → Rc T1 → W p l e room_1 s m #[Value.ref b] below meth c H1 locs1 (cells + mc) (slots + ms) Q (F0 m (pc + 3 + 1) ls [])) : W p l e room_1 s m #[Value.ref b] below meth c H locs cells slots Q (F0 m pc ls st) := by
  subst hst
  refine law_c (va_runV (As := As) (rest := []) C.1 hM cw (law_preC C.2.2.2 w hP.1 (q := (RX11, TX11, 13)) rfl) rfl hn hz rfl (lv_room (Nat.le_of_ble_eq_true rfl)) d ⟨hc, hs⟩) w (fun v T1 st t H1 locs1 hp w1 => ?_)
  obtain ⟨⟨r, rfl⟩, hP1⟩ := hpost v T1 st t hp
  exact lv_pop (va := .int r) (rest := []) C.1.1 C.1.2.1 d2 rfl (kk T1 H1 locs1 w1 hP1)
theorem law_xm {y : MethodName} {bytes : ByteArray} {maxL index n : Nat} {ret : Option FieldType} {ws : List Cond} {rm : Room} {As st : List Value} {post : Option Value → hp_T → Prop} {Rm : hp_T → Prop} (C : lawC p s m c b L xs D) (w : lawW D Tc Tm Am s H locs) (hm : mW Tm am A x X M) (hz : ls.size = 4)
    (hM : Met l y ws rm (hp_Pc D Tm (.ref am :: As) (fun _ => True)) (lm_q D Tm post) 0 0 (hp_F Tm)) (cw : CallW room_1 s #[Value.ref b] RL RX12 index y bytes maxL ret ws rm 0 0 n) (hpost : ∀ v T1, post v T1 → (∃ r : Int32, v = some (.int r)) ∧ Rm T1) (hn : As.length = n) (hst : st = As.reverse ++ [.ref am]) (d : decode cL_law pc = .ok (.invokevirtual index, 3)) (d2 : decode cL_law (pc + 3) = .ok (.pop, 1)) (hc : cells ≤ 600000) (hs : slots ≤ 7302250)
    (kk : ∀ (T1 : hp_T) (H1 : Heap) (locs1 : List Loc), lawW D Tc T1 Am s H1 locs1 → Rm T1 → W p l e room_1 s m #[Value.ref b] below meth c H1 locs1 cells slots Q (F0 m (pc + 3 + 1) ls [])) : W p l e room_1 s m #[Value.ref b] below meth c H locs cells slots Q (F0 m pc ls st) := by
  subst hst
  obtain ⟨Gm, hma, -⟩ := id hm
  refine law_m (va_runV (As := As) (rest := []) C.1 hM cw (law_preM C.2.2.2 w hma.2.1 (q := (RX12, TX12, 44)) rfl) rfl hn hz rfl (lv_room (Nat.le_of_ble_eq_true rfl)) d ⟨hc, hs⟩) w (fun v T1 H1 locs1 hp w1 => ?_)
  obtain ⟨⟨r, rfl⟩, hm1⟩ := hpost v T1 hp
  exact lv_pop (va := .int r) (rest := []) C.1.1 C.1.2.1 d2 rfl (kk T1 H1 locs1 w1 hm1)
end LAWK
