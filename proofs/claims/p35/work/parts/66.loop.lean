section LAWK
variable {p : Program} {l : Launch} {e : Env} {s : State} {m : MethodId} {below : List Frame} {meth : Method} {c : Code} {b L : Nat} {xs : Nat → Int32} {D : hp_D} {H : Heap} {locs : List Loc} {cells slots : Nat} {Q : State → Prop}
variable {pc : Nat} {ls : Array Slot} {rest : List Value} {a am : Nat} {i : Int32} {Tc Tm : hp_T} {Am Ru : Nat → Prop} {A : Nat → Nat} {x : Int32} {G : Nat → Option (Nat × Int32)} {X M : Nat → Int32} {tp tr rr rl nw im tl sk iq pa sn be : Nat}
set_option maxHeartbeats 4000000 in
set_option maxRecDepth 100000 in
theorem law_sw (C : lawC p s m c b L xs D) (I : lawI D s a am H locs) (hl : lv_has ls 4 [(0, .ref b), (1, .ref a), (2, .ref am), (3, .int i)]) (hB : lawB i L) (hc : cells + 13 ≤ 600000) (hs : slots + 402 ≤ 7302250) {y : Int32} (kk : ∀ (H1 : Heap) (locs1 : List Loc), lawI D s a am H1 locs1 → W p l e room_1 s m #[Value.ref b] below meth c H1 locs1 (cells + 13) (slots + 402) Q (F0 m 1296 ls [])) : W p l e room_1 s m #[Value.ref b] below meth c H locs cells slots Q (F0 m 33 ls [.int y]) := by
  have hx := C.1.1
  have hb := C.1.2.1
  by_cases ho : y.toInt < 0 ∨ 37 < y.toInt
  · refine lv_tableOut (tgt := 1296) hx hb dL_law_33 ho (by decide) ?_
    exact W.widen (k := cells + 13) (n := slots + 402) (by omega) (by omega) (kk H locs I)
  have h37 : y.toInt ≤ 37 := by omega
  have h : 0 ≤ y.toInt := by omega
  clear ho
  by_cases e : y.toInt = 0
  · exact lv_tableIn (off := 167) (tgt := 200) hx hb dL_law_33 (by omega) (by omega) (by rw [e]; rfl) (by decide) (lawk_0 C I hl hB hc hs kk)
  replace h : 1 ≤ y.toInt := by omega
  clear e
  by_cases e : y.toInt = 1
  · exact lv_tableIn (off := 230) (tgt := 263) hx hb dL_law_33 (by omega) (by omega) (by rw [e]; rfl) (by decide) (lawk_1 C I hl hB hc hs kk)
  replace h : 2 ≤ y.toInt := by omega
  clear e
  by_cases e : y.toInt = 2
  · exact lv_tableIn (off := 253) (tgt := 286) hx hb dL_law_33 (by omega) (by omega) (by rw [e]; rfl) (by decide) (lawk_2 C I hl hB hc hs kk)
  replace h : 3 ≤ y.toInt := by omega
  clear e
  by_cases e : y.toInt = 3
  · exact lv_tableIn (off := 266) (tgt := 299) hx hb dL_law_33 (by omega) (by omega) (by rw [e]; rfl) (by decide) (lawk_3 C I hl hB hc hs kk)
  replace h : 4 ≤ y.toInt := by omega
  clear e
  by_cases e : y.toInt = 4
  · exact lv_tableIn (off := 279) (tgt := 312) hx hb dL_law_33 (by omega) (by omega) (by rw [e]; rfl) (by decide) (lawk_4 C I hl hB hc hs kk)
  replace h : 5 ≤ y.toInt := by omega
  clear e
  by_cases e : y.toInt = 5
  · exact lv_tableIn (off := 302) (tgt := 335) hx hb dL_law_33 (by omega) (by omega) (by rw [e]; rfl) (by decide) (lawk_5 C I hl hB hc hs kk)
  replace h : 6 ≤ y.toInt := by omega
  clear e
  by_cases e : y.toInt = 6
  · exact lv_tableIn (off := 335) (tgt := 368) hx hb dL_law_33 (by omega) (by omega) (by rw [e]; rfl) (by decide) (lawk_6 C I hl hB hc hs kk)
  replace h : 7 ≤ y.toInt := by omega
  clear e
  by_cases e : y.toInt = 7
  · exact lv_tableIn (off := 368) (tgt := 401) hx hb dL_law_33 (by omega) (by omega) (by rw [e]; rfl) (by decide) (lawk_7 C I hl hB hc hs kk)
  replace h : 8 ≤ y.toInt := by omega
  clear e
  by_cases e : y.toInt = 8
  · exact lv_tableIn (off := 401) (tgt := 434) hx hb dL_law_33 (by omega) (by omega) (by rw [e]; rfl) (by decide) (lawk_8 C I hl hB hc hs kk)
  replace h : 9 ≤ y.toInt := by omega
  clear e
  by_cases e : y.toInt = 9
  · exact lv_tableIn (off := 444) (tgt := 477) hx hb dL_law_33 (by omega) (by omega) (by rw [e]; rfl) (by decide) (lawk_9 C I hl hB hc hs kk)
  replace h : 10 ≤ y.toInt := by omega
  clear e
  by_cases e : y.toInt = 10
  · exact lv_tableIn (off := 477) (tgt := 510) hx hb dL_law_33 (by omega) (by omega) (by rw [e]; rfl) (by decide) (lawk_10 C I hl hB hc hs kk)
  replace h : 11 ≤ y.toInt := by omega
  clear e
  by_cases e : y.toInt = 11
  · exact lv_tableIn (off := 510) (tgt := 543) hx hb dL_law_33 (by omega) (by omega) (by rw [e]; rfl) (by decide) (lawk_11 C I hl hB hc hs kk)
  replace h : 12 ≤ y.toInt := by omega
  clear e
  by_cases e : y.toInt = 12
  · exact lv_tableIn (off := 523) (tgt := 556) hx hb dL_law_33 (by omega) (by omega) (by rw [e]; rfl) (by decide) (lawk_12 C I hl hB hc hs kk)
  replace h : 13 ≤ y.toInt := by omega
  clear e
  by_cases e : y.toInt = 13
  · exact lv_tableIn (off := 566) (tgt := 599) hx hb dL_law_33 (by omega) (by omega) (by rw [e]; rfl) (by decide) (lawk_13 C I hl hB hc hs kk)
  replace h : 14 ≤ y.toInt := by omega
  clear e
  by_cases e : y.toInt = 14
  · exact lv_tableIn (off := 589) (tgt := 622) hx hb dL_law_33 (by omega) (by omega) (by rw [e]; rfl) (by decide) (lawk_14 C I hl hB hc hs kk)
  replace h : 15 ≤ y.toInt := by omega
  clear e
  by_cases e : y.toInt = 15
  · exact lv_tableIn (off := 632) (tgt := 665) hx hb dL_law_33 (by omega) (by omega) (by rw [e]; rfl) (by decide) (lawk_15 C I hl hB hc hs kk)
  replace h : 16 ≤ y.toInt := by omega
  clear e
  by_cases e : y.toInt = 16
  · exact lv_tableIn (off := 681) (tgt := 714) hx hb dL_law_33 (by omega) (by omega) (by rw [e]; rfl) (by decide) (lawk_16 C I hl hB hc hs kk)
  replace h : 17 ≤ y.toInt := by omega
  clear e
  by_cases e : y.toInt = 17
  · exact lv_tableIn (off := 730) (tgt := 763) hx hb dL_law_33 (by omega) (by omega) (by rw [e]; rfl) (by decide) (lawk_17 C I hl hB hc hs kk)
  replace h : 18 ≤ y.toInt := by omega
  clear e
  by_cases e : y.toInt = 18
  · exact lv_tableIn (off := 743) (tgt := 776) hx hb dL_law_33 (by omega) (by omega) (by rw [e]; rfl) (by decide) (lawk_18 C I hl hB hc hs kk)
  replace h : 19 ≤ y.toInt := by omega
  clear e
  by_cases e : y.toInt = 19
  · exact lv_tableIn (off := 756) (tgt := 789) hx hb dL_law_33 (by omega) (by omega) (by rw [e]; rfl) (by decide) (lawk_19 C I hl hB hc hs kk)
  replace h : 20 ≤ y.toInt := by omega
  clear e
  by_cases e : y.toInt = 20
  · exact lv_tableIn (off := 799) (tgt := 832) hx hb dL_law_33 (by omega) (by omega) (by rw [e]; rfl) (by decide) (lawk_20 C I hl hB hc hs kk)
  replace h : 21 ≤ y.toInt := by omega
  clear e
  by_cases e : y.toInt = 21
  · exact lv_tableIn (off := 822) (tgt := 855) hx hb dL_law_33 (by omega) (by omega) (by rw [e]; rfl) (by decide) (lawk_21 C I hl hB hc hs kk)
  replace h : 22 ≤ y.toInt := by omega
  clear e
  by_cases e : y.toInt = 22
  · exact lv_tableIn (off := 845) (tgt := 878) hx hb dL_law_33 (by omega) (by omega) (by rw [e]; rfl) (by decide) (lawk_22 C I hl hB hc hs kk)
  replace h : 23 ≤ y.toInt := by omega
  clear e
  by_cases e : y.toInt = 23
  · exact lv_tableIn (off := 868) (tgt := 901) hx hb dL_law_33 (by omega) (by omega) (by rw [e]; rfl) (by decide) (lawk_23 C I hl hB hc hs kk)
  replace h : 24 ≤ y.toInt := by omega
  clear e
  by_cases e : y.toInt = 24
  · exact lv_tableIn (off := 901) (tgt := 934) hx hb dL_law_33 (by omega) (by omega) (by rw [e]; rfl) (by decide) (lawk_24 C I hl hB hc hs kk)
  replace h : 25 ≤ y.toInt := by omega
  clear e
  by_cases e : y.toInt = 25
  · exact lv_tableIn (off := 924) (tgt := 957) hx hb dL_law_33 (by omega) (by omega) (by rw [e]; rfl) (by decide) (lawk_25 C I hl hB hc hs kk)
  replace h : 26 ≤ y.toInt := by omega
  clear e
  by_cases e : y.toInt = 26
  · exact lv_tableIn (off := 957) (tgt := 990) hx hb dL_law_33 (by omega) (by omega) (by rw [e]; rfl) (by decide) (lawk_26 C I hl hB hc hs kk)
  replace h : 27 ≤ y.toInt := by omega
  clear e
  by_cases e : y.toInt = 27
  · exact lv_tableIn (off := 970) (tgt := 1003) hx hb dL_law_33 (by omega) (by omega) (by rw [e]; rfl) (by decide) (lawk_27 C I hl hB hc hs kk)
  replace h : 28 ≤ y.toInt := by omega
  clear e
  by_cases e : y.toInt = 28
  · exact lv_tableIn (off := 1003) (tgt := 1036) hx hb dL_law_33 (by omega) (by omega) (by rw [e]; rfl) (by decide) (lawk_28 C I hl hB hc hs kk)
  replace h : 29 ≤ y.toInt := by omega
  clear e
  by_cases e : y.toInt = 29
  · exact lv_tableIn (off := 1036) (tgt := 1069) hx hb dL_law_33 (by omega) (by omega) (by rw [e]; rfl) (by decide) (lawk_29 C I hl hB hc hs kk)
  replace h : 30 ≤ y.toInt := by omega
  clear e
  by_cases e : y.toInt = 30
  · exact lv_tableIn (off := 1069) (tgt := 1102) hx hb dL_law_33 (by omega) (by omega) (by rw [e]; rfl) (by decide) (lawk_30 C I hl hB hc hs kk)
  replace h : 31 ≤ y.toInt := by omega
  clear e
  by_cases e : y.toInt = 31
  · exact lv_tableIn (off := 1082) (tgt := 1115) hx hb dL_law_33 (by omega) (by omega) (by rw [e]; rfl) (by decide) (lawk_31 C I hl hB hc hs kk)
  replace h : 32 ≤ y.toInt := by omega
  clear e
  by_cases e : y.toInt = 32
  · exact lv_tableIn (off := 1115) (tgt := 1148) hx hb dL_law_33 (by omega) (by omega) (by rw [e]; rfl) (by decide) (lawk_32 C I hl hB hc hs kk)
  replace h : 33 ≤ y.toInt := by omega
  clear e
  by_cases e : y.toInt = 33
  · exact lv_tableIn (off := 1128) (tgt := 1161) hx hb dL_law_33 (by omega) (by omega) (by rw [e]; rfl) (by decide) (lawk_33 C I hl hB hc hs kk)
  replace h : 34 ≤ y.toInt := by omega
  clear e
  by_cases e : y.toInt = 34
  · exact lv_tableIn (off := 1151) (tgt := 1184) hx hb dL_law_33 (by omega) (by omega) (by rw [e]; rfl) (by decide) (lawk_34 C I hl hB hc hs kk)
  replace h : 35 ≤ y.toInt := by omega
  clear e
  by_cases e : y.toInt = 35
  · exact lv_tableIn (off := 1194) (tgt := 1227) hx hb dL_law_33 (by omega) (by omega) (by rw [e]; rfl) (by decide) (lawk_35 C I hl hB hc hs kk)
  replace h : 36 ≤ y.toInt := by omega
  clear e
  by_cases e : y.toInt = 36
  · exact lv_tableIn (off := 1217) (tgt := 1250) hx hb dL_law_33 (by omega) (by omega) (by rw [e]; rfl) (by decide) (lawk_36 C I hl hB hc hs kk)
  replace h : 37 ≤ y.toInt := by omega
  clear e
  by_cases e : y.toInt = 37
  · exact lv_tableIn (off := 1240) (tgt := 1273) hx hb dL_law_33 (by omega) (by omega) (by rw [e]; rfl) (by decide) (lawk_37 C I hl hB hc hs kk)
  replace h : 38 ≤ y.toInt := by omega
  clear e
  exact absurd h (by omega)
end LAWK
set_option maxHeartbeats 4000000 in
set_option maxRecDepth 100000 in
theorem law_loop {p : Program} {l : Launch} {e : Env} {s : State} {m : MethodId} {below : List Frame} {meth : Method} {c : Code} {b L : Nat} {xs : Nat → Int32} {D : hp_D} {a am : Nat} (hL : L ≤ 3072) (hr : meth.sig.returnType = ret) (hlocks : meth.locks = false) (C : lawC p s m c b L xs D) :
    ∀ (f n : Nat), 6 * n ≤ L → L < 6 * (n + f) → ∀ (H : Heap) (locs : List Loc) (ls : Array Slot), lawI D s a am H locs → lv_has ls 4 [(0, .ref b), (1, .ref a), (2, .ref am), (3, .int (nI (6 * n)))] → W p l e room_1 s m #[Value.ref b] below meth c H locs (75 + 13 * n) (38804 + 402 * n) (lw_Z below #[Value.ref b] s) (F0 m 18 ls []) := by
  have hx := C.1.1
  have hb := C.1.2.1
  have hX := C.2.1
  have hbl := C.2.2.1
  have hbA : ¬ (fun q : Nat => s.heap.size ≤ q) b := Nat.not_le.mpr hbl
  intro f
  induction f with
  | zero =>
    intro n h1 h2
    exact absurd h2 (by omega)
  | succ f ih =>
    intro n h6 hf H locs ls I hl
    have hn : n ≤ 512 := by omega
    have hS : va_S (fun q : Nat => s.heap.size ≤ q) s.heap H locs := by
      obtain ⟨Tc, Tm, Am, Ru, A, x, G, X, M, tp, tr, rr, rl, nw, im, tl, sk, iq, pa, sn, be, w, -⟩ := id I
      exact w.2.2.2.2.2
    refine lv_iload_n hx hb dL_law_18 rfl (lv_at hl 3 rfl) ?_
    refine lv_aload_n hx hb dL_law_19 rfl (lv_at hl 0 rfl) ?_
    refine va_slen hx hb hX hbl hbA hS dL_law_20 ?_
    refine lv_bipush (v := 6) hx hb dL_law_21 (by decide) ?_
    refine lv_isub hx hb dL_law_23 ?_
    refine lv_topi (fun y ey => ?_)
    have eL : y.toInt = (L : Int) - 6 := by
      have h := iv_sub_eq (a := nI L) (b := 6) (la := 0) (ua := 3072) (lb := 6) (ub := 6) (iv_nI (by omega) (by omega) (by omega)) ⟨by decide +kernel, by decide +kernel⟩ ey ⟨by decide, by decide⟩
      rw [nI_toInt (by omega), show (6 : Int32).toInt = 6 by decide +kernel] at h
      exact h
    have ei : (nI (6 * n)).toInt = ((6 * n : Nat) : Int) := nI_toInt (by omega)
    refine lv_icmp_gt (tgt := 1302) hx hb dL_law_24 (by decide) (fun c1 => ?_) (fun c1 => ?_)
    · refine lv_iconst (v := 1) hx hb dL_law_1302 (by decide) ?_
      refine va_forget (fun q hq => hS.2.2 q hq) ?_
      refine W.widen (k := 600000) (n := 7302250) (by omega) (by omega) ?_
      exact lw_ret hx hb hr hlocks dL_law_1303
    · have h66 : 6 * n + 6 ≤ L := by
        have h := Int32.not_lt.mp c1
        rw [Int32.le_iff_toInt_le, eL, ei] at h
        omega
      have hB : lawB (nI (6 * n)) L := ⟨law_in (k := 1) (by omega) (by omega), law_in (k := 2) (by omega) (by omega), law_in (k := 3) (by omega) (by omega), law_in (k := 4) (by omega) (by omega), law_in (k := 5) (by omega) (by omega)⟩
      refine lv_aload_n hx hb dL_law_27 rfl (lv_at hl 0 rfl) ?_
      refine lv_iload_n hx hb dL_law_28 rfl (lv_at hl 3 rfl) ?_
      refine va_sld hx hb hX hbl hbA hS (vp_in_nI (by omega) (by omega)) dL_law_29 ?_
      refine lv_bipush (v := 63) hx hb dL_law_30 (by decide) ?_
      refine lv_iand hx hb dL_law_32 ?_
      refine law_sw C I hl hB (by omega) (by omega) (fun H1 locs1 I1 => ?_)
      refine lv_iinc (k := 3) (v := nI (6 * (n + 1))) (lv' := [(3, .int (nI (6 * (n + 1)))), (0, .ref b), (1, .ref a), (2, .ref am)]) hx hb dL_law_1296 hl rfl (by rw [show Int32.ofInt 6 = nI 6 by decide +kernel, nI_add, show 6 * n + 6 = 6 * (n + 1) by omega]) (by decide) rfl (fun ls hl => ?_)
      refine lv_goto (tgt := 18) hx hb dL_law_1299 (by decide) ?_
      refine W.widen (k := 75 + 13 * (n + 1)) (n := 38804 + 402 * (n + 1)) (by omega) (by omega) ?_
      exact ih (n + 1) (by omega) (by omega) H1 locs1 ls I1 (lv_sub hl [1, 2, 3, 0] rfl)
