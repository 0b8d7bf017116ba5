section LAWK
variable {p : Program} {l : Launch} {e : Env} {s : State} {m : MethodId} {below : List Frame} {meth : Method} {c : Code} {b L : Nat} {xs : Nat → Int32} {D : hp_D} {H : Heap} {locs : List Loc} {cells slots : Nat} {Q : State → Prop}
variable {pc : Nat} {ls : Array Slot} {rest : List Value} {a am : Nat} {i : Int32} {Tc Tm : hp_T} {Am Ru : Nat → Prop} {A : Nat → Nat} {x : Int32} {G : Nat → Option (Nat × Int32)} {X M : Nat → Int32} {tp tr rr rl nw im tl sk iq pa sn be : Nat}
set_option maxHeartbeats 4000000 in
set_option maxRecDepth 100000 in
theorem lawk_10 (C : lawC p s m c b L xs D) (I : lawI D s a am H locs) (hl : lv_has ls 4 [(0, .ref b), (1, .ref a), (2, .ref am), (3, .int i)]) (hB : lawB i L) (hc : cells + 13 ≤ 600000) (hs : slots + 402 ≤ 7302250) (kk : ∀ (H1 : Heap) (locs1 : List Loc), lawI D s a am H1 locs1 → W p l e room_1 s m #[Value.ref b] below meth c H1 locs1 (cells + 13) (slots + 402) Q (F0 m 1296 ls [])) : W p l e room_1 s m #[Value.ref b] below meth c H locs cells slots Q (F0 m 510 ls []) := by
  obtain ⟨Tc, Tm, Am, Ru, A, x, G, X, M, tp, tr, rr, rl, nw, im, tl, sk, iq, pa, sn, be, w, hP, hm, hAB, hGX, hMj⟩ := I
  obtain ⟨b1, b2, b3, b4, b5⟩ := hB
  have hx := C.1.1
  have hb := C.1.2.1
  refine lv_aload_n hx hb dL_law_510 rfl (lv_at hl 1 rfl) ?_
  refine law_ld C w.2.2.2.2.2 hl (k := 1) (by decide) b1 dL_law_511 dL_law_512 dL_law_513 dL_law_514 dL_law_515 ?_
  refine law_ld C w.2.2.2.2.2 hl (k := 2) (by decide) b2 dL_law_516 dL_law_517 dL_law_518 dL_law_519 dL_law_520 ?_
  refine law_xc (Rc := fun T1 => pcS T1 Ru a tp tr rr rl nw im tl sk iq pa sn be (rV (.int x)) G) C w hP hl.1 (lX11_heard l D Tc (lawA s Am) x hP w.2.2.1 (xs (i + 1).toNatClampNeg) (xs (i + 2).toNatClampNeg)) (cwV 2 C.1.2.2.2.2 gL_law_X11_heard rfl rfl rfl (by decide +kernel) ⟨Nat.le_of_ble_eq_true rfl, Nat.le_of_ble_eq_true rfl⟩) (fun _ _ _ _ h => h) rfl rfl dL_law_521 dL_law_524 (by omega) (by omega) (fun T1 H1 locs1 w hP => ?_)
  refine lv_aload_n hx hb dL_law_525 rfl (lv_at hl 2 rfl) ?_
  refine law_ld C w.2.2.2.2.2 hl (k := 1) (by decide) b1 dL_law_526 dL_law_527 dL_law_528 dL_law_529 dL_law_530 ?_
  refine law_ld C w.2.2.2.2.2 hl (k := 2) (by decide) b2 dL_law_531 dL_law_532 dL_law_533 dL_law_534 dL_law_535 ?_
  refine law_xm (Rm := fun T2 => mW T2 am A x X M) C w hm hl.1 (lX12_heard l D Tm am A x X M hm (xs (i + 1).toNatClampNeg) (xs (i + 2).toNatClampNeg)) (cwV 2 C.1.2.2.2.2 gL_law_X12_heard rfl rfl rfl (by decide +kernel) ⟨Nat.le_of_ble_eq_true rfl, Nat.le_of_ble_eq_true rfl⟩) (fun _ _ h => h) rfl rfl dL_law_536 dL_law_539 (by omega) (by omega) (fun T2 H2 locs2 w hm => ?_)
  refine lv_goto (tgt := 1296) hx hb dL_law_540 (by decide) ?_
  refine W.widen (k := cells + 13) (n := slots + 402) (by omega) (by omega) ?_
  exact kk H2 locs2 ⟨T1, T2, Am, Ru, A, x, G, X, M, tp, tr, rr, rl, nw, im, tl, sk, iq, pa, sn, be, w, hP, hm, hAB, hGX, hMj⟩
set_option maxHeartbeats 4000000 in
set_option maxRecDepth 100000 in
theorem lawk_11 (C : lawC p s m c b L xs D) (I : lawI D s a am H locs) (hl : lv_has ls 4 [(0, .ref b), (1, .ref a), (2, .ref am), (3, .int i)]) (hB : lawB i L) (hc : cells + 13 ≤ 600000) (hs : slots + 402 ≤ 7302250) (kk : ∀ (H1 : Heap) (locs1 : List Loc), lawI D s a am H1 locs1 → W p l e room_1 s m #[Value.ref b] below meth c H1 locs1 (cells + 13) (slots + 402) Q (F0 m 1296 ls [])) : W p l e room_1 s m #[Value.ref b] below meth c H locs cells slots Q (F0 m 543 ls []) := by
  obtain ⟨Tc, Tm, Am, Ru, A, x, G, X, M, tp, tr, rr, rl, nw, im, tl, sk, iq, pa, sn, be, w, hP, hm, hAB, hGX, hMj⟩ := I
  obtain ⟨b1, b2, b3, b4, b5⟩ := hB
  have hx := C.1.1
  have hb := C.1.2.1
  refine lv_aload_n hx hb dL_law_543 rfl (lv_at hl 1 rfl) ?_
  refine law_xc (Rc := fun T1 => pcS T1 Ru a tp tr rr rl nw im tl sk iq pa sn be (rV (.int x)) G) C w hP hl.1 (lX11_total l D Tc (lawA s Am) x hP w.2.2.1) (cwV 0 C.1.2.2.2.2 gL_law_X11_total rfl rfl rfl (by decide +kernel) ⟨Nat.le_of_ble_eq_true rfl, Nat.le_of_ble_eq_true rfl⟩) (fun _ _ _ _ h => h) rfl rfl dL_law_544 dL_law_547 (by omega) (by omega) (fun T1 H1 locs1 w hP => ?_)
  refine lv_aload_n hx hb dL_law_548 rfl (lv_at hl 2 rfl) ?_
  refine law_xm (Rm := fun T2 => mW T2 am A x X M) C w hm hl.1 (lX12_total l D Tm am A x X M hm) (cwV 0 C.1.2.2.2.2 gL_law_X12_total rfl rfl rfl (by decide +kernel) ⟨Nat.le_of_ble_eq_true rfl, Nat.le_of_ble_eq_true rfl⟩) (fun _ _ h => h) rfl rfl dL_law_549 dL_law_552 (by omega) (by omega) (fun T2 H2 locs2 w hm => ?_)
  refine lv_goto (tgt := 1296) hx hb dL_law_553 (by decide) ?_
  refine W.widen (k := cells + 13) (n := slots + 402) (by omega) (by omega) ?_
  exact kk H2 locs2 ⟨T1, T2, Am, Ru, A, x, G, X, M, tp, tr, rr, rl, nw, im, tl, sk, iq, pa, sn, be, w, hP, hm, hAB, hGX, hMj⟩
set_option maxHeartbeats 4000000 in
set_option maxRecDepth 100000 in
theorem lawk_12 (C : lawC p s m c b L xs D) (I : lawI D s a am H locs) (hl : lv_has ls 4 [(0, .ref b), (1, .ref a), (2, .ref am), (3, .int i)]) (hB : lawB i L) (hc : cells + 13 ≤ 600000) (hs : slots + 402 ≤ 7302250) (kk : ∀ (H1 : Heap) (locs1 : List Loc), lawI D s a am H1 locs1 → W p l e room_1 s m #[Value.ref b] below meth c H1 locs1 (cells + 13) (slots + 402) Q (F0 m 1296 ls [])) : W p l e room_1 s m #[Value.ref b] below meth c H locs cells slots Q (F0 m 556 ls []) := by
  obtain ⟨Tc, Tm, Am, Ru, A, x, G, X, M, tp, tr, rr, rl, nw, im, tl, sk, iq, pa, sn, be, w, hP, hm, hAB, hGX, hMj⟩ := I
  obtain ⟨b1, b2, b3, b4, b5⟩ := hB
  have hx := C.1.1
  have hb := C.1.2.1
  refine lv_aload_n hx hb dL_law_556 rfl (lv_at hl 1 rfl) ?_
  refine law_ld C w.2.2.2.2.2 hl (k := 1) (by decide) b1 dL_law_557 dL_law_558 dL_law_559 dL_law_560 dL_law_561 ?_
  refine law_ld C w.2.2.2.2.2 hl (k := 2) (by decide) b2 dL_law_562 dL_law_563 dL_law_564 dL_law_565 dL_law_566 ?_
  refine law_ld C w.2.2.2.2.2 hl (k := 3) (by decide) b3 dL_law_567 dL_law_568 dL_law_569 dL_law_570 dL_law_571 ?_
  refine law_xc (Rc := fun T1 => pcS T1 Ru a tp tr rr rl nw im tl sk iq pa sn be (rV (.int x)) G) C w hP hl.1 (lX11_street l D Tc (lawA s Am) x hP w.2.2.1 (xs (i + 1).toNatClampNeg) (xs (i + 2).toNatClampNeg) (xs (i + 3).toNatClampNeg)) (cwV 3 C.1.2.2.2.2 gL_law_X11_street rfl rfl rfl (by decide +kernel) ⟨Nat.le_of_ble_eq_true rfl, Nat.le_of_ble_eq_true rfl⟩) (fun _ _ _ _ h => h) rfl rfl dL_law_572 dL_law_575 (by omega) (by omega) (fun T1 H1 locs1 w hP => ?_)
  refine lv_aload_n hx hb dL_law_576 rfl (lv_at hl 2 rfl) ?_
  refine law_ld C w.2.2.2.2.2 hl (k := 1) (by decide) b1 dL_law_577 dL_law_578 dL_law_579 dL_law_580 dL_law_581 ?_
  refine law_ld C w.2.2.2.2.2 hl (k := 2) (by decide) b2 dL_law_582 dL_law_583 dL_law_584 dL_law_585 dL_law_586 ?_
  refine law_ld C w.2.2.2.2.2 hl (k := 3) (by decide) b3 dL_law_587 dL_law_588 dL_law_589 dL_law_590 dL_law_591 ?_
  refine law_xm (Rm := fun T2 => mW T2 am A x X M) C w hm hl.1 (lX12_street l D Tm am A x X M hm (xs (i + 1).toNatClampNeg) (xs (i + 2).toNatClampNeg) (xs (i + 3).toNatClampNeg)) (cwV 3 C.1.2.2.2.2 gL_law_X12_street rfl rfl rfl (by decide +kernel) ⟨Nat.le_of_ble_eq_true rfl, Nat.le_of_ble_eq_true rfl⟩) (fun _ _ h => h) rfl rfl dL_law_592 dL_law_595 (by omega) (by omega) (fun T2 H2 locs2 w hm => ?_)
  refine lv_goto (tgt := 1296) hx hb dL_law_596 (by decide) ?_
  refine W.widen (k := cells + 13) (n := slots + 402) (by omega) (by omega) ?_
  exact kk H2 locs2 ⟨T1, T2, Am, Ru, A, x, G, X, M, tp, tr, rr, rl, nw, im, tl, sk, iq, pa, sn, be, w, hP, hm, hAB, hGX, hMj⟩
set_option maxHeartbeats 4000000 in
set_option maxRecDepth 100000 in
theorem lawk_13 (C : lawC p s m c b L xs D) (I : lawI D s a am H locs) (hl : lv_has ls 4 [(0, .ref b), (1, .ref a), (2, .ref am), (3, .int i)]) (hB : lawB i L) (hc : cells + 13 ≤ 600000) (hs : slots + 402 ≤ 7302250) (kk : ∀ (H1 : Heap) (locs1 : List Loc), lawI D s a am H1 locs1 → W p l e room_1 s m #[Value.ref b] below meth c H1 locs1 (cells + 13) (slots + 402) Q (F0 m 1296 ls [])) : W p l e room_1 s m #[Value.ref b] below meth c H locs cells slots Q (F0 m 599 ls []) := by
  obtain ⟨Tc, Tm, Am, Ru, A, x, G, X, M, tp, tr, rr, rl, nw, im, tl, sk, iq, pa, sn, be, w, hP, hm, hAB, hGX, hMj⟩ := I
  obtain ⟨b1, b2, b3, b4, b5⟩ := hB
  have hx := C.1.1
  have hb := C.1.2.1
  refine lv_aload_n hx hb dL_law_599 rfl (lv_at hl 1 rfl) ?_
  refine law_ld C w.2.2.2.2.2 hl (k := 1) (by decide) b1 dL_law_600 dL_law_601 dL_law_602 dL_law_603 dL_law_604 ?_
  refine law_xc (Rc := fun T1 => pcS T1 Ru a tp tr rr rl nw im tl sk iq pa sn be (rV (.int x)) G) C w hP hl.1 (lX11_busy l D Tc (lawA s Am) x hP w.2.2.1 (xs (i + 1).toNatClampNeg)) (cwV 1 C.1.2.2.2.2 gL_law_X11_busy rfl rfl rfl (by decide +kernel) ⟨Nat.le_of_ble_eq_true rfl, Nat.le_of_ble_eq_true rfl⟩) (fun _ _ _ _ h => h) rfl rfl dL_law_605 dL_law_608 (by omega) (by omega) (fun T1 H1 locs1 w hP => ?_)
  refine lv_aload_n hx hb dL_law_609 rfl (lv_at hl 2 rfl) ?_
  refine law_ld C w.2.2.2.2.2 hl (k := 1) (by decide) b1 dL_law_610 dL_law_611 dL_law_612 dL_law_613 dL_law_614 ?_
  refine law_xm (Rm := fun T2 => mW T2 am A x X M) C w hm hl.1 (lX12_busy l D Tm am A x X M hm (xs (i + 1).toNatClampNeg)) (cwV 1 C.1.2.2.2.2 gL_law_X12_busy rfl rfl rfl (by decide +kernel) ⟨Nat.le_of_ble_eq_true rfl, Nat.le_of_ble_eq_true rfl⟩) (fun _ _ h => h) rfl rfl dL_law_615 dL_law_618 (by omega) (by omega) (fun T2 H2 locs2 w hm => ?_)
  refine lv_goto (tgt := 1296) hx hb dL_law_619 (by decide) ?_
  refine W.widen (k := cells + 13) (n := slots + 402) (by omega) (by omega) ?_
  exact kk H2 locs2 ⟨T1, T2, Am, Ru, A, x, G, X, M, tp, tr, rr, rl, nw, im, tl, sk, iq, pa, sn, be, w, hP, hm, hAB, hGX, hMj⟩
set_option maxHeartbeats 4000000 in
set_option maxRecDepth 100000 in
theorem lawk_14 (C : lawC p s m c b L xs D) (I : lawI D s a am H locs) (hl : lv_has ls 4 [(0, .ref b), (1, .ref a), (2, .ref am), (3, .int i)]) (hB : lawB i L) (hc : cells + 13 ≤ 600000) (hs : slots + 402 ≤ 7302250) (kk : ∀ (H1 : Heap) (locs1 : List Loc), lawI D s a am H1 locs1 → W p l e room_1 s m #[Value.ref b] below meth c H1 locs1 (cells + 13) (slots + 402) Q (F0 m 1296 ls [])) : W p l e room_1 s m #[Value.ref b] below meth c H locs cells slots Q (F0 m 622 ls []) := by
  obtain ⟨Tc, Tm, Am, Ru, A, x, G, X, M, tp, tr, rr, rl, nw, im, tl, sk, iq, pa, sn, be, w, hP, hm, hAB, hGX, hMj⟩ := I
  obtain ⟨b1, b2, b3, b4, b5⟩ := hB
  have hx := C.1.1
  have hb := C.1.2.1
  refine lv_aload_n hx hb dL_law_622 rfl (lv_at hl 1 rfl) ?_
  refine law_ld C w.2.2.2.2.2 hl (k := 1) (by decide) b1 dL_law_623 dL_law_624 dL_law_625 dL_law_626 dL_law_627 ?_
  refine law_ld C w.2.2.2.2.2 hl (k := 2) (by decide) b2 dL_law_628 dL_law_629 dL_law_630 dL_law_631 dL_law_632 ?_
  refine law_ld C w.2.2.2.2.2 hl (k := 3) (by decide) b3 dL_law_633 dL_law_634 dL_law_635 dL_law_636 dL_law_637 ?_
  refine law_xc (Rc := fun T1 => pcS T1 Ru a tp tr rr rl nw im tl sk iq pa sn be (rV (.int x)) G) C w hP hl.1 (lX11_go l D Tc (lawA s Am) x hP w.2.2.1 (xs (i + 1).toNatClampNeg) (xs (i + 2).toNatClampNeg) (xs (i + 3).toNatClampNeg)) (cwV 3 C.1.2.2.2.2 gL_law_X11_go rfl rfl rfl (by decide +kernel) ⟨Nat.le_of_ble_eq_true rfl, Nat.le_of_ble_eq_true rfl⟩) (fun _ _ _ _ h => h) rfl rfl dL_law_638 dL_law_641 (by omega) (by omega) (fun T1 H1 locs1 w hP => ?_)
  refine lv_aload_n hx hb dL_law_642 rfl (lv_at hl 2 rfl) ?_
  refine law_ld C w.2.2.2.2.2 hl (k := 1) (by decide) b1 dL_law_643 dL_law_644 dL_law_645 dL_law_646 dL_law_647 ?_
  refine law_ld C w.2.2.2.2.2 hl (k := 2) (by decide) b2 dL_law_648 dL_law_649 dL_law_650 dL_law_651 dL_law_652 ?_
  refine law_ld C w.2.2.2.2.2 hl (k := 3) (by decide) b3 dL_law_653 dL_law_654 dL_law_655 dL_law_656 dL_law_657 ?_
  refine law_xm (Rm := fun T2 => mW T2 am A x X M) C w hm hl.1 (lX12_go l D Tm am A x X M hm (xs (i + 1).toNatClampNeg) (xs (i + 2).toNatClampNeg) (xs (i + 3).toNatClampNeg)) (cwV 3 C.1.2.2.2.2 gL_law_X12_go rfl rfl rfl (by decide +kernel) ⟨Nat.le_of_ble_eq_true rfl, Nat.le_of_ble_eq_true rfl⟩) (fun _ _ h => h) rfl rfl dL_law_658 dL_law_661 (by omega) (by omega) (fun T2 H2 locs2 w hm => ?_)
  refine lv_goto (tgt := 1296) hx hb dL_law_662 (by decide) ?_
  refine W.widen (k := cells + 13) (n := slots + 402) (by omega) (by omega) ?_
  exact kk H2 locs2 ⟨T1, T2, Am, Ru, A, x, G, X, M, tp, tr, rr, rl, nw, im, tl, sk, iq, pa, sn, be, w, hP, hm, hAB, hGX, hMj⟩
set_option maxHeartbeats 4000000 in
set_option maxRecDepth 100000 in
theorem lawk_15 (C : lawC p s m c b L xs D) (I : lawI D s a am H locs) (hl : lv_has ls 4 [(0, .ref b), (1, .ref a), (2, .ref am), (3, .int i)]) (hB : lawB i L) (hc : cells + 13 ≤ 600000) (hs : slots + 402 ≤ 7302250) (kk : ∀ (H1 : Heap) (locs1 : List Loc), lawI D s a am H1 locs1 → W p l e room_1 s m #[Value.ref b] below meth c H1 locs1 (cells + 13) (slots + 402) Q (F0 m 1296 ls [])) : W p l e room_1 s m #[Value.ref b] below meth c H locs cells slots Q (F0 m 665 ls []) := by
  obtain ⟨Tc, Tm, Am, Ru, A, x, G, X, M, tp, tr, rr, rl, nw, im, tl, sk, iq, pa, sn, be, w, hP, hm, hAB, hGX, hMj⟩ := I
  obtain ⟨b1, b2, b3, b4, b5⟩ := hB
  have hx := C.1.1
  have hb := C.1.2.1
  refine lv_aload_n hx hb dL_law_665 rfl (lv_at hl 1 rfl) ?_
  refine law_ld C w.2.2.2.2.2 hl (k := 1) (by decide) b1 dL_law_666 dL_law_667 dL_law_668 dL_law_669 dL_law_670 ?_
  refine law_ld C w.2.2.2.2.2 hl (k := 2) (by decide) b2 dL_law_671 dL_law_672 dL_law_673 dL_law_674 dL_law_675 ?_
  refine law_bl C dL_law_676 dL_law_679 dL_law_680 dL_law_683 (fun z1 iz1 => ?_)
  refine law_xc (Rc := fun T1 => pcS T1 Ru a tp tr rr rl nw im tl sk iq pa sn be (rV (.int x)) G) C w hP hl.1 (lX11_glove l D Tc (lawA s Am) x hP w.2.2.1 (xs (i + 1).toNatClampNeg) z1 iz1) (cwV 2 C.1.2.2.2.2 gL_law_X11_glove rfl rfl rfl (by decide +kernel) ⟨Nat.le_of_ble_eq_true rfl, Nat.le_of_ble_eq_true rfl⟩) (fun _ _ _ _ h => h) rfl rfl dL_law_684 dL_law_687 (by omega) (by omega) (fun T1 H1 locs1 w hP => ?_)
  refine lv_aload_n hx hb dL_law_688 rfl (lv_at hl 2 rfl) ?_
  refine law_ld C w.2.2.2.2.2 hl (k := 1) (by decide) b1 dL_law_689 dL_law_690 dL_law_691 dL_law_692 dL_law_693 ?_
  refine law_ld C w.2.2.2.2.2 hl (k := 2) (by decide) b2 dL_law_694 dL_law_695 dL_law_696 dL_law_697 dL_law_698 ?_
  refine law_bl C dL_law_699 dL_law_702 dL_law_703 dL_law_706 (fun z2 iz2 => ?_)
  refine law_xm (Rm := fun T2 => mW T2 am A x X M) C w hm hl.1 (lX12_glove l D Tm am A x X M hm (xs (i + 1).toNatClampNeg) z2 iz2) (cwV 2 C.1.2.2.2.2 gL_law_X12_glove rfl rfl rfl (by decide +kernel) ⟨Nat.le_of_ble_eq_true rfl, Nat.le_of_ble_eq_true rfl⟩) (fun _ _ h => h) rfl rfl dL_law_707 dL_law_710 (by omega) (by omega) (fun T2 H2 locs2 w hm => ?_)
  refine lv_goto (tgt := 1296) hx hb dL_law_711 (by decide) ?_
  refine W.widen (k := cells + 13) (n := slots + 402) (by omega) (by omega) ?_
  exact kk H2 locs2 ⟨T1, T2, Am, Ru, A, x, G, X, M, tp, tr, rr, rl, nw, im, tl, sk, iq, pa, sn, be, w, hP, hm, hAB, hGX, hMj⟩
set_option maxHeartbeats 4000000 in
set_option maxRecDepth 100000 in
theorem lawk_16 (C : lawC p s m c b L xs D) (I : lawI D s a am H locs) (hl : lv_has ls 4 [(0, .ref b), (1, .ref a), (2, .ref am), (3, .int i)]) (hB : lawB i L) (hc : cells + 13 ≤ 600000) (hs : slots + 402 ≤ 7302250) (kk : ∀ (H1 : Heap) (locs1 : List Loc), lawI D s a am H1 locs1 → W p l e room_1 s m #[Value.ref b] below meth c H1 locs1 (cells + 13) (slots + 402) Q (F0 m 1296 ls [])) : W p l e room_1 s m #[Value.ref b] below meth c H locs cells slots Q (F0 m 714 ls []) := by
  obtain ⟨Tc, Tm, Am, Ru, A, x, G, X, M, tp, tr, rr, rl, nw, im, tl, sk, iq, pa, sn, be, w, hP, hm, hAB, hGX, hMj⟩ := I
  obtain ⟨b1, b2, b3, b4, b5⟩ := hB
  have hx := C.1.1
  have hb := C.1.2.1
  refine lv_aload_n hx hb dL_law_714 rfl (lv_at hl 1 rfl) ?_
  refine law_ld C w.2.2.2.2.2 hl (k := 1) (by decide) b1 dL_law_715 dL_law_716 dL_law_717 dL_law_718 dL_law_719 ?_
  refine law_ld C w.2.2.2.2.2 hl (k := 2) (by decide) b2 dL_law_720 dL_law_721 dL_law_722 dL_law_723 dL_law_724 ?_
  refine law_bl C dL_law_725 dL_law_728 dL_law_729 dL_law_732 (fun z1 iz1 => ?_)
  refine law_xc (Rc := fun T1 => pcS T1 Ru a tp tr rr rl nw im tl sk iq pa sn be (rV (.int x)) G) C w hP hl.1 (lX11_counter l D Tc (lawA s Am) x hP w.2.2.1 (xs (i + 1).toNatClampNeg) z1 iz1) (cwV 2 C.1.2.2.2.2 gL_law_X11_counter rfl rfl rfl (by decide +kernel) ⟨Nat.le_of_ble_eq_true rfl, Nat.le_of_ble_eq_true rfl⟩) (fun _ _ _ _ h => h) rfl rfl dL_law_733 dL_law_736 (by omega) (by omega) (fun T1 H1 locs1 w hP => ?_)
  refine lv_aload_n hx hb dL_law_737 rfl (lv_at hl 2 rfl) ?_
  refine law_ld C w.2.2.2.2.2 hl (k := 1) (by decide) b1 dL_law_738 dL_law_739 dL_law_740 dL_law_741 dL_law_742 ?_
  refine law_ld C w.2.2.2.2.2 hl (k := 2) (by decide) b2 dL_law_743 dL_law_744 dL_law_745 dL_law_746 dL_law_747 ?_
  refine law_bl C dL_law_748 dL_law_751 dL_law_752 dL_law_755 (fun z2 iz2 => ?_)
  refine law_xm (Rm := fun T2 => mW T2 am A x X M) C w hm hl.1 (lX12_counter l D Tm am A x X M hm (xs (i + 1).toNatClampNeg) z2 iz2) (cwV 2 C.1.2.2.2.2 gL_law_X12_counter rfl rfl rfl (by decide +kernel) ⟨Nat.le_of_ble_eq_true rfl, Nat.le_of_ble_eq_true rfl⟩) (fun _ _ h => h) rfl rfl dL_law_756 dL_law_759 (by omega) (by omega) (fun T2 H2 locs2 w hm => ?_)
  refine lv_goto (tgt := 1296) hx hb dL_law_760 (by decide) ?_
  refine W.widen (k := cells + 13) (n := slots + 402) (by omega) (by omega) ?_
  exact kk H2 locs2 ⟨T1, T2, Am, Ru, A, x, G, X, M, tp, tr, rr, rl, nw, im, tl, sk, iq, pa, sn, be, w, hP, hm, hAB, hGX, hMj⟩
set_option maxHeartbeats 4000000 in
set_option maxRecDepth 100000 in
theorem lawk_17 (C : lawC p s m c b L xs D) (I : lawI D s a am H locs) (hl : lv_has ls 4 [(0, .ref b), (1, .ref a), (2, .ref am), (3, .int i)]) (hB : lawB i L) (hc : cells + 13 ≤ 600000) (hs : slots + 402 ≤ 7302250) (kk : ∀ (H1 : Heap) (locs1 : List Loc), lawI D s a am H1 locs1 → W p l e room_1 s m #[Value.ref b] below meth c H1 locs1 (cells + 13) (slots + 402) Q (F0 m 1296 ls [])) : W p l e room_1 s m #[Value.ref b] below meth c H locs cells slots Q (F0 m 763 ls []) := by
  obtain ⟨Tc, Tm, Am, Ru, A, x, G, X, M, tp, tr, rr, rl, nw, im, tl, sk, iq, pa, sn, be, w, hP, hm, hAB, hGX, hMj⟩ := I
  obtain ⟨b1, b2, b3, b4, b5⟩ := hB
  have hx := C.1.1
  have hb := C.1.2.1
  refine lv_aload_n hx hb dL_law_763 rfl (lv_at hl 1 rfl) ?_
  refine law_xc (Rc := fun T1 => pcS T1 Ru a tp tr rr rl nw im tl sk iq pa sn be (rV (.int x)) G) C w hP hl.1 (lX11_night l D Tc (lawA s Am) x hP w.2.2.1) (cwV 0 C.1.2.2.2.2 gL_law_X11_night rfl rfl rfl (by decide +kernel) ⟨Nat.le_of_ble_eq_true rfl, Nat.le_of_ble_eq_true rfl⟩) (fun _ _ _ _ h => h) rfl rfl dL_law_764 dL_law_767 (by omega) (by omega) (fun T1 H1 locs1 w hP => ?_)
  refine lv_aload_n hx hb dL_law_768 rfl (lv_at hl 2 rfl) ?_
  refine law_xm (Rm := fun T2 => mW T2 am A x X M) C w hm hl.1 (lX12_night l D Tm am A x X M hm) (cwV 0 C.1.2.2.2.2 gL_law_X12_night rfl rfl rfl (by decide +kernel) ⟨Nat.le_of_ble_eq_true rfl, Nat.le_of_ble_eq_true rfl⟩) (fun _ _ h => h) rfl rfl dL_law_769 dL_law_772 (by omega) (by omega) (fun T2 H2 locs2 w hm => ?_)
  refine lv_goto (tgt := 1296) hx hb dL_law_773 (by decide) ?_
  refine W.widen (k := cells + 13) (n := slots + 402) (by omega) (by omega) ?_
  exact kk H2 locs2 ⟨T1, T2, Am, Ru, A, x, G, X, M, tp, tr, rr, rl, nw, im, tl, sk, iq, pa, sn, be, w, hP, hm, hAB, hGX, hMj⟩
set_option maxHeartbeats 4000000 in
set_option maxRecDepth 100000 in
theorem lawk_18 (C : lawC p s m c b L xs D) (I : lawI D s a am H locs) (hl : lv_has ls 4 [(0, .ref b), (1, .ref a), (2, .ref am), (3, .int i)]) (hB : lawB i L) (hc : cells + 13 ≤ 600000) (hs : slots + 402 ≤ 7302250) (kk : ∀ (H1 : Heap) (locs1 : List Loc), lawI D s a am H1 locs1 → W p l e room_1 s m #[Value.ref b] below meth c H1 locs1 (cells + 13) (slots + 402) Q (F0 m 1296 ls [])) : W p l e room_1 s m #[Value.ref b] below meth c H locs cells slots Q (F0 m 776 ls []) := by
  obtain ⟨Tc, Tm, Am, Ru, A, x, G, X, M, tp, tr, rr, rl, nw, im, tl, sk, iq, pa, sn, be, w, hP, hm, hAB, hGX, hMj⟩ := I
  obtain ⟨b1, b2, b3, b4, b5⟩ := hB
  have hx := C.1.1
  have hb := C.1.2.1
  refine lv_aload_n hx hb dL_law_776 rfl (lv_at hl 1 rfl) ?_
  refine law_xc (Rc := fun T1 => pcS T1 Ru a tp tr rr rl nw im tl sk iq pa sn be (rV (.int x)) G) C w hP hl.1 (lX11_undo l D Tc (lawA s Am) x hP w.2.2.1) (cwV 0 C.1.2.2.2.2 gL_law_X11_undo rfl rfl rfl (by decide +kernel) ⟨Nat.le_of_ble_eq_true rfl, Nat.le_of_ble_eq_true rfl⟩) (fun _ _ _ _ h => h) rfl rfl dL_law_777 dL_law_780 (by omega) (by omega) (fun T1 H1 locs1 w hP => ?_)
  refine lv_aload_n hx hb dL_law_781 rfl (lv_at hl 2 rfl) ?_
  refine law_xm (Rm := fun T2 => mW T2 am A x X M) C w hm hl.1 (lX12_undo l D Tm am A x X M hm) (cwV 0 C.1.2.2.2.2 gL_law_X12_undo rfl rfl rfl (by decide +kernel) ⟨Nat.le_of_ble_eq_true rfl, Nat.le_of_ble_eq_true rfl⟩) (fun _ _ h => h) rfl rfl dL_law_782 dL_law_785 (by omega) (by omega) (fun T2 H2 locs2 w hm => ?_)
  refine lv_goto (tgt := 1296) hx hb dL_law_786 (by decide) ?_
  refine W.widen (k := cells + 13) (n := slots + 402) (by omega) (by omega) ?_
  exact kk H2 locs2 ⟨T1, T2, Am, Ru, A, x, G, X, M, tp, tr, rr, rl, nw, im, tl, sk, iq, pa, sn, be, w, hP, hm, hAB, hGX, hMj⟩
set_option maxHeartbeats 4000000 in
set_option maxRecDepth 100000 in
theorem lawk_19 (C : lawC p s m c b L xs D) (I : lawI D s a am H locs) (hl : lv_has ls 4 [(0, .ref b), (1, .ref a), (2, .ref am), (3, .int i)]) (hB : lawB i L) (hc : cells + 13 ≤ 600000) (hs : slots + 402 ≤ 7302250) (kk : ∀ (H1 : Heap) (locs1 : List Loc), lawI D s a am H1 locs1 → W p l e room_1 s m #[Value.ref b] below meth c H1 locs1 (cells + 13) (slots + 402) Q (F0 m 1296 ls [])) : W p l e room_1 s m #[Value.ref b] below meth c H locs cells slots Q (F0 m 789 ls []) := by
  obtain ⟨Tc, Tm, Am, Ru, A, x, G, X, M, tp, tr, rr, rl, nw, im, tl, sk, iq, pa, sn, be, w, hP, hm, hAB, hGX, hMj⟩ := I
  obtain ⟨b1, b2, b3, b4, b5⟩ := hB
  have hx := C.1.1
  have hb := C.1.2.1
  refine lv_aload_n hx hb dL_law_789 rfl (lv_at hl 1 rfl) ?_
  refine law_ld C w.2.2.2.2.2 hl (k := 1) (by decide) b1 dL_law_790 dL_law_791 dL_law_792 dL_law_793 dL_law_794 ?_
  refine law_ld C w.2.2.2.2.2 hl (k := 2) (by decide) b2 dL_law_795 dL_law_796 dL_law_797 dL_law_798 dL_law_799 ?_
  refine law_ld C w.2.2.2.2.2 hl (k := 3) (by decide) b3 dL_law_800 dL_law_801 dL_law_802 dL_law_803 dL_law_804 ?_
  refine law_xc (Rc := fun T1 => pcS T1 Ru a tp tr rr rl nw im tl sk iq pa sn be (rV (.int x)) G) C w hP hl.1 (lX11_told l D Tc (lawA s Am) x hP w.2.2.1 (xs (i + 1).toNatClampNeg) (xs (i + 2).toNatClampNeg) (xs (i + 3).toNatClampNeg)) (cwV 3 C.1.2.2.2.2 gL_law_X11_told rfl rfl rfl (by decide +kernel) ⟨Nat.le_of_ble_eq_true rfl, Nat.le_of_ble_eq_true rfl⟩) (fun _ _ _ _ h => h) rfl rfl dL_law_805 dL_law_808 (by omega) (by omega) (fun T1 H1 locs1 w hP => ?_)
  refine lv_aload_n hx hb dL_law_809 rfl (lv_at hl 2 rfl) ?_
  refine law_ld C w.2.2.2.2.2 hl (k := 1) (by decide) b1 dL_law_810 dL_law_811 dL_law_812 dL_law_813 dL_law_814 ?_
  refine law_ld C w.2.2.2.2.2 hl (k := 2) (by decide) b2 dL_law_815 dL_law_816 dL_law_817 dL_law_818 dL_law_819 ?_
  refine law_ld C w.2.2.2.2.2 hl (k := 3) (by decide) b3 dL_law_820 dL_law_821 dL_law_822 dL_law_823 dL_law_824 ?_
  refine law_xm (Rm := fun T2 => mW T2 am A x X M) C w hm hl.1 (lX12_told l D Tm am A x X M hm (xs (i + 1).toNatClampNeg) (xs (i + 2).toNatClampNeg) (xs (i + 3).toNatClampNeg)) (cwV 3 C.1.2.2.2.2 gL_law_X12_told rfl rfl rfl (by decide +kernel) ⟨Nat.le_of_ble_eq_true rfl, Nat.le_of_ble_eq_true rfl⟩) (fun _ _ h => h) rfl rfl dL_law_825 dL_law_828 (by omega) (by omega) (fun T2 H2 locs2 w hm => ?_)
  refine lv_goto (tgt := 1296) hx hb dL_law_829 (by decide) ?_
  refine W.widen (k := cells + 13) (n := slots + 402) (by omega) (by omega) ?_
  exact kk H2 locs2 ⟨T1, T2, Am, Ru, A, x, G, X, M, tp, tr, rr, rl, nw, im, tl, sk, iq, pa, sn, be, w, hP, hm, hAB, hGX, hMj⟩
end LAWK
