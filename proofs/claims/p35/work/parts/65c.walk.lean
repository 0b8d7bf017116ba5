section LAWK
variable {p : Program} {l : Launch} {e : Env} {s : State} {m : MethodId} {below : List Frame} {meth : Method} {c : Code} {b L : Nat} {xs : Nat → Int32} {D : hp_D} {H : Heap} {locs : List Loc} {cells slots : Nat} {Q : State → Prop}
variable {pc : Nat} {ls : Array Slot} {rest : List Value} {a am : Nat} {i : Int32} {Tc Tm : hp_T} {Am Ru : Nat → Prop} {A : Nat → Nat} {x : Int32} {G : Nat → Option (Nat × Int32)} {X M : Nat → Int32} {tp tr rr rl nw im tl sk iq pa sn be : Nat}
set_option maxHeartbeats 4000000 in
set_option maxRecDepth 100000 in
theorem lawk_20 (C : lawC p s m c b L xs D) (I : lawI D s a am H locs) (hl : lv_has ls 4 [(0, .ref b), (1, .ref a), (2, .ref am), (3, .int i)]) (hB : lawB i L) (hc : cells + 13 ≤ 600000) (hs : slots + 402 ≤ 7302250) (kk : ∀ (H1 : Heap) (locs1 : List Loc), lawI D s a am H1 locs1 → W p l e room_1 s m #[Value.ref b] below meth c H1 locs1 (cells + 13) (slots + 402) Q (F0 m 1296 ls [])) : W p l e room_1 s m #[Value.ref b] below meth c H locs cells slots Q (F0 m 832 ls []) := by
  obtain ⟨Tc, Tm, Am, Ru, A, x, G, X, M, tp, tr, rr, rl, nw, im, tl, sk, iq, pa, sn, be, w, hP, hm, hAB, hGX, hMj⟩ := I
  obtain ⟨b1, b2, b3, b4, b5⟩ := hB
  have hx := C.1.1
  have hb := C.1.2.1
  refine lv_aload_n hx hb dL_law_832 rfl (lv_at hl 1 rfl) ?_
  refine law_ld C w.2.2.2.2.2 hl (k := 1) (by decide) b1 dL_law_833 dL_law_834 dL_law_835 dL_law_836 dL_law_837 ?_
  refine law_xc (Rc := fun T1 => pcS T1 Ru a tp tr rr rl nw im tl sk iq pa sn be (rV (.int x)) G) C w hP hl.1 (lX11_worlds l D Tc (lawA s Am) x hP w.2.2.1 (xs (i + 1).toNatClampNeg)) (cwV 1 C.1.2.2.2.2 gL_law_X11_worlds rfl rfl rfl (by decide +kernel) ⟨Nat.le_of_ble_eq_true rfl, Nat.le_of_ble_eq_true rfl⟩) (fun _ _ _ _ h => h) rfl rfl dL_law_838 dL_law_841 (by omega) (by omega) (fun T1 H1 locs1 w hP => ?_)
  refine lv_aload_n hx hb dL_law_842 rfl (lv_at hl 2 rfl) ?_
  refine law_ld C w.2.2.2.2.2 hl (k := 1) (by decide) b1 dL_law_843 dL_law_844 dL_law_845 dL_law_846 dL_law_847 ?_
  refine law_xm (Rm := fun T2 => mW T2 am A x X M) C w hm hl.1 (lX12_worlds l D Tm am A x X M hm (xs (i + 1).toNatClampNeg)) (cwV 1 C.1.2.2.2.2 gL_law_X12_worlds rfl rfl rfl (by decide +kernel) ⟨Nat.le_of_ble_eq_true rfl, Nat.le_of_ble_eq_true rfl⟩) (fun _ _ h => h) rfl rfl dL_law_848 dL_law_851 (by omega) (by omega) (fun T2 H2 locs2 w hm => ?_)
  refine lv_goto (tgt := 1296) hx hb dL_law_852 (by decide) ?_
  refine W.widen (k := cells + 13) (n := slots + 402) (by omega) (by omega) ?_
  exact kk H2 locs2 ⟨T1, T2, Am, Ru, A, x, G, X, M, tp, tr, rr, rl, nw, im, tl, sk, iq, pa, sn, be, w, hP, hm, hAB, hGX, hMj⟩
set_option maxHeartbeats 4000000 in
set_option maxRecDepth 100000 in
theorem lawk_21 (C : lawC p s m c b L xs D) (I : lawI D s a am H locs) (hl : lv_has ls 4 [(0, .ref b), (1, .ref a), (2, .ref am), (3, .int i)]) (hB : lawB i L) (hc : cells + 13 ≤ 600000) (hs : slots + 402 ≤ 7302250) (kk : ∀ (H1 : Heap) (locs1 : List Loc), lawI D s a am H1 locs1 → W p l e room_1 s m #[Value.ref b] below meth c H1 locs1 (cells + 13) (slots + 402) Q (F0 m 1296 ls [])) : W p l e room_1 s m #[Value.ref b] below meth c H locs cells slots Q (F0 m 855 ls []) := by
  obtain ⟨Tc, Tm, Am, Ru, A, x, G, X, M, tp, tr, rr, rl, nw, im, tl, sk, iq, pa, sn, be, w, hP, hm, hAB, hGX, hMj⟩ := I
  obtain ⟨b1, b2, b3, b4, b5⟩ := hB
  have hx := C.1.1
  have hb := C.1.2.1
  refine lv_aload_n hx hb dL_law_855 rfl (lv_at hl 1 rfl) ?_
  refine law_ld C w.2.2.2.2.2 hl (k := 1) (by decide) b1 dL_law_856 dL_law_857 dL_law_858 dL_law_859 dL_law_860 ?_
  refine law_xc (Rc := fun T1 => pcS T1 Ru a tp tr rr rl nw im tl sk iq pa sn be (rV (.int x)) G) C w hP hl.1 (lX11_ask l D Tc (lawA s Am) x hP w.2.2.1 (xs (i + 1).toNatClampNeg)) (cwV 1 C.1.2.2.2.2 gL_law_X11_ask rfl rfl rfl (by decide +kernel) ⟨Nat.le_of_ble_eq_true rfl, Nat.le_of_ble_eq_true rfl⟩) (fun _ _ _ _ h => h) rfl rfl dL_law_861 dL_law_864 (by omega) (by omega) (fun T1 H1 locs1 w hP => ?_)
  refine lv_aload_n hx hb dL_law_865 rfl (lv_at hl 2 rfl) ?_
  refine law_ld C w.2.2.2.2.2 hl (k := 1) (by decide) b1 dL_law_866 dL_law_867 dL_law_868 dL_law_869 dL_law_870 ?_
  refine law_xm (Rm := fun T2 => mW T2 am A x X M) C w hm hl.1 (lX12_ask l D Tm am A x X M hm (xs (i + 1).toNatClampNeg)) (cwV 1 C.1.2.2.2.2 gL_law_X12_ask rfl rfl rfl (by decide +kernel) ⟨Nat.le_of_ble_eq_true rfl, Nat.le_of_ble_eq_true rfl⟩) (fun _ _ h => h) rfl rfl dL_law_871 dL_law_874 (by omega) (by omega) (fun T2 H2 locs2 w hm => ?_)
  refine lv_goto (tgt := 1296) hx hb dL_law_875 (by decide) ?_
  refine W.widen (k := cells + 13) (n := slots + 402) (by omega) (by omega) ?_
  exact kk H2 locs2 ⟨T1, T2, Am, Ru, A, x, G, X, M, tp, tr, rr, rl, nw, im, tl, sk, iq, pa, sn, be, w, hP, hm, hAB, hGX, hMj⟩
set_option maxHeartbeats 4000000 in
set_option maxRecDepth 100000 in
theorem lawk_22 (C : lawC p s m c b L xs D) (I : lawI D s a am H locs) (hl : lv_has ls 4 [(0, .ref b), (1, .ref a), (2, .ref am), (3, .int i)]) (hB : lawB i L) (hc : cells + 13 ≤ 600000) (hs : slots + 402 ≤ 7302250) (kk : ∀ (H1 : Heap) (locs1 : List Loc), lawI D s a am H1 locs1 → W p l e room_1 s m #[Value.ref b] below meth c H1 locs1 (cells + 13) (slots + 402) Q (F0 m 1296 ls [])) : W p l e room_1 s m #[Value.ref b] below meth c H locs cells slots Q (F0 m 878 ls []) := by
  obtain ⟨Tc, Tm, Am, Ru, A, x, G, X, M, tp, tr, rr, rl, nw, im, tl, sk, iq, pa, sn, be, w, hP, hm, hAB, hGX, hMj⟩ := I
  obtain ⟨b1, b2, b3, b4, b5⟩ := hB
  have hx := C.1.1
  have hb := C.1.2.1
  refine lv_aload_n hx hb dL_law_878 rfl (lv_at hl 1 rfl) ?_
  refine law_ld C w.2.2.2.2.2 hl (k := 1) (by decide) b1 dL_law_879 dL_law_880 dL_law_881 dL_law_882 dL_law_883 ?_
  refine law_xc (Rc := fun T1 => pcS T1 Ru a tp tr rr rl nw im tl sk iq pa sn be (rV (.int x)) G) C w hP hl.1 (lX11_gates l D Tc (lawA s Am) x hP w.2.2.1 (xs (i + 1).toNatClampNeg)) (cwV 1 C.1.2.2.2.2 gL_law_X11_gates rfl rfl rfl (by decide +kernel) ⟨Nat.le_of_ble_eq_true rfl, Nat.le_of_ble_eq_true rfl⟩) (fun _ _ _ _ h => h) rfl rfl dL_law_884 dL_law_887 (by omega) (by omega) (fun T1 H1 locs1 w hP => ?_)
  refine lv_aload_n hx hb dL_law_888 rfl (lv_at hl 2 rfl) ?_
  refine law_ld C w.2.2.2.2.2 hl (k := 1) (by decide) b1 dL_law_889 dL_law_890 dL_law_891 dL_law_892 dL_law_893 ?_
  refine law_xm (Rm := fun T2 => mW T2 am A x X M) C w hm hl.1 (lX12_gates l D Tm am A x X M hm (xs (i + 1).toNatClampNeg)) (cwV 1 C.1.2.2.2.2 gL_law_X12_gates rfl rfl rfl (by decide +kernel) ⟨Nat.le_of_ble_eq_true rfl, Nat.le_of_ble_eq_true rfl⟩) (fun _ _ h => h) rfl rfl dL_law_894 dL_law_897 (by omega) (by omega) (fun T2 H2 locs2 w hm => ?_)
  refine lv_goto (tgt := 1296) hx hb dL_law_898 (by decide) ?_
  refine W.widen (k := cells + 13) (n := slots + 402) (by omega) (by omega) ?_
  exact kk H2 locs2 ⟨T1, T2, Am, Ru, A, x, G, X, M, tp, tr, rr, rl, nw, im, tl, sk, iq, pa, sn, be, w, hP, hm, hAB, hGX, hMj⟩
set_option maxHeartbeats 4000000 in
set_option maxRecDepth 100000 in
theorem lawk_23 (C : lawC p s m c b L xs D) (I : lawI D s a am H locs) (hl : lv_has ls 4 [(0, .ref b), (1, .ref a), (2, .ref am), (3, .int i)]) (hB : lawB i L) (hc : cells + 13 ≤ 600000) (hs : slots + 402 ≤ 7302250) (kk : ∀ (H1 : Heap) (locs1 : List Loc), lawI D s a am H1 locs1 → W p l e room_1 s m #[Value.ref b] below meth c H1 locs1 (cells + 13) (slots + 402) Q (F0 m 1296 ls [])) : W p l e room_1 s m #[Value.ref b] below meth c H locs cells slots Q (F0 m 901 ls []) := by
  obtain ⟨Tc, Tm, Am, Ru, A, x, G, X, M, tp, tr, rr, rl, nw, im, tl, sk, iq, pa, sn, be, w, hP, hm, hAB, hGX, hMj⟩ := I
  obtain ⟨b1, b2, b3, b4, b5⟩ := hB
  have hx := C.1.1
  have hb := C.1.2.1
  refine lv_aload_n hx hb dL_law_901 rfl (lv_at hl 1 rfl) ?_
  refine law_ld C w.2.2.2.2.2 hl (k := 1) (by decide) b1 dL_law_902 dL_law_903 dL_law_904 dL_law_905 dL_law_906 ?_
  refine law_ld C w.2.2.2.2.2 hl (k := 2) (by decide) b2 dL_law_907 dL_law_908 dL_law_909 dL_law_910 dL_law_911 ?_
  refine law_xc (Rc := fun T1 => pcS T1 Ru a tp tr rr rl nw im tl sk iq pa sn be (rV (.int x)) G) C w hP hl.1 (lX11_cheat l D Tc (lawA s Am) x hP w.2.2.1 (xs (i + 1).toNatClampNeg) (xs (i + 2).toNatClampNeg)) (cwV 2 C.1.2.2.2.2 gL_law_X11_cheat rfl rfl rfl (by decide +kernel) ⟨Nat.le_of_ble_eq_true rfl, Nat.le_of_ble_eq_true rfl⟩) (fun _ _ _ _ h => h) rfl rfl dL_law_912 dL_law_915 (by omega) (by omega) (fun T1 H1 locs1 w hP => ?_)
  refine lv_aload_n hx hb dL_law_916 rfl (lv_at hl 2 rfl) ?_
  refine law_ld C w.2.2.2.2.2 hl (k := 1) (by decide) b1 dL_law_917 dL_law_918 dL_law_919 dL_law_920 dL_law_921 ?_
  refine law_ld C w.2.2.2.2.2 hl (k := 2) (by decide) b2 dL_law_922 dL_law_923 dL_law_924 dL_law_925 dL_law_926 ?_
  refine law_xm (Rm := fun T2 => mW T2 am A x X M) C w hm hl.1 (lX12_cheat l D Tm am A x X M hm (xs (i + 1).toNatClampNeg) (xs (i + 2).toNatClampNeg)) (cwV 2 C.1.2.2.2.2 gL_law_X12_cheat rfl rfl rfl (by decide +kernel) ⟨Nat.le_of_ble_eq_true rfl, Nat.le_of_ble_eq_true rfl⟩) (fun _ _ h => h) rfl rfl dL_law_927 dL_law_930 (by omega) (by omega) (fun T2 H2 locs2 w hm => ?_)
  refine lv_goto (tgt := 1296) hx hb dL_law_931 (by decide) ?_
  refine W.widen (k := cells + 13) (n := slots + 402) (by omega) (by omega) ?_
  exact kk H2 locs2 ⟨T1, T2, Am, Ru, A, x, G, X, M, tp, tr, rr, rl, nw, im, tl, sk, iq, pa, sn, be, w, hP, hm, hAB, hGX, hMj⟩
set_option maxHeartbeats 4000000 in
set_option maxRecDepth 100000 in
theorem lawk_24 (C : lawC p s m c b L xs D) (I : lawI D s a am H locs) (hl : lv_has ls 4 [(0, .ref b), (1, .ref a), (2, .ref am), (3, .int i)]) (hB : lawB i L) (hc : cells + 13 ≤ 600000) (hs : slots + 402 ≤ 7302250) (kk : ∀ (H1 : Heap) (locs1 : List Loc), lawI D s a am H1 locs1 → W p l e room_1 s m #[Value.ref b] below meth c H1 locs1 (cells + 13) (slots + 402) Q (F0 m 1296 ls [])) : W p l e room_1 s m #[Value.ref b] below meth c H locs cells slots Q (F0 m 934 ls []) := by
  obtain ⟨Tc, Tm, Am, Ru, A, x, G, X, M, tp, tr, rr, rl, nw, im, tl, sk, iq, pa, sn, be, w, hP, hm, hAB, hGX, hMj⟩ := I
  obtain ⟨b1, b2, b3, b4, b5⟩ := hB
  have hx := C.1.1
  have hb := C.1.2.1
  refine lv_aload_n hx hb dL_law_934 rfl (lv_at hl 1 rfl) ?_
  refine law_ld C w.2.2.2.2.2 hl (k := 1) (by decide) b1 dL_law_935 dL_law_936 dL_law_937 dL_law_938 dL_law_939 ?_
  refine law_xc (Rc := fun T1 => pcS T1 Ru a tp tr rr rl nw im tl sk iq pa sn be (rV (.int x)) G) C w hP hl.1 (lX11_odd l D Tc (lawA s Am) x hP w.2.2.1 (xs (i + 1).toNatClampNeg)) (cwV 1 C.1.2.2.2.2 gL_law_X11_odd rfl rfl rfl (by decide +kernel) ⟨Nat.le_of_ble_eq_true rfl, Nat.le_of_ble_eq_true rfl⟩) (fun _ _ _ _ h => h) rfl rfl dL_law_940 dL_law_943 (by omega) (by omega) (fun T1 H1 locs1 w hP => ?_)
  refine lv_aload_n hx hb dL_law_944 rfl (lv_at hl 2 rfl) ?_
  refine law_ld C w.2.2.2.2.2 hl (k := 1) (by decide) b1 dL_law_945 dL_law_946 dL_law_947 dL_law_948 dL_law_949 ?_
  refine law_xm (Rm := fun T2 => mW T2 am A x X M) C w hm hl.1 (lX12_odd l D Tm am A x X M hm (xs (i + 1).toNatClampNeg)) (cwV 1 C.1.2.2.2.2 gL_law_X12_odd rfl rfl rfl (by decide +kernel) ⟨Nat.le_of_ble_eq_true rfl, Nat.le_of_ble_eq_true rfl⟩) (fun _ _ h => h) rfl rfl dL_law_950 dL_law_953 (by omega) (by omega) (fun T2 H2 locs2 w hm => ?_)
  refine lv_goto (tgt := 1296) hx hb dL_law_954 (by decide) ?_
  refine W.widen (k := cells + 13) (n := slots + 402) (by omega) (by omega) ?_
  exact kk H2 locs2 ⟨T1, T2, Am, Ru, A, x, G, X, M, tp, tr, rr, rl, nw, im, tl, sk, iq, pa, sn, be, w, hP, hm, hAB, hGX, hMj⟩
set_option maxHeartbeats 4000000 in
set_option maxRecDepth 100000 in
theorem lawk_25 (C : lawC p s m c b L xs D) (I : lawI D s a am H locs) (hl : lv_has ls 4 [(0, .ref b), (1, .ref a), (2, .ref am), (3, .int i)]) (hB : lawB i L) (hc : cells + 13 ≤ 600000) (hs : slots + 402 ≤ 7302250) (kk : ∀ (H1 : Heap) (locs1 : List Loc), lawI D s a am H1 locs1 → W p l e room_1 s m #[Value.ref b] below meth c H1 locs1 (cells + 13) (slots + 402) Q (F0 m 1296 ls [])) : W p l e room_1 s m #[Value.ref b] below meth c H locs cells slots Q (F0 m 957 ls []) := by
  obtain ⟨Tc, Tm, Am, Ru, A, x, G, X, M, tp, tr, rr, rl, nw, im, tl, sk, iq, pa, sn, be, w, hP, hm, hAB, hGX, hMj⟩ := I
  obtain ⟨b1, b2, b3, b4, b5⟩ := hB
  have hx := C.1.1
  have hb := C.1.2.1
  refine lv_aload_n hx hb dL_law_957 rfl (lv_at hl 1 rfl) ?_
  refine law_ld C w.2.2.2.2.2 hl (k := 1) (by decide) b1 dL_law_958 dL_law_959 dL_law_960 dL_law_961 dL_law_962 ?_
  refine law_ld C w.2.2.2.2.2 hl (k := 2) (by decide) b2 dL_law_963 dL_law_964 dL_law_965 dL_law_966 dL_law_967 ?_
  refine law_xc (Rc := fun T1 => pcS T1 Ru a tp tr rr rl nw im tl sk iq pa sn be (rV (.int x)) G) C w hP hl.1 (lX11_palms l D Tc (lawA s Am) x hP w.2.2.1 (xs (i + 1).toNatClampNeg) (xs (i + 2).toNatClampNeg)) (cwV 2 C.1.2.2.2.2 gL_law_X11_palms rfl rfl rfl (by decide +kernel) ⟨Nat.le_of_ble_eq_true rfl, Nat.le_of_ble_eq_true rfl⟩) (fun _ _ _ _ h => h) rfl rfl dL_law_968 dL_law_971 (by omega) (by omega) (fun T1 H1 locs1 w hP => ?_)
  refine lv_aload_n hx hb dL_law_972 rfl (lv_at hl 2 rfl) ?_
  refine law_ld C w.2.2.2.2.2 hl (k := 1) (by decide) b1 dL_law_973 dL_law_974 dL_law_975 dL_law_976 dL_law_977 ?_
  refine law_ld C w.2.2.2.2.2 hl (k := 2) (by decide) b2 dL_law_978 dL_law_979 dL_law_980 dL_law_981 dL_law_982 ?_
  refine law_xm (Rm := fun T2 => mW T2 am A x X M) C w hm hl.1 (lX12_palms l D Tm am A x X M hm (xs (i + 1).toNatClampNeg) (xs (i + 2).toNatClampNeg)) (cwV 2 C.1.2.2.2.2 gL_law_X12_palms rfl rfl rfl (by decide +kernel) ⟨Nat.le_of_ble_eq_true rfl, Nat.le_of_ble_eq_true rfl⟩) (fun _ _ h => h) rfl rfl dL_law_983 dL_law_986 (by omega) (by omega) (fun T2 H2 locs2 w hm => ?_)
  refine lv_goto (tgt := 1296) hx hb dL_law_987 (by decide) ?_
  refine W.widen (k := cells + 13) (n := slots + 402) (by omega) (by omega) ?_
  exact kk H2 locs2 ⟨T1, T2, Am, Ru, A, x, G, X, M, tp, tr, rr, rl, nw, im, tl, sk, iq, pa, sn, be, w, hP, hm, hAB, hGX, hMj⟩
set_option maxHeartbeats 4000000 in
set_option maxRecDepth 100000 in
theorem lawk_26 (C : lawC p s m c b L xs D) (I : lawI D s a am H locs) (hl : lv_has ls 4 [(0, .ref b), (1, .ref a), (2, .ref am), (3, .int i)]) (hB : lawB i L) (hc : cells + 13 ≤ 600000) (hs : slots + 402 ≤ 7302250) (kk : ∀ (H1 : Heap) (locs1 : List Loc), lawI D s a am H1 locs1 → W p l e room_1 s m #[Value.ref b] below meth c H1 locs1 (cells + 13) (slots + 402) Q (F0 m 1296 ls [])) : W p l e room_1 s m #[Value.ref b] below meth c H locs cells slots Q (F0 m 990 ls []) := by
  obtain ⟨Tc, Tm, Am, Ru, A, x, G, X, M, tp, tr, rr, rl, nw, im, tl, sk, iq, pa, sn, be, w, hP, hm, hAB, hGX, hMj⟩ := I
  obtain ⟨b1, b2, b3, b4, b5⟩ := hB
  have hx := C.1.1
  have hb := C.1.2.1
  refine lv_aload_n hx hb dL_law_990 rfl (lv_at hl 1 rfl) ?_
  refine law_xc (Rc := fun T1 => pcS T1 Ru a tp tr rr rl nw im tl sk iq pa sn be (rV (.int x)) G) C w hP hl.1 (lX11_shuns l D Tc (lawA s Am) x hP w.2.2.1) (cwV 0 C.1.2.2.2.2 gL_law_X11_shuns rfl rfl rfl (by decide +kernel) ⟨Nat.le_of_ble_eq_true rfl, Nat.le_of_ble_eq_true rfl⟩) (fun _ _ _ _ h => h) rfl rfl dL_law_991 dL_law_994 (by omega) (by omega) (fun T1 H1 locs1 w hP => ?_)
  refine lv_aload_n hx hb dL_law_995 rfl (lv_at hl 2 rfl) ?_
  refine law_xm (Rm := fun T2 => mW T2 am A x X M) C w hm hl.1 (lX12_shuns l D Tm am A x X M hm) (cwV 0 C.1.2.2.2.2 gL_law_X12_shuns rfl rfl rfl (by decide +kernel) ⟨Nat.le_of_ble_eq_true rfl, Nat.le_of_ble_eq_true rfl⟩) (fun _ _ h => h) rfl rfl dL_law_996 dL_law_999 (by omega) (by omega) (fun T2 H2 locs2 w hm => ?_)
  refine lv_goto (tgt := 1296) hx hb dL_law_1000 (by decide) ?_
  refine W.widen (k := cells + 13) (n := slots + 402) (by omega) (by omega) ?_
  exact kk H2 locs2 ⟨T1, T2, Am, Ru, A, x, G, X, M, tp, tr, rr, rl, nw, im, tl, sk, iq, pa, sn, be, w, hP, hm, hAB, hGX, hMj⟩
set_option maxHeartbeats 4000000 in
set_option maxRecDepth 100000 in
theorem lawk_27 (C : lawC p s m c b L xs D) (I : lawI D s a am H locs) (hl : lv_has ls 4 [(0, .ref b), (1, .ref a), (2, .ref am), (3, .int i)]) (hB : lawB i L) (hc : cells + 13 ≤ 600000) (hs : slots + 402 ≤ 7302250) (kk : ∀ (H1 : Heap) (locs1 : List Loc), lawI D s a am H1 locs1 → W p l e room_1 s m #[Value.ref b] below meth c H1 locs1 (cells + 13) (slots + 402) Q (F0 m 1296 ls [])) : W p l e room_1 s m #[Value.ref b] below meth c H locs cells slots Q (F0 m 1003 ls []) := by
  obtain ⟨Tc, Tm, Am, Ru, A, x, G, X, M, tp, tr, rr, rl, nw, im, tl, sk, iq, pa, sn, be, w, hP, hm, hAB, hGX, hMj⟩ := I
  obtain ⟨b1, b2, b3, b4, b5⟩ := hB
  have hx := C.1.1
  have hb := C.1.2.1
  refine lv_aload_n hx hb dL_law_1003 rfl (lv_at hl 1 rfl) ?_
  refine law_ld C w.2.2.2.2.2 hl (k := 1) (by decide) b1 dL_law_1004 dL_law_1005 dL_law_1006 dL_law_1007 dL_law_1008 ?_
  refine law_ld C w.2.2.2.2.2 hl (k := 2) (by decide) b2 dL_law_1009 dL_law_1010 dL_law_1011 dL_law_1012 dL_law_1013 ?_
  refine law_xc (Rc := fun T1 => pcS T1 Ru a tp tr rr rl nw im tl sk iq pa sn be (rV (.int x)) G) C w hP hl.1 (lX11_shook l D Tc (lawA s Am) x hP w.2.2.1 (xs (i + 1).toNatClampNeg) (xs (i + 2).toNatClampNeg)) (cwV 2 C.1.2.2.2.2 gL_law_X11_shook rfl rfl rfl (by decide +kernel) ⟨Nat.le_of_ble_eq_true rfl, Nat.le_of_ble_eq_true rfl⟩) (fun _ _ _ _ h => h) rfl rfl dL_law_1014 dL_law_1017 (by omega) (by omega) (fun T1 H1 locs1 w hP => ?_)
  refine lv_aload_n hx hb dL_law_1018 rfl (lv_at hl 2 rfl) ?_
  refine law_ld C w.2.2.2.2.2 hl (k := 1) (by decide) b1 dL_law_1019 dL_law_1020 dL_law_1021 dL_law_1022 dL_law_1023 ?_
  refine law_ld C w.2.2.2.2.2 hl (k := 2) (by decide) b2 dL_law_1024 dL_law_1025 dL_law_1026 dL_law_1027 dL_law_1028 ?_
  refine law_xm (Rm := fun T2 => mW T2 am A x X M) C w hm hl.1 (lX12_shook l D Tm am A x X M hm hAB (xs (i + 1).toNatClampNeg) (xs (i + 2).toNatClampNeg)) (cwV 2 C.1.2.2.2.2 gL_law_X12_shook rfl rfl rfl (by decide +kernel) ⟨Nat.le_of_ble_eq_true rfl, Nat.le_of_ble_eq_true rfl⟩) (fun _ _ h => h) rfl rfl dL_law_1029 dL_law_1032 (by omega) (by omega) (fun T2 H2 locs2 w hm => ?_)
  refine lv_goto (tgt := 1296) hx hb dL_law_1033 (by decide) ?_
  refine W.widen (k := cells + 13) (n := slots + 402) (by omega) (by omega) ?_
  exact kk H2 locs2 ⟨T1, T2, Am, Ru, A, x, G, X, M, tp, tr, rr, rl, nw, im, tl, sk, iq, pa, sn, be, w, hP, hm, hAB, hGX, hMj⟩
set_option maxHeartbeats 4000000 in
set_option maxRecDepth 100000 in
theorem lawk_28 (C : lawC p s m c b L xs D) (I : lawI D s a am H locs) (hl : lv_has ls 4 [(0, .ref b), (1, .ref a), (2, .ref am), (3, .int i)]) (hB : lawB i L) (hc : cells + 13 ≤ 600000) (hs : slots + 402 ≤ 7302250) (kk : ∀ (H1 : Heap) (locs1 : List Loc), lawI D s a am H1 locs1 → W p l e room_1 s m #[Value.ref b] below meth c H1 locs1 (cells + 13) (slots + 402) Q (F0 m 1296 ls [])) : W p l e room_1 s m #[Value.ref b] below meth c H locs cells slots Q (F0 m 1036 ls []) := by
  obtain ⟨Tc, Tm, Am, Ru, A, x, G, X, M, tp, tr, rr, rl, nw, im, tl, sk, iq, pa, sn, be, w, hP, hm, hAB, hGX, hMj⟩ := I
  obtain ⟨b1, b2, b3, b4, b5⟩ := hB
  have hx := C.1.1
  have hb := C.1.2.1
  refine lv_aload_n hx hb dL_law_1036 rfl (lv_at hl 1 rfl) ?_
  refine law_ld C w.2.2.2.2.2 hl (k := 1) (by decide) b1 dL_law_1037 dL_law_1038 dL_law_1039 dL_law_1040 dL_law_1041 ?_
  refine law_ld C w.2.2.2.2.2 hl (k := 2) (by decide) b2 dL_law_1042 dL_law_1043 dL_law_1044 dL_law_1045 dL_law_1046 ?_
  refine law_xc (Rc := fun T1 => pcS T1 Ru a tp tr rr rl nw im tl sk iq pa sn be (rV (.int x)) G) C w hP hl.1 (lX11_passes l D Tc (lawA s Am) x hP w.2.2.1 (xs (i + 1).toNatClampNeg) (xs (i + 2).toNatClampNeg)) (cwV 2 C.1.2.2.2.2 gL_law_X11_passes rfl rfl rfl (by decide +kernel) ⟨Nat.le_of_ble_eq_true rfl, Nat.le_of_ble_eq_true rfl⟩) (fun _ _ _ _ h => h) rfl rfl dL_law_1047 dL_law_1050 (by omega) (by omega) (fun T1 H1 locs1 w hP => ?_)
  refine lv_aload_n hx hb dL_law_1051 rfl (lv_at hl 2 rfl) ?_
  refine law_ld C w.2.2.2.2.2 hl (k := 1) (by decide) b1 dL_law_1052 dL_law_1053 dL_law_1054 dL_law_1055 dL_law_1056 ?_
  refine law_ld C w.2.2.2.2.2 hl (k := 2) (by decide) b2 dL_law_1057 dL_law_1058 dL_law_1059 dL_law_1060 dL_law_1061 ?_
  refine law_xm (Rm := fun T2 => mW T2 am A x X M) C w hm hl.1 (lX12_passes l D Tm am A x X M hm (xs (i + 1).toNatClampNeg) (xs (i + 2).toNatClampNeg)) (cwV 2 C.1.2.2.2.2 gL_law_X12_passes rfl rfl rfl (by decide +kernel) ⟨Nat.le_of_ble_eq_true rfl, Nat.le_of_ble_eq_true rfl⟩) (fun _ _ h => h) rfl rfl dL_law_1062 dL_law_1065 (by omega) (by omega) (fun T2 H2 locs2 w hm => ?_)
  refine lv_goto (tgt := 1296) hx hb dL_law_1066 (by decide) ?_
  refine W.widen (k := cells + 13) (n := slots + 402) (by omega) (by omega) ?_
  exact kk H2 locs2 ⟨T1, T2, Am, Ru, A, x, G, X, M, tp, tr, rr, rl, nw, im, tl, sk, iq, pa, sn, be, w, hP, hm, hAB, hGX, hMj⟩
set_option maxHeartbeats 4000000 in
set_option maxRecDepth 100000 in
theorem lawk_29 (C : lawC p s m c b L xs D) (I : lawI D s a am H locs) (hl : lv_has ls 4 [(0, .ref b), (1, .ref a), (2, .ref am), (3, .int i)]) (hB : lawB i L) (hc : cells + 13 ≤ 600000) (hs : slots + 402 ≤ 7302250) (kk : ∀ (H1 : Heap) (locs1 : List Loc), lawI D s a am H1 locs1 → W p l e room_1 s m #[Value.ref b] below meth c H1 locs1 (cells + 13) (slots + 402) Q (F0 m 1296 ls [])) : W p l e room_1 s m #[Value.ref b] below meth c H locs cells slots Q (F0 m 1069 ls []) := by
  obtain ⟨Tc, Tm, Am, Ru, A, x, G, X, M, tp, tr, rr, rl, nw, im, tl, sk, iq, pa, sn, be, w, hP, hm, hAB, hGX, hMj⟩ := I
  obtain ⟨b1, b2, b3, b4, b5⟩ := hB
  have hx := C.1.1
  have hb := C.1.2.1
  refine lv_aload_n hx hb dL_law_1069 rfl (lv_at hl 1 rfl) ?_
  refine law_ld C w.2.2.2.2.2 hl (k := 1) (by decide) b1 dL_law_1070 dL_law_1071 dL_law_1072 dL_law_1073 dL_law_1074 ?_
  refine law_ld C w.2.2.2.2.2 hl (k := 2) (by decide) b2 dL_law_1075 dL_law_1076 dL_law_1077 dL_law_1078 dL_law_1079 ?_
  refine law_xc (Rc := fun T1 => pcS T1 Ru a tp tr rr rl nw im tl sk iq pa sn be (rV (.int x)) G) C w hP hl.1 (lX11_have l D Tc (lawA s Am) x hP w.2.2.1 (xs (i + 1).toNatClampNeg) (xs (i + 2).toNatClampNeg)) (cwV 2 C.1.2.2.2.2 gL_law_X11_have rfl rfl rfl (by decide +kernel) ⟨Nat.le_of_ble_eq_true rfl, Nat.le_of_ble_eq_true rfl⟩) (fun _ _ _ _ h => h) rfl rfl dL_law_1080 dL_law_1083 (by omega) (by omega) (fun T1 H1 locs1 w hP => ?_)
  refine lv_aload_n hx hb dL_law_1084 rfl (lv_at hl 2 rfl) ?_
  refine law_ld C w.2.2.2.2.2 hl (k := 1) (by decide) b1 dL_law_1085 dL_law_1086 dL_law_1087 dL_law_1088 dL_law_1089 ?_
  refine law_ld C w.2.2.2.2.2 hl (k := 2) (by decide) b2 dL_law_1090 dL_law_1091 dL_law_1092 dL_law_1093 dL_law_1094 ?_
  refine law_xm (Rm := fun T2 => mW T2 am A x X M) C w hm hl.1 (lX12_have l D Tm am A x X M hm (xs (i + 1).toNatClampNeg) (xs (i + 2).toNatClampNeg)) (cwV 2 C.1.2.2.2.2 gL_law_X12_have rfl rfl rfl (by decide +kernel) ⟨Nat.le_of_ble_eq_true rfl, Nat.le_of_ble_eq_true rfl⟩) (fun _ _ h => h) rfl rfl dL_law_1095 dL_law_1098 (by omega) (by omega) (fun T2 H2 locs2 w hm => ?_)
  refine lv_goto (tgt := 1296) hx hb dL_law_1099 (by decide) ?_
  refine W.widen (k := cells + 13) (n := slots + 402) (by omega) (by omega) ?_
  exact kk H2 locs2 ⟨T1, T2, Am, Ru, A, x, G, X, M, tp, tr, rr, rl, nw, im, tl, sk, iq, pa, sn, be, w, hP, hm, hAB, hGX, hMj⟩
end LAWK
