/-! THE LAW'S START: the tables, the links, the arrays' classes -/
set_option maxRecDepth 20000 in
theorem law_iX0 : ∀ w ∈ wsX00, w ∈ lw_tbl := fun w h => (goodIn_p wsX00 [] (by decide +kernel) (by decide +kernel) w h).1
set_option maxRecDepth 20000 in
theorem law_iX1 : ∀ w ∈ wsX10, w ∈ lw_tbl := fun w h => (goodIn_p wsX10 [] (by decide +kernel) (by decide +kernel) w h).1
set_option maxRecDepth 20000 in
theorem law_iX2 : ∀ w ∈ wsX20, w ∈ lw_tbl := fun w h => (goodIn_p wsX20 [] (by decide +kernel) (by decide +kernel) w h).1
set_option maxRecDepth 20000 in
theorem law_iX3 : ∀ w ∈ wsX30, w ∈ lw_tbl := fun w h => (goodIn_p wsX30 [] (by decide +kernel) (by decide +kernel) w h).1
set_option maxRecDepth 20000 in
theorem law_iX4 : ∀ w ∈ wsX40, w ∈ lw_tbl := fun w h => (goodIn_p wsX40 [] (by decide +kernel) (by decide +kernel) w h).1
set_option maxRecDepth 20000 in
theorem law_iX5 : ∀ w ∈ wsX50, w ∈ lw_tbl := fun w h => (goodIn_p wsX50 [] (by decide +kernel) (by decide +kernel) w h).1
set_option maxRecDepth 20000 in
theorem law_iX6 : ∀ w ∈ wsX60, w ∈ lw_tbl := fun w h => (goodIn_p wsX60 [] (by decide +kernel) (by decide +kernel) w h).1
set_option maxRecDepth 20000 in
theorem law_iX7 : ∀ w ∈ wsX70, w ∈ lw_tbl := fun w h => (goodIn_p wsX70 [] (by decide +kernel) (by decide +kernel) w h).1
set_option maxRecDepth 20000 in
theorem law_iX8 : ∀ w ∈ wsX80, w ∈ lw_tbl := fun w h => (goodIn_p wsX80 [] (by decide +kernel) (by decide +kernel) w h).1
set_option maxRecDepth 20000 in
theorem law_iX9 : ∀ w ∈ wsX90, w ∈ lw_tbl := fun w h => (goodIn_p wsX90 [] (by decide +kernel) (by decide +kernel) w h).1
set_option maxRecDepth 20000 in
theorem law_iX10 : ∀ w ∈ wsX100, w ∈ lw_tbl := fun w h => (goodIn_p wsX100 [] (by decide +kernel) (by decide +kernel) w h).1
set_option maxRecDepth 20000 in
theorem law_iX11 : ∀ w ∈ wsX110, w ∈ lw_tbl := fun w h => (goodIn_p wsX110 [] (by decide +kernel) (by decide +kernel) w h).1
set_option maxRecDepth 20000 in
theorem law_iX12 : ∀ w ∈ wsX120, w ∈ lw_tbl := fun w h => (goodIn_p wsX120 [] (by decide +kernel) (by decide +kernel) w h).1
set_option maxHeartbeats 4000000 in
set_option maxRecDepth 20000 in
theorem law_K {s : State} {b : Nat} (hts : ∀ w ∈ lw_tbl, w.before #[Value.ref b] s = true) : ∃ (G : va_G) (dA : Nat → ClassId), va_K G vwCl (hp_tys dA) s := by
  obtain ⟨c0, i0, k0⟩ := u_known (C := RX0) (T := TX0) (N := 4) (n := 4) hts law_iX0 (hts (.instantiable RX0 4) (by decide +kernel))
  obtain ⟨c1, i1, k1⟩ := u_known (C := RX1) (T := TX1) (N := 13) (n := 13) hts law_iX1 (hts (.instantiable RX1 13) (by decide +kernel))
  obtain ⟨c2, i2, k2⟩ := u_known (C := RX2) (T := TX2) (N := 3) (n := 3) hts law_iX2 (hts (.instantiable RX2 3) (by decide +kernel))
  obtain ⟨c3, i3, k3⟩ := u_known (C := RX3) (T := TX3) (N := 2) (n := 2) hts law_iX3 (hts (.instantiable RX3 2) (by decide +kernel))
  obtain ⟨c4, i4, k4⟩ := u_known (C := RX4) (T := TX4) (N := 5) (n := 5) hts law_iX4 (hts (.instantiable RX4 5) (by decide +kernel))
  obtain ⟨c5, i5, k5⟩ := u_known (C := RX5) (T := TX5) (N := 4) (n := 4) hts law_iX5 (hts (.instantiable RX5 4) (by decide +kernel))
  obtain ⟨c6, i6, k6⟩ := u_known (C := RX6) (T := TX6) (N := 6) (n := 6) hts law_iX6 (hts (.instantiable RX6 6) (by decide +kernel))
  obtain ⟨c7, i7, k7⟩ := u_known (C := RX7) (T := TX7) (N := 5) (n := 5) hts law_iX7 (hts (.instantiable RX7 5) (by decide +kernel))
  obtain ⟨c8, i8, k8⟩ := u_known (C := RX8) (T := TX8) (N := 11) (n := 11) hts law_iX8 (hts (.instantiable RX8 11) (by decide +kernel))
  obtain ⟨c9, i9, k9⟩ := u_known (C := RX9) (T := TX9) (N := 2) (n := 2) hts law_iX9 (hts (.instantiable RX9 2) (by decide +kernel))
  obtain ⟨c10, i10, k10⟩ := u_known (C := RX10) (T := TX10) (N := 12) (n := 12) hts law_iX10 (hts (.instantiable RX10 12) (by decide +kernel))
  obtain ⟨c11, i11, k11⟩ := u_known (C := RX11) (T := TX11) (N := 13) (n := 13) hts law_iX11 (hts (.instantiable RX11 13) (by decide +kernel))
  obtain ⟨c12, i12, k12⟩ := u_known (C := RX12) (T := TX12) (N := 44) (n := 44) hts law_iX12 (hts (.instantiable RX12 44) (by decide +kernel))
  obtain ⟨a0, ka0, co0, f0, g0, q0⟩ := Cond.arrayClass_spec (type := .int) (hts (.arrayClass .int) (by decide +kernel))
  obtain ⟨a1, ka1, co1, f1, g1, q1⟩ := Cond.arrayClass_spec (type := .byte) (hts (.arrayClass .byte) (by decide +kernel))
  obtain ⟨a2, ka2, co2, f2, g2, q2⟩ := Cond.arrayClass_spec (type := .boolean) (hts (.arrayClass .boolean) (by decide +kernel))
  obtain ⟨a3, ka3, co3, f3, g3, q3⟩ := Cond.arrayClass_spec (type := .long) (hts (.arrayClass .long) (by decide +kernel))
  obtain ⟨co4, a4, ka4, e4, -, g4, q4, f4⟩ := Cond.arrayOver_spec (n := "PalmCensus$Memory") (hts (.arrayOver (.object "PalmCensus$Memory")) (by decide +kernel))
  obtain ⟨co5, a5, ka5, e5, -, g5, q5, f5⟩ := Cond.arrayOver_spec (n := "PalmCensus$Rule") (hts (.arrayOver (.object "PalmCensus$Rule")) (by decide +kernel))
  refine ⟨(fun k => [c0, c1, c2, c3, c4, c5, c6, c7, c8, c9, c10, c11, c12].getD k c0, fun k => [i0, i1, i2, i3, i4, i5, i6, i7, i8, i9, i10, i11, i12].getD k i0), fun k => [a0, a1, a2, a3, a4, a5].getD k a0, ?_, ?_⟩
  · intro k q hq
    match k, hq with
    | 0, hq => cases hq; exact k0
    | 1, hq => cases hq; exact k1
    | 2, hq => cases hq; exact k2
    | 3, hq => cases hq; exact k3
    | 4, hq => cases hq; exact k4
    | 5, hq => cases hq; exact k5
    | 6, hq => cases hq; exact k6
    | 7, hq => cases hq; exact k7
    | 8, hq => cases hq; exact k8
    | 9, hq => cases hq; exact k9
    | 10, hq => cases hq; exact k10
    | 11, hq => cases hq; exact k11
    | 12, hq => cases hq; exact k12
    | k + 13, hq => simp [vwCl] at hq
  · intro k q hq
    match k, hq with
    | 0, hq => cases hq; exact ⟨fun n z => ⟨fun k h => (by cases h), ka0, g0, co0, q0⟩, f0⟩
    | 1, hq => cases hq; exact ⟨fun n z => ⟨fun k h => (by cases h), ka1, g1, co1, q1⟩, f1⟩
    | 2, hq => cases hq; exact ⟨fun n z => ⟨fun k h => (by cases h), ka2, g2, co2, q2⟩, f2⟩
    | 3, hq => cases hq; exact ⟨fun n z => ⟨fun k h => (by cases h), ka3, g3, co3, q3⟩, f3⟩
    | 4, hq => cases hq; exact ⟨fun n z => ⟨fun k h => (by cases h), ka4, g4, co4, q4⟩, ka4, co4, g4, q4, e4, f4⟩
    | 5, hq => cases hq; exact ⟨fun n z => ⟨fun k h => (by cases h), ka5, g5, co5, q5⟩, ka5, co5, g5, q5, e5, f5⟩
    | k + 6, hq => simp [hp_tys] at hq
set_option maxHeartbeats 4000000 in
set_option maxRecDepth 20000 in
theorem law_mkK {s : State} {b : Nat} {D : hp_D} (hts : ∀ w ∈ lw_tbl, w.before #[Value.ref b] s = true) (hK : hp_K D s) : mk_K D s :=
  ⟨hK, ⟨va_Nw.of rfl (hts (.methodLinkNest RX5 75 yX11_listMembers "PalmCensus") (by decide +kernel)), va_Nw.of rfl (hts (.methodLinkNest RX10 134 yX11_listMembers "PalmCensus") (by decide +kernel)), va_Nw.of rfl (hts (.methodLinkNest RX11 11 yX7_init "PalmCensus") (by decide +kernel)), va_Nw.of rfl (hts (.methodLinkNest RX11 62 yX5_init "PalmCensus") (by decide +kernel)), va_Nw.of rfl (hts (.methodLinkNest RX11 69 yX10_init "PalmCensus") (by decide +kernel)), va_Nw.of rfl (hts (.methodLinkNest RX11 76 yX2_init "PalmCensus") (by decide +kernel)), va_Nw.of rfl (hts (.methodLinkNest RX11 83 yX6_init "PalmCensus") (by decide +kernel)), va_Nw.of rfl (hts (.methodLinkNest RX11 90 yX0_init "PalmCensus") (by decide +kernel))⟩, va_AO.of (hts (.arrayOver (.object "PalmCensus$Rule")) (by decide +kernel)), va_AO.of (hts (.arrayOver (.object "PalmCensus$Memory")) (by decide +kernel)), va_Nw.of rfl (hts (.castable "[I" "java/lang/Cloneable") (by decide +kernel))⟩
