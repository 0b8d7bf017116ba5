/-! THE REFERENCE IS MADE -/
def moG0 : moG := (rV (.int 0), sP, fun _ => rV (.int 0), fun _ => rV (.int 0), fun _ => 0, fun _ => 0, fun _ => 0)
theorem moG0_ok : moOk moG0 := ⟨fun v h => ⟨0, h⟩, fun j v h => ⟨0, h⟩, fun j v h => ⟨0, h⟩, fun t ht => ⟨⟨show (0 : Int) ≤ (0 : Int32).toInt by decide, show (0 : Int32).toInt ≤ 12 by decide⟩, fun c hc => absurd hc (by show ¬ (c : Int) < (0 : Int32).toInt; have z : (0 : Int32).toInt = 0 := rfl; omega)⟩, fun j v h => h⟩
/-- the rows of the two of a pair are two -/
def moD (T : hp_T) (a : Nat) : Prop := ∃ (Ps : List (Value → Prop)) (f g : Nat), T a = some (.inr (12, Ps)) ∧ Ps[30]? = some (rR f) ∧ Ps[31]? = some (rR g) ∧ f ≠ g
set_option maxHeartbeats 4000000 in
set_option maxRecDepth 100000 in
theorem mX12_init (l : Launch) (D : hp_D) (T : hp_T) (a0 sz : Nat) (hT0 : T a0 = none) : Met l yX12_init wsX12_init ({ frames := 1, cells := 24, slots := 28693, locals := 12 }) (mk_Pc D T [.ref a0] (fun H => H.size = sz ∧ hp_o D H a0 12 (fun k => defaultValue (tyX12 k)))) (hq_m D T a0 (fun T1 => isMo T1 a0 moG0 ∧ moD T1 a0)) 24 28693 (fun q => q = a0 ∨ sz ≤ q) := by
  refine Met.ofW (cc := cX12_init) (maxL := 1) (ret := none) (by decide) rfl ?_
  intro p e s m args below meth c s₁ B hml hv
  obtain ⟨rfl, hok0, hMK, hsz0, ho⟩ := hv
  subst hsz0
  have hx := B.exec
  have hb := B.bytes
  have hr := B.returns
  have hts := atoms_spec (ws := wsX12_init) B.pre
  have hown : s.vm.findClass RX12 = some m.cls := findClass_of_methodNamed B.named
  have hlocks := B.notSynchronized
  have hin0 : meth.name = "<init>" := (name_of_methodNamed B.named B.method).1
  have hK := hMK.1
  have hw : mk_w D T (fun q => q = a0 ∨ s.heap.size ≤ q) s s.heap [] := ⟨hok0, va_S.rf⟩
  have hA : ∀ q, s.heap.size ≤ q → (fun q => q = a0 ∨ s.heap.size ≤ q) q := fun q h => Or.inr h
  have ha0 : a0 < s.heap.size := ho.lt
  have hTa : T a0 = none := hT0
  have hgr : hp_g0 T T s.heap.size := hp_g0.rf
  have hsz : s.heap.size ≤ s.heap.size := Nat.le_refl _
  have IX12 : ∀ w ∈ wsX120, w ∈ wsX12_init := by decide +kernel
  have ML := hts (.methodLink RX12 1 objectInit) (by decide +kernel)
  have IM := hts (.instanceMethod objectInit) (by decide +kernel)
  have CO := hts (.code objectInit ⟨#[0xb1]⟩ 1 none) (by decide +kernel)
  have ACbyte := hts (.arrayClass .byte) (by decide +kernel)
  have L7 := hts (.fieldLink RX12 7 "PalmCensusModel" "tape" "[B") (by decide +kernel)
  have ACint := hts (.arrayClass .int) (by decide +kernel)
  have L13 := hts (.fieldLink RX12 13 "PalmCensusModel" "sign" "[I") (by decide +kernel)
  have L17 := hts (.fieldLink RX12 17 "PalmCensusModel" "length" "[I") (by decide +kernel)
  have L20 := hts (.fieldLink RX12 20 "PalmCensusModel" "clause" "[I") (by decide +kernel)
  have L23 := hts (.fieldLink RX12 23 "PalmCensusModel" "clauses" "[I") (by decide +kernel)
  have L26 := hts (.fieldLink RX12 26 "PalmCensusModel" "read" "[I") (by decide +kernel)
  have L29 := hts (.fieldLink RX12 29 "PalmCensusModel" "open" "[I") (by decide +kernel)
  have AClong := hts (.arrayClass .long) (by decide +kernel)
  have L32 := hts (.fieldLink RX12 32 "PalmCensusModel" "stack" "[J") (by decide +kernel)
  have L36 := hts (.fieldLink RX12 36 "PalmCensusModel" "word" "[J") (by decide +kernel)
  have L39 := hts (.fieldLink RX12 39 "PalmCensusModel" "said" "[I") (by decide +kernel)
  have L42 := hts (.fieldLink RX12 42 "PalmCensusModel" "force" "I") (by decide +kernel)
  have L46 := hts (.fieldLink RX12 46 "PalmCensusModel" "wasSaid" "[I") (by decide +kernel)
  have L49 := hts (.fieldLink RX12 49 "PalmCensusModel" "fitting" "[I") (by decide +kernel)
  have L52 := hts (.fieldLink RX12 52 "PalmCensusModel" "sums" "[I") (by decide +kernel)
  have L55 := hts (.fieldLink RX12 55 "PalmCensusModel" "sort" "[I") (by decide +kernel)
  have L58 := hts (.fieldLink RX12 58 "PalmCensusModel" "sumsBy" "[I") (by decide +kernel)
  have L61 := hts (.fieldLink RX12 61 "PalmCensusModel" "oneOf" "[I") (by decide +kernel)
  have L64 := hts (.fieldLink RX12 64 "PalmCensusModel" "otherOf" "[I") (by decide +kernel)
  have L67 := hts (.fieldLink RX12 67 "PalmCensusModel" "kept" "[I") (by decide +kernel)
  have L70 := hts (.fieldLink RX12 70 "PalmCensusModel" "images" "[I") (by decide +kernel)
  have L73 := hts (.fieldLink RX12 73 "PalmCensusModel" "imageActs" "[I") (by decide +kernel)
  have L76 := hts (.fieldLink RX12 76 "PalmCensusModel" "imageUndone" "[I") (by decide +kernel)
  have L79 := hts (.fieldLink RX12 79 "PalmCensusModel" "imageForce" "[I") (by decide +kernel)
  have L82 := hts (.fieldLink RX12 82 "PalmCensusModel" "imageX" "[I") (by decide +kernel)
  have ACboolean := hts (.arrayClass .boolean) (by decide +kernel)
  have L85 := hts (.fieldLink RX12 85 "PalmCensusModel" "isMade" "[Z") (by decide +kernel)
  have hl := lv_entry ([.ref a0]) (n := 1) (Nat.le_of_ble_eq_true rfl)
  rw [lg_entry_eq]
  generalize (lg_sl ([.ref a0]) ++ List.replicate (1 - (lg_sl ([.ref a0])).length) Slot.unset).toArray = ls at hl ⊢
  have hl : lv_has ls 1 [(0, .ref a0)] := hl
  refine lv_aload_n hx hb dX12_init_0 rfl (lv_at hl 0 rfl) ?_
  refine W.objInit hx hb hown ML IM CO rfl (by rw [hml]; exact hl.1) rfl dX12_init_1 (Nat.le_of_ble_eq_true rfl) (Nat.le_of_ble_eq_true rfl) ?_
  refine W.eq (g2 := F0 m 4 ls []) rfl ?_
  refine lv_aload_n hx hb dX12_init_4 rfl (lv_at hl 0 rfl) ?_
  refine lv_sipush (v := 400) hx hb dX12_init_5 (by decide) ?_
  refine mk_newa (atype := .byte) (t0 := 1) (N' := 400) (P := (fun _ => rA)) hx hb ACbyte rfl (fun C h => by cases h) rfl hK hw (fun j _ => ⟨0, rfl⟩) (by decide) (by decide) (by decide) (Nat.le_of_ble_eq_true rfl) (Nat.le_of_ble_eq_true rfl) dX12_init_8 (fun q8 H8 hw eq8 k8 nq8 => ?_)
  have zq8 : s.heap.size ≤ q8 := by rw [eq8]; exact hsz
  have ho := ho.kept (k8 a0 ho.lt)
  have g8 := hp_sub_up (ct := .inl (1, 400, (fun _ => rA))) nq8
  have hgr := hgr.up (ct := .inl (1, 400, (fun _ => rA))) zq8 nq8
  have hq8 := hp_up_s T q8 (.inl (1, 400, (fun _ => rA)))
  generalize hp_up T q8 (.inl (1, 400, (fun _ => rA))) = T8 at hw g8 hgr hq8
  have hTa : T8 a0 = none := hgr.nn hT0 ha0
  have hsz : s.heap.size ≤ H8.size := hw.2.1
  refine W.widen (k := 1) (n := 400) (by omega) (by omega) ?_
  refine mk_putF hx hb hts IX12 tyX12 tyX12_ok nmX12 hown hK hw ho hTa (Or.inl rfl) rfl 0 (by decide) L7 rfl hin0 rfl rfl rfl dX12_init_10 (fun H10 locs10 hw ho => ?_)
  have hsz : s.heap.size ≤ H10.size := hw.2.1
  refine lv_aload_n hx hb dX12_init_13 rfl (lv_at hl 0 rfl) ?_
  refine lv_sipush (v := 2400) hx hb dX12_init_14 (by decide) ?_
  refine mk_newa (atype := .int) (t0 := 0) (N' := 2400) (P := (fun j => rV (.int (gS moG0 j)))) hx hb ACint rfl (fun C h => by cases h) rfl hK hw (fun j _ => rfl) (by decide) (by decide) (by decide) (Nat.le_of_ble_eq_true rfl) (Nat.le_of_ble_eq_true rfl) dX12_init_17 (fun q17 H17 hw eq17 k17 nq17 => ?_)
  have zq17 : s.heap.size ≤ q17 := by rw [eq17]; exact hsz
  have ho := ho.kept (k17 a0 ho.lt)
  have g17 := hp_sub_up (ct := .inl (0, 2400, (fun j => rV (.int (gS moG0 j))))) nq17
  have hgr := hgr.up (ct := .inl (0, 2400, (fun j => rV (.int (gS moG0 j))))) zq17 nq17
  have hq17 := hp_up_s T8 q17 (.inl (0, 2400, (fun j => rV (.int (gS moG0 j)))))
  generalize hp_up T8 q17 (.inl (0, 2400, (fun j => rV (.int (gS moG0 j))))) = T17 at hw g17 hgr hq17
  have hq8 : T17 q8 = some (.inl (1, 400, (fun _ => rA))) := g17 _ _ hq8
  have hTa : T17 a0 = none := hgr.nn hT0 ha0
  have hsz : s.heap.size ≤ H17.size := hw.2.1
  refine W.widen (k := 2) (n := 2800) (by omega) (by omega) ?_
  refine mk_putF hx hb hts IX12 tyX12 tyX12_ok nmX12 hown hK hw ho hTa (Or.inl rfl) rfl 3 (by decide) L13 rfl hin0 rfl rfl rfl dX12_init_19 (fun H19 locs19 hw ho => ?_)
  have hsz : s.heap.size ≤ H19.size := hw.2.1
  refine lv_aload_n hx hb dX12_init_22 rfl (lv_at hl 0 rfl) ?_
  refine lv_bipush (v := 7) hx hb dX12_init_23 (by decide) ?_
  refine mk_newa (atype := .int) (t0 := 0) (N' := 7) (P := (fun _ => (rI 0 400))) hx hb ACint rfl (fun C h => by cases h) rfl hK hw (fun j _ => ⟨0, rfl, by decide, by decide⟩) (by decide) (by decide) (by decide) (Nat.le_of_ble_eq_true rfl) (Nat.le_of_ble_eq_true rfl) dX12_init_25 (fun q25 H25 hw eq25 k25 nq25 => ?_)
  have zq25 : s.heap.size ≤ q25 := by rw [eq25]; exact hsz
  have ho := ho.kept (k25 a0 ho.lt)
  have g25 := hp_sub_up (ct := .inl (0, 7, (fun _ => (rI 0 400)))) nq25
  have hgr := hgr.up (ct := .inl (0, 7, (fun _ => (rI 0 400)))) zq25 nq25
  have hq25 := hp_up_s T17 q25 (.inl (0, 7, (fun _ => (rI 0 400))))
  generalize hp_up T17 q25 (.inl (0, 7, (fun _ => (rI 0 400)))) = T25 at hw g25 hgr hq25
  have hq8 : T25 q8 = some (.inl (1, 400, (fun _ => rA))) := g25 _ _ hq8
  have hq17 : T25 q17 = some (.inl (0, 2400, (fun j => rV (.int (gS moG0 j))))) := g25 _ _ hq17
  have hTa : T25 a0 = none := hgr.nn hT0 ha0
  have hsz : s.heap.size ≤ H25.size := hw.2.1
  refine W.widen (k := 3) (n := 2807) (by omega) (by omega) ?_
  refine mk_putF hx hb hts IX12 tyX12 tyX12_ok nmX12 hown hK hw ho hTa (Or.inl rfl) rfl 4 (by decide) L17 rfl hin0 rfl rfl rfl dX12_init_27 (fun H27 locs27 hw ho => ?_)
  have hsz : s.heap.size ≤ H27.size := hw.2.1
  refine lv_aload_n hx hb dX12_init_30 rfl (lv_at hl 0 rfl) ?_
  refine lv_sipush (v := 288) hx hb dX12_init_31 (by decide) ?_
  refine mk_newa (atype := .int) (t0 := 0) (N' := 288) (P := (fun j => rV (.int (gK moG0 j)))) hx hb ACint rfl (fun C h => by cases h) rfl hK hw (fun j _ => rfl) (by decide) (by decide) (by decide) (Nat.le_of_ble_eq_true rfl) (Nat.le_of_ble_eq_true rfl) dX12_init_34 (fun q34 H34 hw eq34 k34 nq34 => ?_)
  have zq34 : s.heap.size ≤ q34 := by rw [eq34]; exact hsz
  have ho := ho.kept (k34 a0 ho.lt)
  have g34 := hp_sub_up (ct := .inl (0, 288, (fun j => rV (.int (gK moG0 j))))) nq34
  have hgr := hgr.up (ct := .inl (0, 288, (fun j => rV (.int (gK moG0 j))))) zq34 nq34
  have hq34 := hp_up_s T25 q34 (.inl (0, 288, (fun j => rV (.int (gK moG0 j)))))
  generalize hp_up T25 q34 (.inl (0, 288, (fun j => rV (.int (gK moG0 j))))) = T34 at hw g34 hgr hq34
  have hq8 : T34 q8 = some (.inl (1, 400, (fun _ => rA))) := g34 _ _ hq8
  have hq17 : T34 q17 = some (.inl (0, 2400, (fun j => rV (.int (gS moG0 j))))) := g34 _ _ hq17
  have hq25 : T34 q25 = some (.inl (0, 7, (fun _ => (rI 0 400)))) := g34 _ _ hq25
  have hTa : T34 a0 = none := hgr.nn hT0 ha0
  have hsz : s.heap.size ≤ H34.size := hw.2.1
  refine W.widen (k := 4) (n := 3095) (by omega) (by omega) ?_
  refine mk_putF hx hb hts IX12 tyX12 tyX12_ok nmX12 hown hK hw ho hTa (Or.inl rfl) rfl 5 (by decide) L20 rfl hin0 rfl rfl rfl dX12_init_36 (fun H36 locs36 hw ho => ?_)
  have hsz : s.heap.size ≤ H36.size := hw.2.1
  refine lv_aload_n hx hb dX12_init_39 rfl (lv_at hl 0 rfl) ?_
  refine lv_bipush (v := 6) hx hb dX12_init_40 (by decide) ?_
  refine mk_newa (atype := .int) (t0 := 0) (N' := 6) (P := (fun j => rV (.int (gC moG0 j)))) hx hb ACint rfl (fun C h => by cases h) rfl hK hw (fun j _ => rfl) (by decide) (by decide) (by decide) (Nat.le_of_ble_eq_true rfl) (Nat.le_of_ble_eq_true rfl) dX12_init_42 (fun q42 H42 hw eq42 k42 nq42 => ?_)
  have zq42 : s.heap.size ≤ q42 := by rw [eq42]; exact hsz
  have ho := ho.kept (k42 a0 ho.lt)
  have g42 := hp_sub_up (ct := .inl (0, 6, (fun j => rV (.int (gC moG0 j))))) nq42
  have hgr := hgr.up (ct := .inl (0, 6, (fun j => rV (.int (gC moG0 j))))) zq42 nq42
  have hq42 := hp_up_s T34 q42 (.inl (0, 6, (fun j => rV (.int (gC moG0 j)))))
  generalize hp_up T34 q42 (.inl (0, 6, (fun j => rV (.int (gC moG0 j))))) = T42 at hw g42 hgr hq42
  have hq8 : T42 q8 = some (.inl (1, 400, (fun _ => rA))) := g42 _ _ hq8
  have hq17 : T42 q17 = some (.inl (0, 2400, (fun j => rV (.int (gS moG0 j))))) := g42 _ _ hq17
  have hq25 : T42 q25 = some (.inl (0, 7, (fun _ => (rI 0 400)))) := g42 _ _ hq25
  have hq34 : T42 q34 = some (.inl (0, 288, (fun j => rV (.int (gK moG0 j))))) := g42 _ _ hq34
  have hTa : T42 a0 = none := hgr.nn hT0 ha0
  have hsz : s.heap.size ≤ H42.size := hw.2.1
  refine W.widen (k := 5) (n := 3101) (by omega) (by omega) ?_
  refine mk_putF hx hb hts IX12 tyX12 tyX12_ok nmX12 hown hK hw ho hTa (Or.inl rfl) rfl 6 (by decide) L23 rfl hin0 rfl rfl rfl dX12_init_44 (fun H44 locs44 hw ho => ?_)
  have hsz : s.heap.size ≤ H44.size := hw.2.1
  refine lv_aload_n hx hb dX12_init_47 rfl (lv_at hl 0 rfl) ?_
  refine lv_sipush (v := 170) hx hb dX12_init_48 (by decide) ?_
  refine mk_newa (atype := .int) (t0 := 0) (N' := 170) (P := rP) hx hb ACint rfl (fun C h => by cases h) rfl hK hw (fun j _ => rP_zero _) (by decide) (by decide) (by decide) (Nat.le_of_ble_eq_true rfl) (Nat.le_of_ble_eq_true rfl) dX12_init_51 (fun q51 H51 hw eq51 k51 nq51 => ?_)
  have zq51 : s.heap.size ≤ q51 := by rw [eq51]; exact hsz
  have ho := ho.kept (k51 a0 ho.lt)
  have g51 := hp_sub_up (ct := .inl (0, 170, rP)) nq51
  have hgr := hgr.up (ct := .inl (0, 170, rP)) zq51 nq51
  have hq51 := hp_up_s T42 q51 (.inl (0, 170, rP))
  generalize hp_up T42 q51 (.inl (0, 170, rP)) = T51 at hw g51 hgr hq51
  have hq8 : T51 q8 = some (.inl (1, 400, (fun _ => rA))) := g51 _ _ hq8
  have hq17 : T51 q17 = some (.inl (0, 2400, (fun j => rV (.int (gS moG0 j))))) := g51 _ _ hq17
  have hq25 : T51 q25 = some (.inl (0, 7, (fun _ => (rI 0 400)))) := g51 _ _ hq25
  have hq34 : T51 q34 = some (.inl (0, 288, (fun j => rV (.int (gK moG0 j))))) := g51 _ _ hq34
  have hq42 : T51 q42 = some (.inl (0, 6, (fun j => rV (.int (gC moG0 j))))) := g51 _ _ hq42
  have hTa : T51 a0 = none := hgr.nn hT0 ha0
  have hsz : s.heap.size ≤ H51.size := hw.2.1
  refine W.widen (k := 6) (n := 3271) (by omega) (by omega) ?_
  refine mk_putF hx hb hts IX12 tyX12 tyX12_ok nmX12 hown hK hw ho hTa (Or.inl rfl) rfl 7 (by decide) L26 rfl hin0 rfl rfl rfl dX12_init_53 (fun H53 locs53 hw ho => ?_)
  have hsz : s.heap.size ≤ H53.size := hw.2.1
  refine lv_aload_n hx hb dX12_init_56 rfl (lv_at hl 0 rfl) ?_
  refine lv_sipush (v := 400) hx hb dX12_init_57 (by decide) ?_
  refine mk_newa (atype := .int) (t0 := 0) (N' := 400) (P := (fun _ => rA)) hx hb ACint rfl (fun C h => by cases h) rfl hK hw (fun j _ => ⟨0, rfl⟩) (by decide) (by decide) (by decide) (Nat.le_of_ble_eq_true rfl) (Nat.le_of_ble_eq_true rfl) dX12_init_60 (fun q60 H60 hw eq60 k60 nq60 => ?_)
  have zq60 : s.heap.size ≤ q60 := by rw [eq60]; exact hsz
  have ho := ho.kept (k60 a0 ho.lt)
  have g60 := hp_sub_up (ct := .inl (0, 400, (fun _ => rA))) nq60
  have hgr := hgr.up (ct := .inl (0, 400, (fun _ => rA))) zq60 nq60
  have hq60 := hp_up_s T51 q60 (.inl (0, 400, (fun _ => rA)))
  generalize hp_up T51 q60 (.inl (0, 400, (fun _ => rA))) = T60 at hw g60 hgr hq60
  have hq8 : T60 q8 = some (.inl (1, 400, (fun _ => rA))) := g60 _ _ hq8
  have hq17 : T60 q17 = some (.inl (0, 2400, (fun j => rV (.int (gS moG0 j))))) := g60 _ _ hq17
  have hq25 : T60 q25 = some (.inl (0, 7, (fun _ => (rI 0 400)))) := g60 _ _ hq25
  have hq34 : T60 q34 = some (.inl (0, 288, (fun j => rV (.int (gK moG0 j))))) := g60 _ _ hq34
  have hq42 : T60 q42 = some (.inl (0, 6, (fun j => rV (.int (gC moG0 j))))) := g60 _ _ hq42
  have hq51 : T60 q51 = some (.inl (0, 170, rP)) := g60 _ _ hq51
  have hTa : T60 a0 = none := hgr.nn hT0 ha0
  have hsz : s.heap.size ≤ H60.size := hw.2.1
  refine W.widen (k := 7) (n := 3671) (by omega) (by omega) ?_
  refine mk_putF hx hb hts IX12 tyX12 tyX12_ok nmX12 hown hK hw ho hTa (Or.inl rfl) rfl 15 (by decide) L29 rfl hin0 rfl rfl rfl dX12_init_62 (fun H62 locs62 hw ho => ?_)
  have hsz : s.heap.size ≤ H62.size := hw.2.1
  refine lv_aload_n hx hb dX12_init_65 rfl (lv_at hl 0 rfl) ?_
  refine lv_bipush (v := 64) hx hb dX12_init_66 (by decide) ?_
  refine mk_newa (atype := .long) (t0 := 3) (N' := 64) (P := (fun _ => rL)) hx hb AClong rfl (fun C h => by cases h) rfl hK hw (fun j _ => ⟨0, rfl⟩) (by decide) (by decide) (by decide) (Nat.le_of_ble_eq_true rfl) (Nat.le_of_ble_eq_true rfl) dX12_init_68 (fun q68 H68 hw eq68 k68 nq68 => ?_)
  have zq68 : s.heap.size ≤ q68 := by rw [eq68]; exact hsz
  have ho := ho.kept (k68 a0 ho.lt)
  have g68 := hp_sub_up (ct := .inl (3, 64, (fun _ => rL))) nq68
  have hgr := hgr.up (ct := .inl (3, 64, (fun _ => rL))) zq68 nq68
  have hq68 := hp_up_s T60 q68 (.inl (3, 64, (fun _ => rL)))
  generalize hp_up T60 q68 (.inl (3, 64, (fun _ => rL))) = T68 at hw g68 hgr hq68
  have hq8 : T68 q8 = some (.inl (1, 400, (fun _ => rA))) := g68 _ _ hq8
  have hq17 : T68 q17 = some (.inl (0, 2400, (fun j => rV (.int (gS moG0 j))))) := g68 _ _ hq17
  have hq25 : T68 q25 = some (.inl (0, 7, (fun _ => (rI 0 400)))) := g68 _ _ hq25
  have hq34 : T68 q34 = some (.inl (0, 288, (fun j => rV (.int (gK moG0 j))))) := g68 _ _ hq34
  have hq42 : T68 q42 = some (.inl (0, 6, (fun j => rV (.int (gC moG0 j))))) := g68 _ _ hq42
  have hq51 : T68 q51 = some (.inl (0, 170, rP)) := g68 _ _ hq51
  have hq60 : T68 q60 = some (.inl (0, 400, (fun _ => rA))) := g68 _ _ hq60
  have hTa : T68 a0 = none := hgr.nn hT0 ha0
  have hsz : s.heap.size ≤ H68.size := hw.2.1
  refine W.widen (k := 8) (n := 3735) (by omega) (by omega) ?_
  refine mk_putF hx hb hts IX12 tyX12 tyX12_ok nmX12 hown hK hw ho hTa (Or.inl rfl) rfl 17 (by decide) L32 rfl hin0 rfl rfl rfl dX12_init_70 (fun H70 locs70 hw ho => ?_)
  have hsz : s.heap.size ≤ H70.size := hw.2.1
  refine lv_aload_n hx hb dX12_init_73 rfl (lv_at hl 0 rfl) ?_
  refine lv_bipush (v := 11) hx hb dX12_init_74 (by decide) ?_
  refine mk_newa (atype := .long) (t0 := 3) (N' := 11) (P := (fun _ => rL)) hx hb AClong rfl (fun C h => by cases h) rfl hK hw (fun j _ => ⟨0, rfl⟩) (by decide) (by decide) (by decide) (Nat.le_of_ble_eq_true rfl) (Nat.le_of_ble_eq_true rfl) dX12_init_76 (fun q76 H76 hw eq76 k76 nq76 => ?_)
  have zq76 : s.heap.size ≤ q76 := by rw [eq76]; exact hsz
  have ho := ho.kept (k76 a0 ho.lt)
  have g76 := hp_sub_up (ct := .inl (3, 11, (fun _ => rL))) nq76
  have hgr := hgr.up (ct := .inl (3, 11, (fun _ => rL))) zq76 nq76
  have hq76 := hp_up_s T68 q76 (.inl (3, 11, (fun _ => rL)))
  generalize hp_up T68 q76 (.inl (3, 11, (fun _ => rL))) = T76 at hw g76 hgr hq76
  have hq8 : T76 q8 = some (.inl (1, 400, (fun _ => rA))) := g76 _ _ hq8
  have hq17 : T76 q17 = some (.inl (0, 2400, (fun j => rV (.int (gS moG0 j))))) := g76 _ _ hq17
  have hq25 : T76 q25 = some (.inl (0, 7, (fun _ => (rI 0 400)))) := g76 _ _ hq25
  have hq34 : T76 q34 = some (.inl (0, 288, (fun j => rV (.int (gK moG0 j))))) := g76 _ _ hq34
  have hq42 : T76 q42 = some (.inl (0, 6, (fun j => rV (.int (gC moG0 j))))) := g76 _ _ hq42
  have hq51 : T76 q51 = some (.inl (0, 170, rP)) := g76 _ _ hq51
  have hq60 : T76 q60 = some (.inl (0, 400, (fun _ => rA))) := g76 _ _ hq60
  have hq68 : T76 q68 = some (.inl (3, 64, (fun _ => rL))) := g76 _ _ hq68
  have hTa : T76 a0 = none := hgr.nn hT0 ha0
  have hsz : s.heap.size ≤ H76.size := hw.2.1
  refine W.widen (k := 9) (n := 3746) (by omega) (by omega) ?_
  refine mk_putF hx hb hts IX12 tyX12 tyX12_ok nmX12 hown hK hw ho hTa (Or.inl rfl) rfl 19 (by decide) L36 rfl hin0 rfl rfl rfl dX12_init_78 (fun H78 locs78 hw ho => ?_)
  have hsz : s.heap.size ≤ H78.size := hw.2.1
  refine lv_aload_n hx hb dX12_init_81 rfl (lv_at hl 0 rfl) ?_
  refine lv_sipush (v := 211) hx hb dX12_init_82 (by decide) ?_
  refine mk_newa (atype := .int) (t0 := 0) (N' := 211) (P := (gs moG0)) hx hb ACint rfl (fun C h => by cases h) rfl hK hw (fun j _ => sP_zero _) (by decide) (by decide) (by decide) (Nat.le_of_ble_eq_true rfl) (Nat.le_of_ble_eq_true rfl) dX12_init_85 (fun q85 H85 hw eq85 k85 nq85 => ?_)
  have zq85 : s.heap.size ≤ q85 := by rw [eq85]; exact hsz
  have ho := ho.kept (k85 a0 ho.lt)
  have g85 := hp_sub_up (ct := .inl (0, 211, (gs moG0))) nq85
  have hgr := hgr.up (ct := .inl (0, 211, (gs moG0))) zq85 nq85
  have hq85 := hp_up_s T76 q85 (.inl (0, 211, (gs moG0)))
  generalize hp_up T76 q85 (.inl (0, 211, (gs moG0))) = T85 at hw g85 hgr hq85
  have hq8 : T85 q8 = some (.inl (1, 400, (fun _ => rA))) := g85 _ _ hq8
  have hq17 : T85 q17 = some (.inl (0, 2400, (fun j => rV (.int (gS moG0 j))))) := g85 _ _ hq17
  have hq25 : T85 q25 = some (.inl (0, 7, (fun _ => (rI 0 400)))) := g85 _ _ hq25
  have hq34 : T85 q34 = some (.inl (0, 288, (fun j => rV (.int (gK moG0 j))))) := g85 _ _ hq34
  have hq42 : T85 q42 = some (.inl (0, 6, (fun j => rV (.int (gC moG0 j))))) := g85 _ _ hq42
  have hq51 : T85 q51 = some (.inl (0, 170, rP)) := g85 _ _ hq51
  have hq60 : T85 q60 = some (.inl (0, 400, (fun _ => rA))) := g85 _ _ hq60
  have hq68 : T85 q68 = some (.inl (3, 64, (fun _ => rL))) := g85 _ _ hq68
  have hq76 : T85 q76 = some (.inl (3, 11, (fun _ => rL))) := g85 _ _ hq76
  have hTa : T85 a0 = none := hgr.nn hT0 ha0
  have hsz : s.heap.size ≤ H85.size := hw.2.1
  refine W.widen (k := 10) (n := 3957) (by omega) (by omega) ?_
  refine mk_putF hx hb hts IX12 tyX12 tyX12_ok nmX12 hown hK hw ho hTa (Or.inl rfl) rfl 20 (by decide) L39 rfl hin0 rfl rfl rfl dX12_init_87 (fun H87 locs87 hw ho => ?_)
  have hsz : s.heap.size ≤ H87.size := hw.2.1
  refine lv_aload_n hx hb dX12_init_90 rfl (lv_at hl 0 rfl) ?_
  refine lv_iconst (v := (-1)) hx hb dX12_init_91 (by decide) ?_
  refine mk_put hx hb hts IX12 tyX12 tyX12_ok nmX12 hown hK hw ho hTa (Or.inl rfl) rfl 21 (by decide) L42 rfl rfl rfl dX12_init_92 (fun H92 locs92 hw ho => ?_)
  have hsz : s.heap.size ≤ H92.size := hw.2.1
  refine lv_aload_n hx hb dX12_init_95 rfl (lv_at hl 0 rfl) ?_
  refine lv_sipush (v := 3400) hx hb dX12_init_96 (by decide) ?_
  refine mk_newa (atype := .int) (t0 := 0) (N' := 3400) (P := wP) hx hb ACint rfl (fun C h => by cases h) rfl hK hw (fun j _ => rP_zero _) (by decide) (by decide) (by decide) (Nat.le_of_ble_eq_true rfl) (Nat.le_of_ble_eq_true rfl) dX12_init_99 (fun q99 H99 hw eq99 k99 nq99 => ?_)
  have zq99 : s.heap.size ≤ q99 := by rw [eq99]; exact hsz
  have ho := ho.kept (k99 a0 ho.lt)
  have g99 := hp_sub_up (ct := .inl (0, 3400, wP)) nq99
  have hgr := hgr.up (ct := .inl (0, 3400, wP)) zq99 nq99
  have hq99 := hp_up_s T85 q99 (.inl (0, 3400, wP))
  generalize hp_up T85 q99 (.inl (0, 3400, wP)) = T99 at hw g99 hgr hq99
  have hq8 : T99 q8 = some (.inl (1, 400, (fun _ => rA))) := g99 _ _ hq8
  have hq17 : T99 q17 = some (.inl (0, 2400, (fun j => rV (.int (gS moG0 j))))) := g99 _ _ hq17
  have hq25 : T99 q25 = some (.inl (0, 7, (fun _ => (rI 0 400)))) := g99 _ _ hq25
  have hq34 : T99 q34 = some (.inl (0, 288, (fun j => rV (.int (gK moG0 j))))) := g99 _ _ hq34
  have hq42 : T99 q42 = some (.inl (0, 6, (fun j => rV (.int (gC moG0 j))))) := g99 _ _ hq42
  have hq51 : T99 q51 = some (.inl (0, 170, rP)) := g99 _ _ hq51
  have hq60 : T99 q60 = some (.inl (0, 400, (fun _ => rA))) := g99 _ _ hq60
  have hq68 : T99 q68 = some (.inl (3, 64, (fun _ => rL))) := g99 _ _ hq68
  have hq76 : T99 q76 = some (.inl (3, 11, (fun _ => rL))) := g99 _ _ hq76
  have hq85 : T99 q85 = some (.inl (0, 211, (gs moG0))) := g99 _ _ hq85
  have hTa : T99 a0 = none := hgr.nn hT0 ha0
  have hsz : s.heap.size ≤ H99.size := hw.2.1
  refine W.widen (k := 11) (n := 7357) (by omega) (by omega) ?_
  refine mk_putF hx hb hts IX12 tyX12 tyX12_ok nmX12 hown hK hw ho hTa (Or.inl rfl) rfl 23 (by decide) L46 rfl hin0 rfl rfl rfl dX12_init_101 (fun H101 locs101 hw ho => ?_)
  have hsz : s.heap.size ≤ H101.size := hw.2.1
  refine lv_aload_n hx hb dX12_init_104 rfl (lv_at hl 0 rfl) ?_
  refine lv_sipush (v := 1024) hx hb dX12_init_105 (by decide) ?_
  refine mk_newa (atype := .int) (t0 := 0) (N' := 1024) (P := (fun _ => (rI 0 1023))) hx hb ACint rfl (fun C h => by cases h) rfl hK hw (fun j _ => ⟨0, rfl, by decide, by decide⟩) (by decide) (by decide) (by decide) (Nat.le_of_ble_eq_true rfl) (Nat.le_of_ble_eq_true rfl) dX12_init_108 (fun q108 H108 hw eq108 k108 nq108 => ?_)
  have zq108 : s.heap.size ≤ q108 := by rw [eq108]; exact hsz
  have ho := ho.kept (k108 a0 ho.lt)
  have g108 := hp_sub_up (ct := .inl (0, 1024, (fun _ => (rI 0 1023)))) nq108
  have hgr := hgr.up (ct := .inl (0, 1024, (fun _ => (rI 0 1023)))) zq108 nq108
  have hq108 := hp_up_s T99 q108 (.inl (0, 1024, (fun _ => (rI 0 1023))))
  generalize hp_up T99 q108 (.inl (0, 1024, (fun _ => (rI 0 1023)))) = T108 at hw g108 hgr hq108
  have hq8 : T108 q8 = some (.inl (1, 400, (fun _ => rA))) := g108 _ _ hq8
  have hq17 : T108 q17 = some (.inl (0, 2400, (fun j => rV (.int (gS moG0 j))))) := g108 _ _ hq17
  have hq25 : T108 q25 = some (.inl (0, 7, (fun _ => (rI 0 400)))) := g108 _ _ hq25
  have hq34 : T108 q34 = some (.inl (0, 288, (fun j => rV (.int (gK moG0 j))))) := g108 _ _ hq34
  have hq42 : T108 q42 = some (.inl (0, 6, (fun j => rV (.int (gC moG0 j))))) := g108 _ _ hq42
  have hq51 : T108 q51 = some (.inl (0, 170, rP)) := g108 _ _ hq51
  have hq60 : T108 q60 = some (.inl (0, 400, (fun _ => rA))) := g108 _ _ hq60
  have hq68 : T108 q68 = some (.inl (3, 64, (fun _ => rL))) := g108 _ _ hq68
  have hq76 : T108 q76 = some (.inl (3, 11, (fun _ => rL))) := g108 _ _ hq76
  have hq85 : T108 q85 = some (.inl (0, 211, (gs moG0))) := g108 _ _ hq85
  have hq99 : T108 q99 = some (.inl (0, 3400, wP)) := g108 _ _ hq99
  have hTa : T108 a0 = none := hgr.nn hT0 ha0
  have hsz : s.heap.size ≤ H108.size := hw.2.1
  refine W.widen (k := 12) (n := 8381) (by omega) (by omega) ?_
  refine mk_putF hx hb hts IX12 tyX12 tyX12_ok nmX12 hown hK hw ho hTa (Or.inl rfl) rfl 25 (by decide) L49 rfl hin0 rfl rfl rfl dX12_init_110 (fun H110 locs110 hw ho => ?_)
  have hsz : s.heap.size ≤ H110.size := hw.2.1
  refine lv_aload_n hx hb dX12_init_113 rfl (lv_at hl 0 rfl) ?_
  refine lv_sipush (v := 1024) hx hb dX12_init_114 (by decide) ?_
  refine mk_newa (atype := .int) (t0 := 0) (N' := 1024) (P := (fun _ => rA)) hx hb ACint rfl (fun C h => by cases h) rfl hK hw (fun j _ => ⟨0, rfl⟩) (by decide) (by decide) (by decide) (Nat.le_of_ble_eq_true rfl) (Nat.le_of_ble_eq_true rfl) dX12_init_117 (fun q117 H117 hw eq117 k117 nq117 => ?_)
  have zq117 : s.heap.size ≤ q117 := by rw [eq117]; exact hsz
  have ho := ho.kept (k117 a0 ho.lt)
  have g117 := hp_sub_up (ct := .inl (0, 1024, (fun _ => rA))) nq117
  have hgr := hgr.up (ct := .inl (0, 1024, (fun _ => rA))) zq117 nq117
  have hq117 := hp_up_s T108 q117 (.inl (0, 1024, (fun _ => rA)))
  generalize hp_up T108 q117 (.inl (0, 1024, (fun _ => rA))) = T117 at hw g117 hgr hq117
  have hq8 : T117 q8 = some (.inl (1, 400, (fun _ => rA))) := g117 _ _ hq8
  have hq17 : T117 q17 = some (.inl (0, 2400, (fun j => rV (.int (gS moG0 j))))) := g117 _ _ hq17
  have hq25 : T117 q25 = some (.inl (0, 7, (fun _ => (rI 0 400)))) := g117 _ _ hq25
  have hq34 : T117 q34 = some (.inl (0, 288, (fun j => rV (.int (gK moG0 j))))) := g117 _ _ hq34
  have hq42 : T117 q42 = some (.inl (0, 6, (fun j => rV (.int (gC moG0 j))))) := g117 _ _ hq42
  have hq51 : T117 q51 = some (.inl (0, 170, rP)) := g117 _ _ hq51
  have hq60 : T117 q60 = some (.inl (0, 400, (fun _ => rA))) := g117 _ _ hq60
  have hq68 : T117 q68 = some (.inl (3, 64, (fun _ => rL))) := g117 _ _ hq68
  have hq76 : T117 q76 = some (.inl (3, 11, (fun _ => rL))) := g117 _ _ hq76
  have hq85 : T117 q85 = some (.inl (0, 211, (gs moG0))) := g117 _ _ hq85
  have hq99 : T117 q99 = some (.inl (0, 3400, wP)) := g117 _ _ hq99
  have hq108 : T117 q108 = some (.inl (0, 1024, (fun _ => (rI 0 1023)))) := g117 _ _ hq108
  have hTa : T117 a0 = none := hgr.nn hT0 ha0
  have hsz : s.heap.size ≤ H117.size := hw.2.1
  refine W.widen (k := 13) (n := 9405) (by omega) (by omega) ?_
  refine mk_putF hx hb hts IX12 tyX12 tyX12_ok nmX12 hown hK hw ho hTa (Or.inl rfl) rfl 27 (by decide) L52 rfl hin0 rfl rfl rfl dX12_init_119 (fun H119 locs119 hw ho => ?_)
  have hsz : s.heap.size ≤ H119.size := hw.2.1
  refine lv_aload_n hx hb dX12_init_122 rfl (lv_at hl 0 rfl) ?_
  refine lv_sipush (v := 1536) hx hb dX12_init_123 (by decide) ?_
  refine mk_newa (atype := .int) (t0 := 0) (N' := 1536) (P := (fun _ => rA)) hx hb ACint rfl (fun C h => by cases h) rfl hK hw (fun j _ => ⟨0, rfl⟩) (by decide) (by decide) (by decide) (Nat.le_of_ble_eq_true rfl) (Nat.le_of_ble_eq_true rfl) dX12_init_126 (fun q126 H126 hw eq126 k126 nq126 => ?_)
  have zq126 : s.heap.size ≤ q126 := by rw [eq126]; exact hsz
  have ho := ho.kept (k126 a0 ho.lt)
  have g126 := hp_sub_up (ct := .inl (0, 1536, (fun _ => rA))) nq126
  have hgr := hgr.up (ct := .inl (0, 1536, (fun _ => rA))) zq126 nq126
  have hq126 := hp_up_s T117 q126 (.inl (0, 1536, (fun _ => rA)))
  generalize hp_up T117 q126 (.inl (0, 1536, (fun _ => rA))) = T126 at hw g126 hgr hq126
  have hq8 : T126 q8 = some (.inl (1, 400, (fun _ => rA))) := g126 _ _ hq8
  have hq17 : T126 q17 = some (.inl (0, 2400, (fun j => rV (.int (gS moG0 j))))) := g126 _ _ hq17
  have hq25 : T126 q25 = some (.inl (0, 7, (fun _ => (rI 0 400)))) := g126 _ _ hq25
  have hq34 : T126 q34 = some (.inl (0, 288, (fun j => rV (.int (gK moG0 j))))) := g126 _ _ hq34
  have hq42 : T126 q42 = some (.inl (0, 6, (fun j => rV (.int (gC moG0 j))))) := g126 _ _ hq42
  have hq51 : T126 q51 = some (.inl (0, 170, rP)) := g126 _ _ hq51
  have hq60 : T126 q60 = some (.inl (0, 400, (fun _ => rA))) := g126 _ _ hq60
  have hq68 : T126 q68 = some (.inl (3, 64, (fun _ => rL))) := g126 _ _ hq68
  have hq76 : T126 q76 = some (.inl (3, 11, (fun _ => rL))) := g126 _ _ hq76
  have hq85 : T126 q85 = some (.inl (0, 211, (gs moG0))) := g126 _ _ hq85
  have hq99 : T126 q99 = some (.inl (0, 3400, wP)) := g126 _ _ hq99
  have hq108 : T126 q108 = some (.inl (0, 1024, (fun _ => (rI 0 1023)))) := g126 _ _ hq108
  have hq117 : T126 q117 = some (.inl (0, 1024, (fun _ => rA))) := g126 _ _ hq117
  have hTa : T126 a0 = none := hgr.nn hT0 ha0
  have hsz : s.heap.size ≤ H126.size := hw.2.1
  refine W.widen (k := 14) (n := 10941) (by omega) (by omega) ?_
  refine mk_putF hx hb hts IX12 tyX12 tyX12_ok nmX12 hown hK hw ho hTa (Or.inl rfl) rfl 28 (by decide) L55 rfl hin0 rfl rfl rfl dX12_init_128 (fun H128 locs128 hw ho => ?_)
  have hsz : s.heap.size ≤ H128.size := hw.2.1
  refine lv_aload_n hx hb dX12_init_131 rfl (lv_at hl 0 rfl) ?_
  refine lv_sipush (v := 3072) hx hb dX12_init_132 (by decide) ?_
  refine mk_newa (atype := .int) (t0 := 0) (N' := 3072) (P := (fun _ => rA)) hx hb ACint rfl (fun C h => by cases h) rfl hK hw (fun j _ => ⟨0, rfl⟩) (by decide) (by decide) (by decide) (Nat.le_of_ble_eq_true rfl) (Nat.le_of_ble_eq_true rfl) dX12_init_135 (fun q135 H135 hw eq135 k135 nq135 => ?_)
  have zq135 : s.heap.size ≤ q135 := by rw [eq135]; exact hsz
  have ho := ho.kept (k135 a0 ho.lt)
  have g135 := hp_sub_up (ct := .inl (0, 3072, (fun _ => rA))) nq135
  have hgr := hgr.up (ct := .inl (0, 3072, (fun _ => rA))) zq135 nq135
  have hq135 := hp_up_s T126 q135 (.inl (0, 3072, (fun _ => rA)))
  generalize hp_up T126 q135 (.inl (0, 3072, (fun _ => rA))) = T135 at hw g135 hgr hq135
  have hq8 : T135 q8 = some (.inl (1, 400, (fun _ => rA))) := g135 _ _ hq8
  have hq17 : T135 q17 = some (.inl (0, 2400, (fun j => rV (.int (gS moG0 j))))) := g135 _ _ hq17
  have hq25 : T135 q25 = some (.inl (0, 7, (fun _ => (rI 0 400)))) := g135 _ _ hq25
  have hq34 : T135 q34 = some (.inl (0, 288, (fun j => rV (.int (gK moG0 j))))) := g135 _ _ hq34
  have hq42 : T135 q42 = some (.inl (0, 6, (fun j => rV (.int (gC moG0 j))))) := g135 _ _ hq42
  have hq51 : T135 q51 = some (.inl (0, 170, rP)) := g135 _ _ hq51
  have hq60 : T135 q60 = some (.inl (0, 400, (fun _ => rA))) := g135 _ _ hq60
  have hq68 : T135 q68 = some (.inl (3, 64, (fun _ => rL))) := g135 _ _ hq68
  have hq76 : T135 q76 = some (.inl (3, 11, (fun _ => rL))) := g135 _ _ hq76
  have hq85 : T135 q85 = some (.inl (0, 211, (gs moG0))) := g135 _ _ hq85
  have hq99 : T135 q99 = some (.inl (0, 3400, wP)) := g135 _ _ hq99
  have hq108 : T135 q108 = some (.inl (0, 1024, (fun _ => (rI 0 1023)))) := g135 _ _ hq108
  have hq117 : T135 q117 = some (.inl (0, 1024, (fun _ => rA))) := g135 _ _ hq117
  have hq126 : T135 q126 = some (.inl (0, 1536, (fun _ => rA))) := g135 _ _ hq126
  have hTa : T135 a0 = none := hgr.nn hT0 ha0
  have hsz : s.heap.size ≤ H135.size := hw.2.1
  refine W.widen (k := 15) (n := 14013) (by omega) (by omega) ?_
  refine mk_putF hx hb hts IX12 tyX12 tyX12_ok nmX12 hown hK hw ho hTa (Or.inl rfl) rfl 29 (by decide) L58 rfl hin0 rfl rfl rfl dX12_init_137 (fun H137 locs137 hw ho => ?_)
  have hsz : s.heap.size ≤ H137.size := hw.2.1
  refine lv_aload_n hx hb dX12_init_140 rfl (lv_at hl 0 rfl) ?_
  refine lv_bipush (v := 45) hx hb dX12_init_141 (by decide) ?_
  refine mk_newa (atype := .int) (t0 := 0) (N' := 45) (P := (fun _ => rA)) hx hb ACint rfl (fun C h => by cases h) rfl hK hw (fun j _ => ⟨0, rfl⟩) (by decide) (by decide) (by decide) (Nat.le_of_ble_eq_true rfl) (Nat.le_of_ble_eq_true rfl) dX12_init_143 (fun q143 H143 hw eq143 k143 nq143 => ?_)
  have zq143 : s.heap.size ≤ q143 := by rw [eq143]; exact hsz
  have ho := ho.kept (k143 a0 ho.lt)
  have g143 := hp_sub_up (ct := .inl (0, 45, (fun _ => rA))) nq143
  have hgr := hgr.up (ct := .inl (0, 45, (fun _ => rA))) zq143 nq143
  have hq143 := hp_up_s T135 q143 (.inl (0, 45, (fun _ => rA)))
  generalize hp_up T135 q143 (.inl (0, 45, (fun _ => rA))) = T143 at hw g143 hgr hq143
  have hq8 : T143 q8 = some (.inl (1, 400, (fun _ => rA))) := g143 _ _ hq8
  have hq17 : T143 q17 = some (.inl (0, 2400, (fun j => rV (.int (gS moG0 j))))) := g143 _ _ hq17
  have hq25 : T143 q25 = some (.inl (0, 7, (fun _ => (rI 0 400)))) := g143 _ _ hq25
  have hq34 : T143 q34 = some (.inl (0, 288, (fun j => rV (.int (gK moG0 j))))) := g143 _ _ hq34
  have hq42 : T143 q42 = some (.inl (0, 6, (fun j => rV (.int (gC moG0 j))))) := g143 _ _ hq42
  have hq51 : T143 q51 = some (.inl (0, 170, rP)) := g143 _ _ hq51
  have hq60 : T143 q60 = some (.inl (0, 400, (fun _ => rA))) := g143 _ _ hq60
  have hq68 : T143 q68 = some (.inl (3, 64, (fun _ => rL))) := g143 _ _ hq68
  have hq76 : T143 q76 = some (.inl (3, 11, (fun _ => rL))) := g143 _ _ hq76
  have hq85 : T143 q85 = some (.inl (0, 211, (gs moG0))) := g143 _ _ hq85
  have hq99 : T143 q99 = some (.inl (0, 3400, wP)) := g143 _ _ hq99
  have hq108 : T143 q108 = some (.inl (0, 1024, (fun _ => (rI 0 1023)))) := g143 _ _ hq108
  have hq117 : T143 q117 = some (.inl (0, 1024, (fun _ => rA))) := g143 _ _ hq117
  have hq126 : T143 q126 = some (.inl (0, 1536, (fun _ => rA))) := g143 _ _ hq126
  have hq135 : T143 q135 = some (.inl (0, 3072, (fun _ => rA))) := g143 _ _ hq135
  have hTa : T143 a0 = none := hgr.nn hT0 ha0
  have hsz : s.heap.size ≤ H143.size := hw.2.1
  refine W.widen (k := 16) (n := 14058) (by omega) (by omega) ?_
  refine mk_putF hx hb hts IX12 tyX12 tyX12_ok nmX12 hown hK hw ho hTa (Or.inl rfl) rfl 30 (by decide) L61 rfl hin0 rfl rfl rfl dX12_init_145 (fun H145 locs145 hw ho => ?_)
  have hsz : s.heap.size ≤ H145.size := hw.2.1
  refine lv_aload_n hx hb dX12_init_148 rfl (lv_at hl 0 rfl) ?_
  refine lv_bipush (v := 45) hx hb dX12_init_149 (by decide) ?_
  refine mk_newa (atype := .int) (t0 := 0) (N' := 45) (P := (fun _ => rA)) hx hb ACint rfl (fun C h => by cases h) rfl hK hw (fun j _ => ⟨0, rfl⟩) (by decide) (by decide) (by decide) (Nat.le_of_ble_eq_true rfl) (Nat.le_of_ble_eq_true rfl) dX12_init_151 (fun q151 H151 hw eq151 k151 nq151 => ?_)
  have zq151 : s.heap.size ≤ q151 := by rw [eq151]; exact hsz
  have ho := ho.kept (k151 a0 ho.lt)
  have hAB : q143 ≠ q151 := fun z => by rw [← z, hq143] at nq151; cases nq151
  have g151 := hp_sub_up (ct := .inl (0, 45, (fun _ => rA))) nq151
  have hgr := hgr.up (ct := .inl (0, 45, (fun _ => rA))) zq151 nq151
  have hq151 := hp_up_s T143 q151 (.inl (0, 45, (fun _ => rA)))
  generalize hp_up T143 q151 (.inl (0, 45, (fun _ => rA))) = T151 at hw g151 hgr hq151
  have hq8 : T151 q8 = some (.inl (1, 400, (fun _ => rA))) := g151 _ _ hq8
  have hq17 : T151 q17 = some (.inl (0, 2400, (fun j => rV (.int (gS moG0 j))))) := g151 _ _ hq17
  have hq25 : T151 q25 = some (.inl (0, 7, (fun _ => (rI 0 400)))) := g151 _ _ hq25
  have hq34 : T151 q34 = some (.inl (0, 288, (fun j => rV (.int (gK moG0 j))))) := g151 _ _ hq34
  have hq42 : T151 q42 = some (.inl (0, 6, (fun j => rV (.int (gC moG0 j))))) := g151 _ _ hq42
  have hq51 : T151 q51 = some (.inl (0, 170, rP)) := g151 _ _ hq51
  have hq60 : T151 q60 = some (.inl (0, 400, (fun _ => rA))) := g151 _ _ hq60
  have hq68 : T151 q68 = some (.inl (3, 64, (fun _ => rL))) := g151 _ _ hq68
  have hq76 : T151 q76 = some (.inl (3, 11, (fun _ => rL))) := g151 _ _ hq76
  have hq85 : T151 q85 = some (.inl (0, 211, (gs moG0))) := g151 _ _ hq85
  have hq99 : T151 q99 = some (.inl (0, 3400, wP)) := g151 _ _ hq99
  have hq108 : T151 q108 = some (.inl (0, 1024, (fun _ => (rI 0 1023)))) := g151 _ _ hq108
  have hq117 : T151 q117 = some (.inl (0, 1024, (fun _ => rA))) := g151 _ _ hq117
  have hq126 : T151 q126 = some (.inl (0, 1536, (fun _ => rA))) := g151 _ _ hq126
  have hq135 : T151 q135 = some (.inl (0, 3072, (fun _ => rA))) := g151 _ _ hq135
  have hq143 : T151 q143 = some (.inl (0, 45, (fun _ => rA))) := g151 _ _ hq143
  have hTa : T151 a0 = none := hgr.nn hT0 ha0
  have hsz : s.heap.size ≤ H151.size := hw.2.1
  refine W.widen (k := 17) (n := 14103) (by omega) (by omega) ?_
  refine mk_putF hx hb hts IX12 tyX12 tyX12_ok nmX12 hown hK hw ho hTa (Or.inl rfl) rfl 31 (by decide) L64 rfl hin0 rfl rfl rfl dX12_init_153 (fun H153 locs153 hw ho => ?_)
  have hsz : s.heap.size ≤ H153.size := hw.2.1
  refine lv_aload_n hx hb dX12_init_156 rfl (lv_at hl 0 rfl) ?_
  refine lv_sipush (v := 130) hx hb dX12_init_157 (by decide) ?_
  refine mk_newa (atype := .int) (t0 := 0) (N' := 130) (P := kP) hx hb ACint rfl (fun C h => by cases h) rfl hK hw (fun j _ => rP_zero _) (by decide) (by decide) (by decide) (Nat.le_of_ble_eq_true rfl) (Nat.le_of_ble_eq_true rfl) dX12_init_160 (fun q160 H160 hw eq160 k160 nq160 => ?_)
  have zq160 : s.heap.size ≤ q160 := by rw [eq160]; exact hsz
  have ho := ho.kept (k160 a0 ho.lt)
  have g160 := hp_sub_up (ct := .inl (0, 130, kP)) nq160
  have hgr := hgr.up (ct := .inl (0, 130, kP)) zq160 nq160
  have hq160 := hp_up_s T151 q160 (.inl (0, 130, kP))
  generalize hp_up T151 q160 (.inl (0, 130, kP)) = T160 at hw g160 hgr hq160
  have hq8 : T160 q8 = some (.inl (1, 400, (fun _ => rA))) := g160 _ _ hq8
  have hq17 : T160 q17 = some (.inl (0, 2400, (fun j => rV (.int (gS moG0 j))))) := g160 _ _ hq17
  have hq25 : T160 q25 = some (.inl (0, 7, (fun _ => (rI 0 400)))) := g160 _ _ hq25
  have hq34 : T160 q34 = some (.inl (0, 288, (fun j => rV (.int (gK moG0 j))))) := g160 _ _ hq34
  have hq42 : T160 q42 = some (.inl (0, 6, (fun j => rV (.int (gC moG0 j))))) := g160 _ _ hq42
  have hq51 : T160 q51 = some (.inl (0, 170, rP)) := g160 _ _ hq51
  have hq60 : T160 q60 = some (.inl (0, 400, (fun _ => rA))) := g160 _ _ hq60
  have hq68 : T160 q68 = some (.inl (3, 64, (fun _ => rL))) := g160 _ _ hq68
  have hq76 : T160 q76 = some (.inl (3, 11, (fun _ => rL))) := g160 _ _ hq76
  have hq85 : T160 q85 = some (.inl (0, 211, (gs moG0))) := g160 _ _ hq85
  have hq99 : T160 q99 = some (.inl (0, 3400, wP)) := g160 _ _ hq99
  have hq108 : T160 q108 = some (.inl (0, 1024, (fun _ => (rI 0 1023)))) := g160 _ _ hq108
  have hq117 : T160 q117 = some (.inl (0, 1024, (fun _ => rA))) := g160 _ _ hq117
  have hq126 : T160 q126 = some (.inl (0, 1536, (fun _ => rA))) := g160 _ _ hq126
  have hq135 : T160 q135 = some (.inl (0, 3072, (fun _ => rA))) := g160 _ _ hq135
  have hq143 : T160 q143 = some (.inl (0, 45, (fun _ => rA))) := g160 _ _ hq143
  have hq151 : T160 q151 = some (.inl (0, 45, (fun _ => rA))) := g160 _ _ hq151
  have hTa : T160 a0 = none := hgr.nn hT0 ha0
  have hsz : s.heap.size ≤ H160.size := hw.2.1
  refine W.widen (k := 18) (n := 14233) (by omega) (by omega) ?_
  refine mk_putF hx hb hts IX12 tyX12 tyX12_ok nmX12 hown hK hw ho hTa (Or.inl rfl) rfl 36 (by decide) L67 rfl hin0 rfl rfl rfl dX12_init_162 (fun H162 locs162 hw ho => ?_)
  have hsz : s.heap.size ≤ H162.size := hw.2.1
  refine lv_aload_n hx hb dX12_init_165 rfl (lv_at hl 0 rfl) ?_
  refine lv_sipush (v := 844) hx hb dX12_init_166 (by decide) ?_
  refine mk_newa (atype := .int) (t0 := 0) (N' := 844) (P := iP) hx hb ACint rfl (fun C h => by cases h) rfl hK hw (fun j _ => sP_zero _) (by decide) (by decide) (by decide) (Nat.le_of_ble_eq_true rfl) (Nat.le_of_ble_eq_true rfl) dX12_init_169 (fun q169 H169 hw eq169 k169 nq169 => ?_)
  have zq169 : s.heap.size ≤ q169 := by rw [eq169]; exact hsz
  have ho := ho.kept (k169 a0 ho.lt)
  have g169 := hp_sub_up (ct := .inl (0, 844, iP)) nq169
  have hgr := hgr.up (ct := .inl (0, 844, iP)) zq169 nq169
  have hq169 := hp_up_s T160 q169 (.inl (0, 844, iP))
  generalize hp_up T160 q169 (.inl (0, 844, iP)) = T169 at hw g169 hgr hq169
  have hq8 : T169 q8 = some (.inl (1, 400, (fun _ => rA))) := g169 _ _ hq8
  have hq17 : T169 q17 = some (.inl (0, 2400, (fun j => rV (.int (gS moG0 j))))) := g169 _ _ hq17
  have hq25 : T169 q25 = some (.inl (0, 7, (fun _ => (rI 0 400)))) := g169 _ _ hq25
  have hq34 : T169 q34 = some (.inl (0, 288, (fun j => rV (.int (gK moG0 j))))) := g169 _ _ hq34
  have hq42 : T169 q42 = some (.inl (0, 6, (fun j => rV (.int (gC moG0 j))))) := g169 _ _ hq42
  have hq51 : T169 q51 = some (.inl (0, 170, rP)) := g169 _ _ hq51
  have hq60 : T169 q60 = some (.inl (0, 400, (fun _ => rA))) := g169 _ _ hq60
  have hq68 : T169 q68 = some (.inl (3, 64, (fun _ => rL))) := g169 _ _ hq68
  have hq76 : T169 q76 = some (.inl (3, 11, (fun _ => rL))) := g169 _ _ hq76
  have hq85 : T169 q85 = some (.inl (0, 211, (gs moG0))) := g169 _ _ hq85
  have hq99 : T169 q99 = some (.inl (0, 3400, wP)) := g169 _ _ hq99
  have hq108 : T169 q108 = some (.inl (0, 1024, (fun _ => (rI 0 1023)))) := g169 _ _ hq108
  have hq117 : T169 q117 = some (.inl (0, 1024, (fun _ => rA))) := g169 _ _ hq117
  have hq126 : T169 q126 = some (.inl (0, 1536, (fun _ => rA))) := g169 _ _ hq126
  have hq135 : T169 q135 = some (.inl (0, 3072, (fun _ => rA))) := g169 _ _ hq135
  have hq143 : T169 q143 = some (.inl (0, 45, (fun _ => rA))) := g169 _ _ hq143
  have hq151 : T169 q151 = some (.inl (0, 45, (fun _ => rA))) := g169 _ _ hq151
  have hq160 : T169 q160 = some (.inl (0, 130, kP)) := g169 _ _ hq160
  have hTa : T169 a0 = none := hgr.nn hT0 ha0
  have hsz : s.heap.size ≤ H169.size := hw.2.1
  refine W.widen (k := 19) (n := 15077) (by omega) (by omega) ?_
  refine mk_putF hx hb hts IX12 tyX12 tyX12_ok nmX12 hown hK hw ho hTa (Or.inl rfl) rfl 38 (by decide) L70 rfl hin0 rfl rfl rfl dX12_init_171 (fun H171 locs171 hw ho => ?_)
  have hsz : s.heap.size ≤ H171.size := hw.2.1
  refine lv_aload_n hx hb dX12_init_174 rfl (lv_at hl 0 rfl) ?_
  refine lv_sipush (v := 13600) hx hb dX12_init_175 (by decide) ?_
  refine mk_newa (atype := .int) (t0 := 0) (N' := 13600) (P := wP) hx hb ACint rfl (fun C h => by cases h) rfl hK hw (fun j _ => rP_zero _) (by decide) (by decide) (by decide) (Nat.le_of_ble_eq_true rfl) (Nat.le_of_ble_eq_true rfl) dX12_init_178 (fun q178 H178 hw eq178 k178 nq178 => ?_)
  have zq178 : s.heap.size ≤ q178 := by rw [eq178]; exact hsz
  have ho := ho.kept (k178 a0 ho.lt)
  have g178 := hp_sub_up (ct := .inl (0, 13600, wP)) nq178
  have hgr := hgr.up (ct := .inl (0, 13600, wP)) zq178 nq178
  have hq178 := hp_up_s T169 q178 (.inl (0, 13600, wP))
  generalize hp_up T169 q178 (.inl (0, 13600, wP)) = T178 at hw g178 hgr hq178
  have hq8 : T178 q8 = some (.inl (1, 400, (fun _ => rA))) := g178 _ _ hq8
  have hq17 : T178 q17 = some (.inl (0, 2400, (fun j => rV (.int (gS moG0 j))))) := g178 _ _ hq17
  have hq25 : T178 q25 = some (.inl (0, 7, (fun _ => (rI 0 400)))) := g178 _ _ hq25
  have hq34 : T178 q34 = some (.inl (0, 288, (fun j => rV (.int (gK moG0 j))))) := g178 _ _ hq34
  have hq42 : T178 q42 = some (.inl (0, 6, (fun j => rV (.int (gC moG0 j))))) := g178 _ _ hq42
  have hq51 : T178 q51 = some (.inl (0, 170, rP)) := g178 _ _ hq51
  have hq60 : T178 q60 = some (.inl (0, 400, (fun _ => rA))) := g178 _ _ hq60
  have hq68 : T178 q68 = some (.inl (3, 64, (fun _ => rL))) := g178 _ _ hq68
  have hq76 : T178 q76 = some (.inl (3, 11, (fun _ => rL))) := g178 _ _ hq76
  have hq85 : T178 q85 = some (.inl (0, 211, (gs moG0))) := g178 _ _ hq85
  have hq99 : T178 q99 = some (.inl (0, 3400, wP)) := g178 _ _ hq99
  have hq108 : T178 q108 = some (.inl (0, 1024, (fun _ => (rI 0 1023)))) := g178 _ _ hq108
  have hq117 : T178 q117 = some (.inl (0, 1024, (fun _ => rA))) := g178 _ _ hq117
  have hq126 : T178 q126 = some (.inl (0, 1536, (fun _ => rA))) := g178 _ _ hq126
  have hq135 : T178 q135 = some (.inl (0, 3072, (fun _ => rA))) := g178 _ _ hq135
  have hq143 : T178 q143 = some (.inl (0, 45, (fun _ => rA))) := g178 _ _ hq143
  have hq151 : T178 q151 = some (.inl (0, 45, (fun _ => rA))) := g178 _ _ hq151
  have hq160 : T178 q160 = some (.inl (0, 130, kP)) := g178 _ _ hq160
  have hq169 : T178 q169 = some (.inl (0, 844, iP)) := g178 _ _ hq169
  have hTa : T178 a0 = none := hgr.nn hT0 ha0
  have hsz : s.heap.size ≤ H178.size := hw.2.1
  refine W.widen (k := 20) (n := 28677) (by omega) (by omega) ?_
  refine mk_putF hx hb hts IX12 tyX12 tyX12_ok nmX12 hown hK hw ho hTa (Or.inl rfl) rfl 39 (by decide) L73 rfl hin0 rfl rfl rfl dX12_init_180 (fun H180 locs180 hw ho => ?_)
  have hsz : s.heap.size ≤ H180.size := hw.2.1
  refine lv_aload_n hx hb dX12_init_183 rfl (lv_at hl 0 rfl) ?_
  refine lv_iconst (v := 4) hx hb dX12_init_184 (by decide) ?_
  refine mk_newa (atype := .int) (t0 := 0) (N' := 4) (P := (fun _ => (rI 0 20))) hx hb ACint rfl (fun C h => by cases h) rfl hK hw (fun j _ => ⟨0, rfl, by decide, by decide⟩) (by decide) (by decide) (by decide) (Nat.le_of_ble_eq_true rfl) (Nat.le_of_ble_eq_true rfl) dX12_init_185 (fun q185 H185 hw eq185 k185 nq185 => ?_)
  have zq185 : s.heap.size ≤ q185 := by rw [eq185]; exact hsz
  have ho := ho.kept (k185 a0 ho.lt)
  have g185 := hp_sub_up (ct := .inl (0, 4, (fun _ => (rI 0 20)))) nq185
  have hgr := hgr.up (ct := .inl (0, 4, (fun _ => (rI 0 20)))) zq185 nq185
  have hq185 := hp_up_s T178 q185 (.inl (0, 4, (fun _ => (rI 0 20))))
  generalize hp_up T178 q185 (.inl (0, 4, (fun _ => (rI 0 20)))) = T185 at hw g185 hgr hq185
  have hq8 : T185 q8 = some (.inl (1, 400, (fun _ => rA))) := g185 _ _ hq8
  have hq17 : T185 q17 = some (.inl (0, 2400, (fun j => rV (.int (gS moG0 j))))) := g185 _ _ hq17
  have hq25 : T185 q25 = some (.inl (0, 7, (fun _ => (rI 0 400)))) := g185 _ _ hq25
  have hq34 : T185 q34 = some (.inl (0, 288, (fun j => rV (.int (gK moG0 j))))) := g185 _ _ hq34
  have hq42 : T185 q42 = some (.inl (0, 6, (fun j => rV (.int (gC moG0 j))))) := g185 _ _ hq42
  have hq51 : T185 q51 = some (.inl (0, 170, rP)) := g185 _ _ hq51
  have hq60 : T185 q60 = some (.inl (0, 400, (fun _ => rA))) := g185 _ _ hq60
  have hq68 : T185 q68 = some (.inl (3, 64, (fun _ => rL))) := g185 _ _ hq68
  have hq76 : T185 q76 = some (.inl (3, 11, (fun _ => rL))) := g185 _ _ hq76
  have hq85 : T185 q85 = some (.inl (0, 211, (gs moG0))) := g185 _ _ hq85
  have hq99 : T185 q99 = some (.inl (0, 3400, wP)) := g185 _ _ hq99
  have hq108 : T185 q108 = some (.inl (0, 1024, (fun _ => (rI 0 1023)))) := g185 _ _ hq108
  have hq117 : T185 q117 = some (.inl (0, 1024, (fun _ => rA))) := g185 _ _ hq117
  have hq126 : T185 q126 = some (.inl (0, 1536, (fun _ => rA))) := g185 _ _ hq126
  have hq135 : T185 q135 = some (.inl (0, 3072, (fun _ => rA))) := g185 _ _ hq135
  have hq143 : T185 q143 = some (.inl (0, 45, (fun _ => rA))) := g185 _ _ hq143
  have hq151 : T185 q151 = some (.inl (0, 45, (fun _ => rA))) := g185 _ _ hq151
  have hq160 : T185 q160 = some (.inl (0, 130, kP)) := g185 _ _ hq160
  have hq169 : T185 q169 = some (.inl (0, 844, iP)) := g185 _ _ hq169
  have hq178 : T185 q178 = some (.inl (0, 13600, wP)) := g185 _ _ hq178
  have hTa : T185 a0 = none := hgr.nn hT0 ha0
  have hsz : s.heap.size ≤ H185.size := hw.2.1
  refine W.widen (k := 21) (n := 28681) (by omega) (by omega) ?_
  refine mk_putF hx hb hts IX12 tyX12 tyX12_ok nmX12 hown hK hw ho hTa (Or.inl rfl) rfl 40 (by decide) L76 rfl hin0 rfl rfl rfl dX12_init_187 (fun H187 locs187 hw ho => ?_)
  have hsz : s.heap.size ≤ H187.size := hw.2.1
  refine lv_aload_n hx hb dX12_init_190 rfl (lv_at hl 0 rfl) ?_
  refine lv_iconst (v := 4) hx hb dX12_init_191 (by decide) ?_
  refine mk_newa (atype := .int) (t0 := 0) (N' := 4) (P := (fun _ => (rI (-1) 5))) hx hb ACint rfl (fun C h => by cases h) rfl hK hw (fun j _ => ⟨0, rfl, by decide, by decide⟩) (by decide) (by decide) (by decide) (Nat.le_of_ble_eq_true rfl) (Nat.le_of_ble_eq_true rfl) dX12_init_192 (fun q192 H192 hw eq192 k192 nq192 => ?_)
  have zq192 : s.heap.size ≤ q192 := by rw [eq192]; exact hsz
  have ho := ho.kept (k192 a0 ho.lt)
  have g192 := hp_sub_up (ct := .inl (0, 4, (fun _ => (rI (-1) 5)))) nq192
  have hgr := hgr.up (ct := .inl (0, 4, (fun _ => (rI (-1) 5)))) zq192 nq192
  have hq192 := hp_up_s T185 q192 (.inl (0, 4, (fun _ => (rI (-1) 5))))
  generalize hp_up T185 q192 (.inl (0, 4, (fun _ => (rI (-1) 5)))) = T192 at hw g192 hgr hq192
  have hq8 : T192 q8 = some (.inl (1, 400, (fun _ => rA))) := g192 _ _ hq8
  have hq17 : T192 q17 = some (.inl (0, 2400, (fun j => rV (.int (gS moG0 j))))) := g192 _ _ hq17
  have hq25 : T192 q25 = some (.inl (0, 7, (fun _ => (rI 0 400)))) := g192 _ _ hq25
  have hq34 : T192 q34 = some (.inl (0, 288, (fun j => rV (.int (gK moG0 j))))) := g192 _ _ hq34
  have hq42 : T192 q42 = some (.inl (0, 6, (fun j => rV (.int (gC moG0 j))))) := g192 _ _ hq42
  have hq51 : T192 q51 = some (.inl (0, 170, rP)) := g192 _ _ hq51
  have hq60 : T192 q60 = some (.inl (0, 400, (fun _ => rA))) := g192 _ _ hq60
  have hq68 : T192 q68 = some (.inl (3, 64, (fun _ => rL))) := g192 _ _ hq68
  have hq76 : T192 q76 = some (.inl (3, 11, (fun _ => rL))) := g192 _ _ hq76
  have hq85 : T192 q85 = some (.inl (0, 211, (gs moG0))) := g192 _ _ hq85
  have hq99 : T192 q99 = some (.inl (0, 3400, wP)) := g192 _ _ hq99
  have hq108 : T192 q108 = some (.inl (0, 1024, (fun _ => (rI 0 1023)))) := g192 _ _ hq108
  have hq117 : T192 q117 = some (.inl (0, 1024, (fun _ => rA))) := g192 _ _ hq117
  have hq126 : T192 q126 = some (.inl (0, 1536, (fun _ => rA))) := g192 _ _ hq126
  have hq135 : T192 q135 = some (.inl (0, 3072, (fun _ => rA))) := g192 _ _ hq135
  have hq143 : T192 q143 = some (.inl (0, 45, (fun _ => rA))) := g192 _ _ hq143
  have hq151 : T192 q151 = some (.inl (0, 45, (fun _ => rA))) := g192 _ _ hq151
  have hq160 : T192 q160 = some (.inl (0, 130, kP)) := g192 _ _ hq160
  have hq169 : T192 q169 = some (.inl (0, 844, iP)) := g192 _ _ hq169
  have hq178 : T192 q178 = some (.inl (0, 13600, wP)) := g192 _ _ hq178
  have hq185 : T192 q185 = some (.inl (0, 4, (fun _ => (rI 0 20)))) := g192 _ _ hq185
  have hTa : T192 a0 = none := hgr.nn hT0 ha0
  have hsz : s.heap.size ≤ H192.size := hw.2.1
  refine W.widen (k := 22) (n := 28685) (by omega) (by omega) ?_
  refine mk_putF hx hb hts IX12 tyX12 tyX12_ok nmX12 hown hK hw ho hTa (Or.inl rfl) rfl 41 (by decide) L79 rfl hin0 rfl rfl rfl dX12_init_194 (fun H194 locs194 hw ho => ?_)
  have hsz : s.heap.size ≤ H194.size := hw.2.1
  refine lv_aload_n hx hb dX12_init_197 rfl (lv_at hl 0 rfl) ?_
  refine lv_iconst (v := 4) hx hb dX12_init_198 (by decide) ?_
  refine mk_newa (atype := .int) (t0 := 0) (N' := 4) (P := (gX moG0)) hx hb ACint rfl (fun C h => by cases h) rfl hK hw (fun j _ => rfl) (by decide) (by decide) (by decide) (Nat.le_of_ble_eq_true rfl) (Nat.le_of_ble_eq_true rfl) dX12_init_199 (fun q199 H199 hw eq199 k199 nq199 => ?_)
  have zq199 : s.heap.size ≤ q199 := by rw [eq199]; exact hsz
  have ho := ho.kept (k199 a0 ho.lt)
  have g199 := hp_sub_up (ct := .inl (0, 4, (gX moG0))) nq199
  have hgr := hgr.up (ct := .inl (0, 4, (gX moG0))) zq199 nq199
  have hq199 := hp_up_s T192 q199 (.inl (0, 4, (gX moG0)))
  generalize hp_up T192 q199 (.inl (0, 4, (gX moG0))) = T199 at hw g199 hgr hq199
  have hq8 : T199 q8 = some (.inl (1, 400, (fun _ => rA))) := g199 _ _ hq8
  have hq17 : T199 q17 = some (.inl (0, 2400, (fun j => rV (.int (gS moG0 j))))) := g199 _ _ hq17
  have hq25 : T199 q25 = some (.inl (0, 7, (fun _ => (rI 0 400)))) := g199 _ _ hq25
  have hq34 : T199 q34 = some (.inl (0, 288, (fun j => rV (.int (gK moG0 j))))) := g199 _ _ hq34
  have hq42 : T199 q42 = some (.inl (0, 6, (fun j => rV (.int (gC moG0 j))))) := g199 _ _ hq42
  have hq51 : T199 q51 = some (.inl (0, 170, rP)) := g199 _ _ hq51
  have hq60 : T199 q60 = some (.inl (0, 400, (fun _ => rA))) := g199 _ _ hq60
  have hq68 : T199 q68 = some (.inl (3, 64, (fun _ => rL))) := g199 _ _ hq68
  have hq76 : T199 q76 = some (.inl (3, 11, (fun _ => rL))) := g199 _ _ hq76
  have hq85 : T199 q85 = some (.inl (0, 211, (gs moG0))) := g199 _ _ hq85
  have hq99 : T199 q99 = some (.inl (0, 3400, wP)) := g199 _ _ hq99
  have hq108 : T199 q108 = some (.inl (0, 1024, (fun _ => (rI 0 1023)))) := g199 _ _ hq108
  have hq117 : T199 q117 = some (.inl (0, 1024, (fun _ => rA))) := g199 _ _ hq117
  have hq126 : T199 q126 = some (.inl (0, 1536, (fun _ => rA))) := g199 _ _ hq126
  have hq135 : T199 q135 = some (.inl (0, 3072, (fun _ => rA))) := g199 _ _ hq135
  have hq143 : T199 q143 = some (.inl (0, 45, (fun _ => rA))) := g199 _ _ hq143
  have hq151 : T199 q151 = some (.inl (0, 45, (fun _ => rA))) := g199 _ _ hq151
  have hq160 : T199 q160 = some (.inl (0, 130, kP)) := g199 _ _ hq160
  have hq169 : T199 q169 = some (.inl (0, 844, iP)) := g199 _ _ hq169
  have hq178 : T199 q178 = some (.inl (0, 13600, wP)) := g199 _ _ hq178
  have hq185 : T199 q185 = some (.inl (0, 4, (fun _ => (rI 0 20)))) := g199 _ _ hq185
  have hq192 : T199 q192 = some (.inl (0, 4, (fun _ => (rI (-1) 5)))) := g199 _ _ hq192
  have hTa : T199 a0 = none := hgr.nn hT0 ha0
  have hsz : s.heap.size ≤ H199.size := hw.2.1
  refine W.widen (k := 23) (n := 28689) (by omega) (by omega) ?_
  refine mk_putF hx hb hts IX12 tyX12 tyX12_ok nmX12 hown hK hw ho hTa (Or.inl rfl) rfl 42 (by decide) L82 rfl hin0 rfl rfl rfl dX12_init_201 (fun H201 locs201 hw ho => ?_)
  have hsz : s.heap.size ≤ H201.size := hw.2.1
  refine lv_aload_n hx hb dX12_init_204 rfl (lv_at hl 0 rfl) ?_
  refine lv_iconst (v := 4) hx hb dX12_init_205 (by decide) ?_
  refine mk_newa (atype := .boolean) (t0 := 2) (N' := 4) (P := (gM moG0)) hx hb ACboolean rfl (fun C h => by cases h) rfl hK hw (fun j _ => rfl) (by decide) (by decide) (by decide) (Nat.le_of_ble_eq_true rfl) (Nat.le_of_ble_eq_true rfl) dX12_init_206 (fun q206 H206 hw eq206 k206 nq206 => ?_)
  have zq206 : s.heap.size ≤ q206 := by rw [eq206]; exact hsz
  have ho := ho.kept (k206 a0 ho.lt)
  have g206 := hp_sub_up (ct := .inl (2, 4, (gM moG0))) nq206
  have hgr := hgr.up (ct := .inl (2, 4, (gM moG0))) zq206 nq206
  have hq206 := hp_up_s T199 q206 (.inl (2, 4, (gM moG0)))
  generalize hp_up T199 q206 (.inl (2, 4, (gM moG0))) = T206 at hw g206 hgr hq206
  have hq8 : T206 q8 = some (.inl (1, 400, (fun _ => rA))) := g206 _ _ hq8
  have hq17 : T206 q17 = some (.inl (0, 2400, (fun j => rV (.int (gS moG0 j))))) := g206 _ _ hq17
  have hq25 : T206 q25 = some (.inl (0, 7, (fun _ => (rI 0 400)))) := g206 _ _ hq25
  have hq34 : T206 q34 = some (.inl (0, 288, (fun j => rV (.int (gK moG0 j))))) := g206 _ _ hq34
  have hq42 : T206 q42 = some (.inl (0, 6, (fun j => rV (.int (gC moG0 j))))) := g206 _ _ hq42
  have hq51 : T206 q51 = some (.inl (0, 170, rP)) := g206 _ _ hq51
  have hq60 : T206 q60 = some (.inl (0, 400, (fun _ => rA))) := g206 _ _ hq60
  have hq68 : T206 q68 = some (.inl (3, 64, (fun _ => rL))) := g206 _ _ hq68
  have hq76 : T206 q76 = some (.inl (3, 11, (fun _ => rL))) := g206 _ _ hq76
  have hq85 : T206 q85 = some (.inl (0, 211, (gs moG0))) := g206 _ _ hq85
  have hq99 : T206 q99 = some (.inl (0, 3400, wP)) := g206 _ _ hq99
  have hq108 : T206 q108 = some (.inl (0, 1024, (fun _ => (rI 0 1023)))) := g206 _ _ hq108
  have hq117 : T206 q117 = some (.inl (0, 1024, (fun _ => rA))) := g206 _ _ hq117
  have hq126 : T206 q126 = some (.inl (0, 1536, (fun _ => rA))) := g206 _ _ hq126
  have hq135 : T206 q135 = some (.inl (0, 3072, (fun _ => rA))) := g206 _ _ hq135
  have hq143 : T206 q143 = some (.inl (0, 45, (fun _ => rA))) := g206 _ _ hq143
  have hq151 : T206 q151 = some (.inl (0, 45, (fun _ => rA))) := g206 _ _ hq151
  have hq160 : T206 q160 = some (.inl (0, 130, kP)) := g206 _ _ hq160
  have hq169 : T206 q169 = some (.inl (0, 844, iP)) := g206 _ _ hq169
  have hq178 : T206 q178 = some (.inl (0, 13600, wP)) := g206 _ _ hq178
  have hq185 : T206 q185 = some (.inl (0, 4, (fun _ => (rI 0 20)))) := g206 _ _ hq185
  have hq192 : T206 q192 = some (.inl (0, 4, (fun _ => (rI (-1) 5)))) := g206 _ _ hq192
  have hq199 : T206 q199 = some (.inl (0, 4, (gX moG0))) := g206 _ _ hq199
  have hTa : T206 a0 = none := hgr.nn hT0 ha0
  have hsz : s.heap.size ≤ H206.size := hw.2.1
  refine W.widen (k := 24) (n := 28693) (by omega) (by omega) ?_
  refine mk_putF hx hb hts IX12 tyX12 tyX12_ok nmX12 hown hK hw ho hTa (Or.inl rfl) rfl 43 (by decide) L85 rfl hin0 rfl rfl rfl dX12_init_208 (fun H208 locs208 hw ho => ?_)
  have hsz : s.heap.size ≤ H208.size := hw.2.1
  have hsu := hp_sub_up (ct := .inr (12, [(rR q8), (rI 0 400), (rI 0 6), (rR q17), (rR q25), (rR q34), (rR q42), (rR q51), (rI 0 400), rA, rA, (rI 0 6), rA, rA, rA, (rR q60), (rI 0 400), (rR q68), (rI 0 64), (rR q76), (rR q85), (rI (-1) 5), (gx moG0), (rR q99), (rI 0 20), (rR q108), (rI 0 1024), (rR q117), (rR q126), (rR q135), (rR q143), (rR q151), (rI 0 45), rA, rA, rA, (rR q160), rL, (rR q169), (rR q178), (rR q185), (rR q192), (rR q199), (rR q206)])) hTa
  have hfin : isMo (hp_up T206 a0 (.inr (12, [(rR q8), (rI 0 400), (rI 0 6), (rR q17), (rR q25), (rR q34), (rR q42), (rR q51), (rI 0 400), rA, rA, (rI 0 6), rA, rA, rA, (rR q60), (rI 0 400), (rR q68), (rI 0 64), (rR q76), (rR q85), (rI (-1) 5), (gx moG0), (rR q99), (rI 0 20), (rR q108), (rI 0 1024), (rR q117), (rR q126), (rR q135), (rR q143), (rR q151), (rI 0 45), rA, rA, rA, (rR q160), rL, (rR q169), (rR q178), (rR q185), (rR q192), (rR q199), (rR q206)]))) a0 moG0 ∧ moD (hp_up T206 a0 (.inr (12, [(rR q8), (rI 0 400), (rI 0 6), (rR q17), (rR q25), (rR q34), (rR q42), (rR q51), (rI 0 400), rA, rA, (rI 0 6), rA, rA, rA, (rR q60), (rI 0 400), (rR q68), (rI 0 64), (rR q76), (rR q85), (rI (-1) 5), (gx moG0), (rR q99), (rI 0 20), (rR q108), (rI 0 1024), (rR q117), (rR q126), (rR q135), (rR q143), (rR q151), (rI 0 45), rA, rA, rA, (rR q160), rL, (rR q169), (rR q178), (rR q185), (rR q192), (rR q199), (rR q206)]))) a0 := ⟨⟨q8, q17, q25, q34, q42, q51, q60, q68, q76, q85, q99, q108, q117, q126, q135, q143, q151, q160, q169, q178, q185, q192, q199, q206, moG0_ok, hp_up_s _ _ _, hsu _ _ hq8, hsu _ _ hq17, hsu _ _ hq25, hsu _ _ hq34, hsu _ _ hq42, hsu _ _ hq51, hsu _ _ hq60, hsu _ _ hq68, hsu _ _ hq76, hsu _ _ hq85, hsu _ _ hq99, hsu _ _ hq108, hsu _ _ hq117, hsu _ _ hq126, hsu _ _ hq135, hsu _ _ hq143, hsu _ _ hq151, hsu _ _ hq160, hsu _ _ hq169, hsu _ _ hq178, hsu _ _ hq185, hsu _ _ hq192, hsu _ _ hq199, hsu _ _ hq206⟩, ⟨_, _, _, hp_up_s _ _ _, rfl, rfl, hAB⟩⟩
  have hok : hp_ok D (hp_up T206 a0 (.inr (12, [(rR q8), (rI 0 400), (rI 0 6), (rR q17), (rR q25), (rR q34), (rR q42), (rR q51), (rI 0 400), rA, rA, (rI 0 6), rA, rA, rA, (rR q60), (rI 0 400), (rR q68), (rI 0 64), (rR q76), (rR q85), (rI (-1) 5), (gx moG0), (rR q99), (rI 0 20), (rR q108), (rI 0 1024), (rR q117), (rR q126), (rR q135), (rR q143), (rR q151), (rI 0 45), rA, rA, rA, (rR q160), rL, (rR q169), (rR q178), (rR q185), (rR q192), (rR q199), (rR q206)]))) H208 := mk_end hw.1 hTa ho (by
    intro k P hk
    match k, hk with
    | 0, hk => cases hk; exact rfl
    | 1, hk => cases hk; exact ⟨0, rfl, ⟨by decide, by decide⟩⟩
    | 2, hk => cases hk; exact ⟨0, rfl, ⟨by decide, by decide⟩⟩
    | 3, hk => cases hk; exact rfl
    | 4, hk => cases hk; exact rfl
    | 5, hk => cases hk; exact rfl
    | 6, hk => cases hk; exact rfl
    | 7, hk => cases hk; exact rfl
    | 8, hk => cases hk; exact ⟨0, rfl, ⟨by decide, by decide⟩⟩
    | 9, hk => cases hk; exact ⟨0, rfl⟩
    | 10, hk => cases hk; exact ⟨0, rfl⟩
    | 11, hk => cases hk; exact ⟨0, rfl, ⟨by decide, by decide⟩⟩
    | 12, hk => cases hk; exact ⟨0, rfl⟩
    | 13, hk => cases hk; exact ⟨0, rfl⟩
    | 14, hk => cases hk; exact ⟨0, rfl⟩
    | 15, hk => cases hk; exact rfl
    | 16, hk => cases hk; exact ⟨0, rfl, ⟨by decide, by decide⟩⟩
    | 17, hk => cases hk; exact rfl
    | 18, hk => cases hk; exact ⟨0, rfl, ⟨by decide, by decide⟩⟩
    | 19, hk => cases hk; exact rfl
    | 20, hk => cases hk; exact rfl
    | 21, hk => cases hk; exact ⟨(-1), rfl, ⟨by decide, by decide⟩⟩
    | 22, hk => cases hk; exact rfl
    | 23, hk => cases hk; exact rfl
    | 24, hk => cases hk; exact ⟨0, rfl, ⟨by decide, by decide⟩⟩
    | 25, hk => cases hk; exact rfl
    | 26, hk => cases hk; exact ⟨0, rfl, ⟨by decide, by decide⟩⟩
    | 27, hk => cases hk; exact rfl
    | 28, hk => cases hk; exact rfl
    | 29, hk => cases hk; exact rfl
    | 30, hk => cases hk; exact rfl
    | 31, hk => cases hk; exact rfl
    | 32, hk => cases hk; exact ⟨0, rfl, ⟨by decide, by decide⟩⟩
    | 33, hk => cases hk; exact ⟨0, rfl⟩
    | 34, hk => cases hk; exact ⟨0, rfl⟩
    | 35, hk => cases hk; exact ⟨0, rfl⟩
    | 36, hk => cases hk; exact rfl
    | 37, hk => cases hk; exact ⟨0, rfl⟩
    | 38, hk => cases hk; exact rfl
    | 39, hk => cases hk; exact rfl
    | 40, hk => cases hk; exact rfl
    | 41, hk => cases hk; exact rfl
    | 42, hk => cases hk; exact rfl
    | 43, hk => cases hk; exact rfl
    | k + 44, hk => simp at hk)
  exact W.vret hx hb hr (fun t ht hW => ⟨rfl, _, hgr.end_ hTa, hfin, by rw [ht]; exact hok, hw.2.F ht⟩) hw.2.2.2 dX12_init_211
