set_option maxHeartbeats 4000000 in
set_option maxRecDepth 100000 in
theorem sX1_copyFrom (l : Launch) (D : hp_D) (T : hp_T) (ap0 : Nat) (ap1 : Nat) (ip0 : isMemory T ap0 rA) (xi : Int32) (ip1 : isMemory T ap1 (rV (.int xi))) : Met l yX1_copyFrom wsX1_copyFrom ({ frames := 2, cells := 0, slots := 0, locals := 60 }) (hp_Pc D T [.ref ap0, .ref ap1] (fun _ => True)) (hq_e D T (fun v _ t => v = none ∧ hp_f D t.heap ap0 1 2 (.int xi))) 0 0 (hp_F T) := by
  obtain ⟨ap0tw, ap0tg, ap0th, ap0ts, ap0pm, ap0ak, ap0ao, ap0ah, ap0aw, hp0, ip0tw, hp0tg, hp0th, hp0ts, hp0pm, hp0ak, hp0ao, hp0ah, hp0aw⟩ := id ip0
  obtain ⟨ap0twkin, ap0twpl, ap0twcr, hp0tw, hp0twkin, hp0twpl, hp0twcr⟩ := id ip0tw
  obtain ⟨ap1tw, ap1tg, ap1th, ap1ts, ap1pm, ap1ak, ap1ao, ap1ah, ap1aw, hp1, ip1tw, hp1tg, hp1th, hp1ts, hp1pm, hp1ak, hp1ao, hp1ah, hp1aw⟩ := id ip1
  obtain ⟨ap1twkin, ap1twpl, ap1twcr, hp1tw, hp1twkin, hp1twpl, hp1twcr⟩ := id ip1tw
  refine Met.ofW (cc := cX1_copyFrom) (maxL := 2) (ret := none) (by decide) rfl ?_
  intro p e s m args below meth c s₁ B hml hv
  obtain ⟨rfl, hok, hG, hB⟩ := hv
  have hx := B.exec
  have hb := B.bytes
  have hr := B.returns
  have hts := atoms_spec (ws := wsX1_copyFrom) B.pre
  have hown : s.vm.findClass RX1 = some m.cls := findClass_of_methodNamed B.named
  have hlocks := B.notSynchronized
  have hK := hG.1
  have hw : hp_w D T s s.heap [] := hp_w.rf hok
  have IX1 : ∀ w ∈ wsX10, w ∈ wsX1_copyFrom := by decide +kernel
  have L12 := hts (.fieldLink RX1 12 "PalmCensus$Memory" "town" "LPalmCensus$Town;") (by decide +kernel)
  have L18 := hts (.fieldLink RX1 18 "PalmCensus$Memory" "force" "I") (by decide +kernel)
  have L22 := hts (.fieldLink RX1 22 "PalmCensus$Memory" "x" "I") (by decide +kernel)
  have L25 := hts (.fieldLink RX1 25 "PalmCensus$Memory" "toldCount" "I") (by decide +kernel)
  have L28 := hts (.fieldLink RX1 28 "PalmCensus$Memory" "toldGate" "[I") (by decide +kernel)
  have AC66_1 := hts (.methodLink RX1 66 arraycopyName) (by decide +kernel)
  have AC66_2 := hts (.native arraycopyName) (by decide +kernel)
  have AC66_3 := hts (.static arraycopyName) (by decide +kernel)
  have AC66_4 := hts (.initialized "java/lang/System") (by decide +kernel)
  have L32 := hts (.fieldLink RX1 32 "PalmCensus$Memory" "toldHour" "[I") (by decide +kernel)
  have L35 := hts (.fieldLink RX1 35 "PalmCensus$Memory" "toldSum" "[I") (by decide +kernel)
  have L38 := hts (.fieldLink RX1 38 "PalmCensus$Memory" "palms" "[I") (by decide +kernel)
  have L41 := hts (.fieldLink RX1 41 "PalmCensus$Memory" "acts" "I") (by decide +kernel)
  have L44 := hts (.fieldLink RX1 44 "PalmCensus$Memory" "actKind" "[I") (by decide +kernel)
  have L47 := hts (.fieldLink RX1 47 "PalmCensus$Memory" "actOf" "[I") (by decide +kernel)
  have L50 := hts (.fieldLink RX1 50 "PalmCensus$Memory" "actHour" "[I") (by decide +kernel)
  have L53 := hts (.fieldLink RX1 53 "PalmCensus$Memory" "actWas" "[I") (by decide +kernel)
  have hl := lv_entry ([.ref ap0, .ref ap1]) (n := 2) (Nat.le_of_ble_eq_true rfl)
  rw [lg_entry_eq]
  generalize (lg_sl ([.ref ap0, .ref ap1]) ++ List.replicate (2 - (lg_sl ([.ref ap0, .ref ap1])).length) Slot.unset).toArray = ls at hl ⊢
  have hl : lv_has ls 2 [(0, .ref ap0), (1, .ref ap1)] := hl
  obtain ⟨x9000op0_2, fx9000op0_2⟩ := hp_opA hw.1 hp0 2 rfl
  refine lv_aload_n hx hb dX1_copyFrom_0 rfl (lv_at hl 0 rfl) ?_
  refine hp_getr hx hb hts IX1 hown hK hw.1 hp0 rfl 0 (by decide) L12 rfl dX1_copyFrom_1 ?_
  refine lv_aload_n hx hb dX1_copyFrom_4 rfl (lv_at hl 1 rfl) ?_
  refine hp_getr hx hb hts IX1 hown hK hw.1 hp1 rfl 0 (by decide) L12 rfl dX1_copyFrom_5 ?_
  refine hp_callev (va_runV (As := [.ref ap1tw]) (rest := []) ⟨hx, hb, hml, hown, hts⟩ (sX8_copyFrom l D T ap0tw ap1tw ip0tw ip1tw) (cwV 1 hts gX1_copyFrom_X8_copyFrom rfl rfl rfl (by decide +kernel) ⟨Nat.le_of_ble_eq_true rfl, Nat.le_of_ble_eq_true rfl⟩) (hp_preV hG hw hp0tw rfl trivial) rfl rfl hl.1 rfl (lv_room (Nat.le_of_ble_eq_true rfl)) dX1_copyFrom_8 ⟨Nat.zero_le _, Nat.zero_le _⟩) hw (fun st8 t8 H8 locs8 eh8 eg8 bx8 hw => ?_)
  obtain ⟨x8op0_2, fx8op0_2⟩ := hp_opA hw.1 hp0 2 rfl
  refine lv_aload_n hx hb dX1_copyFrom_11 rfl (lv_at hl 0 rfl) ?_
  refine lv_aload_n hx hb dX1_copyFrom_12 rfl (lv_at hl 1 rfl) ?_
  refine hp_getA hx hb hts IX1 hown hK hw.1 hp1 rfl 1 (by decide) L18 rfl dX1_copyFrom_13 (fun x13 fx13 => ?_)
  refine hp_put hx hb hts IX1 tyX1 tyX1_ok nmX1 hown hK hw hp0 rfl 1 (by decide) L18 rfl rfl ⟨_, rfl⟩ rfl rfl dX1_copyFrom_16 (fun H16 locs16 hw f16n g16 => ?_)
  have f_p0_2 := g16 _ _ _ _ fx8op0_2 (Or.inr ⟨rfl, by decide⟩)
  refine lv_aload_n hx hb dX1_copyFrom_19 rfl (lv_at hl 0 rfl) ?_
  refine lv_aload_n hx hb dX1_copyFrom_20 rfl (lv_at hl 1 rfl) ?_
  refine hp_get hx hb hts IX1 hown hK hw.1 hp1 rfl 2 (by decide) L22 rfl dX1_copyFrom_21 (fun v21 h21 fx21 => ?_)
  cases (show v21 = .int xi from h21)
  refine hp_put hx hb hts IX1 tyX1 tyX1_ok nmX1 hown hK hw hp0 rfl 2 (by decide) L22 rfl rfl ⟨_, rfl⟩ rfl rfl dX1_copyFrom_24 (fun H24 locs24 hw f24n g24 => ?_)
  refine lv_aload_n hx hb dX1_copyFrom_27 rfl (lv_at hl 0 rfl) ?_
  refine lv_aload_n hx hb dX1_copyFrom_28 rfl (lv_at hl 1 rfl) ?_
  refine hp_geti hx hb hts IX1 hown hK hw.1 hp1 rfl 3 (by decide) L25 rfl dX1_copyFrom_29 (fun x29 bx29 fx29 => ?_)
  refine hp_put hx hb hts IX1 tyX1 tyX1_ok nmX1 hown hK hw hp0 rfl 3 (by decide) L25 rfl rfl ⟨_, rfl, bx29⟩ rfl rfl dX1_copyFrom_32 (fun H32 locs32 hw f32n g32 => ?_)
  have f_p0_2 := g32 _ _ _ _ f24n (Or.inr ⟨rfl, by decide⟩)
  refine lv_aload_n hx hb dX1_copyFrom_35 rfl (lv_at hl 1 rfl) ?_
  refine hp_getr hx hb hts IX1 hown hK hw.1 hp1 rfl 4 (by decide) L28 rfl dX1_copyFrom_36 ?_
  refine lv_iconst (v := 0) hx hb dX1_copyFrom_39 (by decide) ?_
  refine lv_aload_n hx hb dX1_copyFrom_40 rfl (lv_at hl 0 rfl) ?_
  refine hp_getr hx hb hts IX1 hown hK hw.1 hp0 rfl 4 (by decide) L28 rfl dX1_copyFrom_41 ?_
  refine lv_iconst (v := 0) hx hb dX1_copyFrom_44 (by decide) ?_
  refine lv_bipush (v := 10) hx hb dX1_copyFrom_45 (by decide) ?_
  refine hp_copy hx hb (by rw [hml]; exact hl.1.symm) hown AC66_1 AC66_2 AC66_3 AC66_4 hK hw hp1tg hp0tg (fun v h => h) (fun v h => h) (by decide) (by decide) (by decide) (by decide) (by decide) (Nat.le_of_ble_eq_true rfl) (Nat.le_of_ble_eq_true rfl) dX1_copyFrom_47 (fun H47 locs47 hw g47 => ?_)
  have f_p0_2 := g47 _ _ _ _ f_p0_2
  refine lv_aload_n hx hb dX1_copyFrom_50 rfl (lv_at hl 1 rfl) ?_
  refine hp_getr hx hb hts IX1 hown hK hw.1 hp1 rfl 5 (by decide) L32 rfl dX1_copyFrom_51 ?_
  refine lv_iconst (v := 0) hx hb dX1_copyFrom_54 (by decide) ?_
  refine lv_aload_n hx hb dX1_copyFrom_55 rfl (lv_at hl 0 rfl) ?_
  refine hp_getr hx hb hts IX1 hown hK hw.1 hp0 rfl 5 (by decide) L32 rfl dX1_copyFrom_56 ?_
  refine lv_iconst (v := 0) hx hb dX1_copyFrom_59 (by decide) ?_
  refine lv_bipush (v := 10) hx hb dX1_copyFrom_60 (by decide) ?_
  refine hp_copy hx hb (by rw [hml]; exact hl.1.symm) hown AC66_1 AC66_2 AC66_3 AC66_4 hK hw hp1th hp0th (fun v h => h) (fun v h => h) (by decide) (by decide) (by decide) (by decide) (by decide) (Nat.le_of_ble_eq_true rfl) (Nat.le_of_ble_eq_true rfl) dX1_copyFrom_62 (fun H62 locs62 hw g62 => ?_)
  have f_p0_2 := g62 _ _ _ _ f_p0_2
  refine lv_aload_n hx hb dX1_copyFrom_65 rfl (lv_at hl 1 rfl) ?_
  refine hp_getr hx hb hts IX1 hown hK hw.1 hp1 rfl 6 (by decide) L35 rfl dX1_copyFrom_66 ?_
  refine lv_iconst (v := 0) hx hb dX1_copyFrom_69 (by decide) ?_
  refine lv_aload_n hx hb dX1_copyFrom_70 rfl (lv_at hl 0 rfl) ?_
  refine hp_getr hx hb hts IX1 hown hK hw.1 hp0 rfl 6 (by decide) L35 rfl dX1_copyFrom_71 ?_
  refine lv_iconst (v := 0) hx hb dX1_copyFrom_74 (by decide) ?_
  refine lv_bipush (v := 10) hx hb dX1_copyFrom_75 (by decide) ?_
  refine hp_copy hx hb (by rw [hml]; exact hl.1.symm) hown AC66_1 AC66_2 AC66_3 AC66_4 hK hw hp1ts hp0ts (fun v h => h) (fun v h => h) (by decide) (by decide) (by decide) (by decide) (by decide) (Nat.le_of_ble_eq_true rfl) (Nat.le_of_ble_eq_true rfl) dX1_copyFrom_77 (fun H77 locs77 hw g77 => ?_)
  have f_p0_2 := g77 _ _ _ _ f_p0_2
  refine lv_aload_n hx hb dX1_copyFrom_80 rfl (lv_at hl 1 rfl) ?_
  refine hp_getr hx hb hts IX1 hown hK hw.1 hp1 rfl 7 (by decide) L38 rfl dX1_copyFrom_81 ?_
  refine lv_iconst (v := 0) hx hb dX1_copyFrom_84 (by decide) ?_
  refine lv_aload_n hx hb dX1_copyFrom_85 rfl (lv_at hl 0 rfl) ?_
  refine hp_getr hx hb hts IX1 hown hK hw.1 hp0 rfl 7 (by decide) L38 rfl dX1_copyFrom_86 ?_
  refine lv_iconst (v := 0) hx hb dX1_copyFrom_89 (by decide) ?_
  refine lv_bipush (v := 10) hx hb dX1_copyFrom_90 (by decide) ?_
  refine hp_copy hx hb (by rw [hml]; exact hl.1.symm) hown AC66_1 AC66_2 AC66_3 AC66_4 hK hw hp1pm hp0pm (fun v h => h) (fun v h => h) (by decide) (by decide) (by decide) (by decide) (by decide) (Nat.le_of_ble_eq_true rfl) (Nat.le_of_ble_eq_true rfl) dX1_copyFrom_92 (fun H92 locs92 hw g92 => ?_)
  have f_p0_2 := g92 _ _ _ _ f_p0_2
  refine lv_aload_n hx hb dX1_copyFrom_95 rfl (lv_at hl 0 rfl) ?_
  refine lv_aload_n hx hb dX1_copyFrom_96 rfl (lv_at hl 1 rfl) ?_
  refine hp_geti hx hb hts IX1 hown hK hw.1 hp1 rfl 8 (by decide) L41 rfl dX1_copyFrom_97 (fun x97 bx97 fx97 => ?_)
  refine hp_put hx hb hts IX1 tyX1 tyX1_ok nmX1 hown hK hw hp0 rfl 8 (by decide) L41 rfl rfl ⟨_, rfl, bx97⟩ rfl rfl dX1_copyFrom_100 (fun H100 locs100 hw f100n g100 => ?_)
  have f_p0_2 := g100 _ _ _ _ f_p0_2 (Or.inr ⟨rfl, by decide⟩)
  refine lv_aload_n hx hb dX1_copyFrom_103 rfl (lv_at hl 1 rfl) ?_
  refine hp_getr hx hb hts IX1 hown hK hw.1 hp1 rfl 9 (by decide) L44 rfl dX1_copyFrom_104 ?_
  refine lv_iconst (v := 0) hx hb dX1_copyFrom_107 (by decide) ?_
  refine lv_aload_n hx hb dX1_copyFrom_108 rfl (lv_at hl 0 rfl) ?_
  refine hp_getr hx hb hts IX1 hown hK hw.1 hp0 rfl 9 (by decide) L44 rfl dX1_copyFrom_109 ?_
  refine lv_iconst (v := 0) hx hb dX1_copyFrom_112 (by decide) ?_
  refine lv_bipush (v := 20) hx hb dX1_copyFrom_113 (by decide) ?_
  refine hp_copy hx hb (by rw [hml]; exact hl.1.symm) hown AC66_1 AC66_2 AC66_3 AC66_4 hK hw hp1ak hp0ak (fun v h => h) (fun v h => h) (by decide) (by decide) (by decide) (by decide) (by decide) (Nat.le_of_ble_eq_true rfl) (Nat.le_of_ble_eq_true rfl) dX1_copyFrom_115 (fun H115 locs115 hw g115 => ?_)
  have f_p0_2 := g115 _ _ _ _ f_p0_2
  refine lv_aload_n hx hb dX1_copyFrom_118 rfl (lv_at hl 1 rfl) ?_
  refine hp_getr hx hb hts IX1 hown hK hw.1 hp1 rfl 10 (by decide) L47 rfl dX1_copyFrom_119 ?_
  refine lv_iconst (v := 0) hx hb dX1_copyFrom_122 (by decide) ?_
  refine lv_aload_n hx hb dX1_copyFrom_123 rfl (lv_at hl 0 rfl) ?_
  refine hp_getr hx hb hts IX1 hown hK hw.1 hp0 rfl 10 (by decide) L47 rfl dX1_copyFrom_124 ?_
  refine lv_iconst (v := 0) hx hb dX1_copyFrom_127 (by decide) ?_
  refine lv_bipush (v := 20) hx hb dX1_copyFrom_128 (by decide) ?_
  refine hp_copy hx hb (by rw [hml]; exact hl.1.symm) hown AC66_1 AC66_2 AC66_3 AC66_4 hK hw hp1ao hp0ao (fun v h => h) (fun v h => h) (by decide) (by decide) (by decide) (by decide) (by decide) (Nat.le_of_ble_eq_true rfl) (Nat.le_of_ble_eq_true rfl) dX1_copyFrom_130 (fun H130 locs130 hw g130 => ?_)
  have f_p0_2 := g130 _ _ _ _ f_p0_2
  refine lv_aload_n hx hb dX1_copyFrom_133 rfl (lv_at hl 1 rfl) ?_
  refine hp_getr hx hb hts IX1 hown hK hw.1 hp1 rfl 11 (by decide) L50 rfl dX1_copyFrom_134 ?_
  refine lv_iconst (v := 0) hx hb dX1_copyFrom_137 (by decide) ?_
  refine lv_aload_n hx hb dX1_copyFrom_138 rfl (lv_at hl 0 rfl) ?_
  refine hp_getr hx hb hts IX1 hown hK hw.1 hp0 rfl 11 (by decide) L50 rfl dX1_copyFrom_139 ?_
  refine lv_iconst (v := 0) hx hb dX1_copyFrom_142 (by decide) ?_
  refine lv_bipush (v := 20) hx hb dX1_copyFrom_143 (by decide) ?_
  refine hp_copy hx hb (by rw [hml]; exact hl.1.symm) hown AC66_1 AC66_2 AC66_3 AC66_4 hK hw hp1ah hp0ah (fun v h => h) (fun v h => h) (by decide) (by decide) (by decide) (by decide) (by decide) (Nat.le_of_ble_eq_true rfl) (Nat.le_of_ble_eq_true rfl) dX1_copyFrom_145 (fun H145 locs145 hw g145 => ?_)
  have f_p0_2 := g145 _ _ _ _ f_p0_2
  refine lv_aload_n hx hb dX1_copyFrom_148 rfl (lv_at hl 1 rfl) ?_
  refine hp_getr hx hb hts IX1 hown hK hw.1 hp1 rfl 12 (by decide) L53 rfl dX1_copyFrom_149 ?_
  refine lv_iconst (v := 0) hx hb dX1_copyFrom_152 (by decide) ?_
  refine lv_aload_n hx hb dX1_copyFrom_153 rfl (lv_at hl 0 rfl) ?_
  refine hp_getr hx hb hts IX1 hown hK hw.1 hp0 rfl 12 (by decide) L53 rfl dX1_copyFrom_154 ?_
  refine lv_iconst (v := 0) hx hb dX1_copyFrom_157 (by decide) ?_
  refine lv_bipush (v := 20) hx hb dX1_copyFrom_158 (by decide) ?_
  refine hp_copy hx hb (by rw [hml]; exact hl.1.symm) hown AC66_1 AC66_2 AC66_3 AC66_4 hK hw hp1aw hp0aw (fun v h => h) (fun v h => h) (by decide) (by decide) (by decide) (by decide) (by decide) (Nat.le_of_ble_eq_true rfl) (Nat.le_of_ble_eq_true rfl) dX1_copyFrom_160 (fun H160 locs160 hw g160 => ?_)
  have f_p0_2 := g160 _ _ _ _ f_p0_2
  exact W.vret hx hb hr (fun t ht hW => ⟨none, rfl, ⟨rfl, by rw [ht]; exact f_p0_2⟩, by rw [ht]; exact hw.1, hw.2.F ht⟩) hw.2.2.2 dX1_copyFrom_163
