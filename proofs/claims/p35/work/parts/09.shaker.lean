abbrev WX3_held (p : Program) (l : Launch) (e : Env) (s : State) (m : MethodId) (below : List Frame) (meth : Method) (c : Code) (D : hp_D) (T : hp_T) (xp0 : Int64) (H : Heap) (locs : List Loc) (g : JFrame) : Prop := W p l e (headSpec wsX3_held ({ frames := 1, cells := 0, slots := 0, locals := 23 })).room s m ([.long xp0] : List Value).toArray below meth c H locs 0 0 (MQ below (hq_p (fun v => ∃ r : Int32, v = some (.int r) ∧ True)) ([.long xp0] : List Value).toArray s 0 0 (fun _ => False)) g
set_option maxHeartbeats 4000000 in
set_option maxRecDepth 100000 in
theorem sX3_held (l : Launch) (D : hp_D) (T : hp_T) (xp0 : Int64)  : Met l yX3_held wsX3_held ({ frames := 1, cells := 0, slots := 0, locals := 23 }) (hp_Pc D T [.long xp0] (fun _ => True)) (hq_p (fun v => ∃ r : Int32, v = some (.int r) ∧ True)) 0 0 (fun _ => False) := by
  refine Met.ofW (cc := cX3_held) (maxL := 2) (ret := (some .int)) (by decide) rfl ?_
  intro p e s m args below meth c s₁ B hml hv
  obtain ⟨rfl, hok, hG, hB⟩ := hv
  have hx := B.exec
  have hb := B.bytes
  have hr := B.returns
  have hts := atoms_spec (ws := wsX3_held) B.pre
  have hown : s.vm.findClass RX3 = some m.cls := findClass_of_methodNamed B.named
  have hlocks := B.notSynchronized
  have hK := hG.1
  have hw : hp_w D T s s.heap [] := hp_w.rf hok
  have K25 := hts (.constantLong RX3 25 (-999)) (by decide +kernel)
  have K27 := hts (.constantLong RX3 27 999) (by decide +kernel)
  have Mmax_long35_1 := hts (.methodLink RX3 35 Lib.MathLoose.max_long.x) (by decide +kernel)
  have Mmax_long35_2 := hts (.static Lib.MathLoose.max_long.x) (by decide +kernel)
  have Mmax_long35_3 := hts (.initialized "java/lang/Math") (by decide +kernel)
  have Mmax_long35_4 := hts (.code Lib.MathLoose.max_long.x Lib.MathLoose.max_long.code 4 (some .long)) (by decide +kernel)
  have Mmin_long29_1 := hts (.methodLink RX3 29 Lib.MathLoose.min_long.x) (by decide +kernel)
  have Mmin_long29_2 := hts (.static Lib.MathLoose.min_long.x) (by decide +kernel)
  have Mmin_long29_3 := hts (.initialized "java/lang/Math") (by decide +kernel)
  have Mmin_long29_4 := hts (.code Lib.MathLoose.min_long.x Lib.MathLoose.min_long.code 4 (some .long)) (by decide +kernel)
  have hl := lv_entry ([.long xp0]) (n := 2) (Nat.le_of_ble_eq_true rfl)
  rw [lg_entry_eq]
  generalize (lg_sl ([.long xp0]) ++ List.replicate (2 - (lg_sl ([.long xp0])).length) Slot.unset).toArray = ls at hl ⊢
  have hl : lv_has ls 2 [(0, .long xp0)] := hl
  show WX3_held p l e s m below meth c D T xp0 s.heap [] (F0 m 0 ls [])
  refine lv_ldc2 (v := (-999)) hx hb hown K25 dX3_held_0 ?_
  refine lv_ldc2 (v := 999) hx hb hown K27 dX3_held_3 ?_
  refine lv_lload_n hx hb dX3_held_6 rfl (lv_at hl 0 rfl) ?_
  refine va_mmin_long hx hb (by rw [hml]; exact hl.1.symm) hown Mmin_long29_1 Mmin_long29_2 Mmin_long29_3 Mmin_long29_4 (Nat.le_of_ble_eq_true rfl) (Nat.le_of_ble_eq_true rfl) (Nat.zero_le _) (Nat.zero_le _) dX3_held_7 ?_
  refine lv_topl (fun x7 ex7 => ?_)
  refine va_mmax_long hx hb (by rw [hml]; exact hl.1.symm) hown Mmax_long35_1 Mmax_long35_2 Mmax_long35_3 Mmax_long35_4 (Nat.le_of_ble_eq_true rfl) (Nat.le_of_ble_eq_true rfl) (Nat.zero_le _) (Nat.zero_le _) dX3_held_10 ?_
  refine lv_topl (fun x10 ex10 => ?_)
  obtain ⟨x13, ex13⟩ : ∃ y : Int32, x10.toInt32 = y := ⟨_, rfl⟩
  refine lv_l2i (v := x13) hx hb dX3_held_13 ex13 ?_
  exact W.iret (v := x13) hx hb hr (fun t ht hW => ⟨some (.int x13), rfl, ⟨x13, rfl, trivial⟩, ht⟩) (fun q h => by cases h) dX3_held_14
abbrev WX3_joined (p : Program) (l : Launch) (e : Env) (s : State) (m : MethodId) (below : List Frame) (meth : Method) (c : Code) (D : hp_D) (T : hp_T) (xp0 : Int32) (xp1 : Int64) (xp2 : Int64) (H : Heap) (locs : List Loc) (g : JFrame) : Prop := W p l e (headSpec wsX3_joined ({ frames := 0, cells := 0, slots := 0, locals := 0 })).room s m ([.int xp0, .long xp1, .long xp2] : List Value).toArray below meth c H locs 0 0 (MQ below (hq_p (fun v => ∃ r : Int64, v = some (.long r) ∧ True)) ([.int xp0, .long xp1, .long xp2] : List Value).toArray s 0 0 (fun _ => False)) g
set_option maxHeartbeats 4000000 in
set_option maxRecDepth 100000 in
theorem sX3_joined (l : Launch) (D : hp_D) (T : hp_T) (xp0 : Int32) (xp1 : Int64) (xp2 : Int64)  : Met l yX3_joined wsX3_joined ({ frames := 0, cells := 0, slots := 0, locals := 0 }) (hp_Pc D T [.int xp0, .long xp1, .long xp2] (fun _ => True)) (hq_p (fun v => ∃ r : Int64, v = some (.long r) ∧ True)) 0 0 (fun _ => False) := by
  refine Met.ofW (cc := cX3_joined) (maxL := 5) (ret := (some .long)) (by decide) rfl ?_
  intro p e s m args below meth c s₁ B hml hv
  obtain ⟨rfl, hok, hG, hB⟩ := hv
  have hx := B.exec
  have hb := B.bytes
  have hr := B.returns
  have hts := atoms_spec (ws := wsX3_joined) B.pre
  have hown : s.vm.findClass RX3 = some m.cls := findClass_of_methodNamed B.named
  have hlocks := B.notSynchronized
  have hK := hG.1
  have hw : hp_w D T s s.heap [] := hp_w.rf hok
  have hl := lv_entry ([.int xp0, .long xp1, .long xp2]) (n := 5) (Nat.le_of_ble_eq_true rfl)
  rw [lg_entry_eq]
  generalize (lg_sl ([.int xp0, .long xp1, .long xp2]) ++ List.replicate (5 - (lg_sl ([.int xp0, .long xp1, .long xp2])).length) Slot.unset).toArray = ls at hl ⊢
  have hl : lv_has ls 5 [(0, .int xp0), (1, .long xp1), (3, .long xp2)] := hl
  show WX3_joined p l e s m below meth c D T xp0 xp1 xp2 s.heap [] (F0 m 0 ls [])
  refine lv_iload_n hx hb dX3_joined_0 rfl (lv_at hl 0 rfl) ?_
  have i1 := (iv_any xp0)
  unfold iv at i1
  rcases (show (xp0.toInt < (-42) ∨ (-21) < xp0.toInt) ∨ xp0.toInt = (-42) ∨ xp0.toInt = (-41) ∨ xp0.toInt = (-40) ∨ xp0.toInt = (-39) ∨ xp0.toInt = (-38) ∨ xp0.toInt = (-37) ∨ xp0.toInt = (-36) ∨ xp0.toInt = (-35) ∨ xp0.toInt = (-34) ∨ xp0.toInt = (-33) ∨ xp0.toInt = (-32) ∨ xp0.toInt = (-31) ∨ xp0.toInt = (-30) ∨ xp0.toInt = (-29) ∨ xp0.toInt = (-28) ∨ xp0.toInt = (-27) ∨ xp0.toInt = (-26) ∨ xp0.toInt = (-25) ∨ xp0.toInt = (-24) ∨ xp0.toInt = (-23) ∨ xp0.toInt = (-22) ∨ xp0.toInt = (-21) from by omega) with s1 | s1 | s1 | s1 | s1 | s1 | s1 | s1 | s1 | s1 | s1 | s1 | s1 | s1 | s1 | s1 | s1 | s1 | s1 | s1 | s1 | s1 | s1
  · refine lv_tableOut (tgt := 212) hx hb dX3_joined_1 s1 (by decide) ?_
    refine lv_lconst (v := 0) hx hb dX3_joined_212 (by decide) ?_
    exact W.lret (v := (0 : Int64)) hx hb hr (fun t ht hW => ⟨some (.long (0 : Int64)), rfl, ⟨(0 : Int64), rfl, trivial⟩, ht⟩) (fun q h => by cases h) dX3_joined_213
  · refine lv_tableIn (off := 207) (tgt := 208) hx hb dX3_joined_1 (by omega) (by omega) (by rw [s1]; rfl) (by decide) ?_
    have r1k : iv xp0 (-42) (-42) := ⟨by omega, by omega⟩
    refine lv_lload_n hx hb dX3_joined_208 rfl (lv_at hl 1 rfl) ?_
    refine lv_lload_n hx hb dX3_joined_209 rfl (lv_at hl 2 rfl) ?_
    refine lv_lor hx hb dX3_joined_210 ?_
    refine lv_topl (fun x210 ex210 => ?_)
    exact W.lret (v := x210) hx hb hr (fun t ht hW => ⟨some (.long x210), rfl, ⟨x210, rfl, trivial⟩, ht⟩) (fun q h => by cases h) dX3_joined_211
  · refine lv_tableIn (off := 203) (tgt := 204) hx hb dX3_joined_1 (by omega) (by omega) (by rw [s1]; rfl) (by decide) ?_
    have r1k : iv xp0 (-41) (-41) := ⟨by omega, by omega⟩
    refine lv_lload_n hx hb dX3_joined_204 rfl (lv_at hl 1 rfl) ?_
    refine lv_lload_n hx hb dX3_joined_205 rfl (lv_at hl 2 rfl) ?_
    refine lv_land hx hb dX3_joined_206 ?_
    refine lv_topl (fun x206 ex206 => ?_)
    exact W.lret (v := x206) hx hb hr (fun t ht hW => ⟨some (.long x206), rfl, ⟨x206, rfl, trivial⟩, ht⟩) (fun q h => by cases h) dX3_joined_207
  · refine lv_tableIn (off := 211) (tgt := 212) hx hb dX3_joined_1 (by omega) (by omega) (by rw [s1]; rfl) (by decide) ?_
    have r1k : iv xp0 (-40) (-40) := ⟨by omega, by omega⟩
    refine lv_lconst (v := 0) hx hb dX3_joined_212 (by decide) ?_
    exact W.lret (v := (0 : Int64)) hx hb hr (fun t ht hW => ⟨some (.long (0 : Int64)), rfl, ⟨(0 : Int64), rfl, trivial⟩, ht⟩) (fun q h => by cases h) dX3_joined_213
  · refine lv_tableIn (off := 211) (tgt := 212) hx hb dX3_joined_1 (by omega) (by omega) (by rw [s1]; rfl) (by decide) ?_
    have r1k : iv xp0 (-39) (-39) := ⟨by omega, by omega⟩
    refine lv_lconst (v := 0) hx hb dX3_joined_212 (by decide) ?_
    exact W.lret (v := (0 : Int64)) hx hb hr (fun t ht hW => ⟨some (.long (0 : Int64)), rfl, ⟨(0 : Int64), rfl, trivial⟩, ht⟩) (fun q h => by cases h) dX3_joined_213
  · refine lv_tableIn (off := 211) (tgt := 212) hx hb dX3_joined_1 (by omega) (by omega) (by rw [s1]; rfl) (by decide) ?_
    have r1k : iv xp0 (-38) (-38) := ⟨by omega, by omega⟩
    refine lv_lconst (v := 0) hx hb dX3_joined_212 (by decide) ?_
    exact W.lret (v := (0 : Int64)) hx hb hr (fun t ht hW => ⟨some (.long (0 : Int64)), rfl, ⟨(0 : Int64), rfl, trivial⟩, ht⟩) (fun q h => by cases h) dX3_joined_213
  · refine lv_tableIn (off := 211) (tgt := 212) hx hb dX3_joined_1 (by omega) (by omega) (by rw [s1]; rfl) (by decide) ?_
    have r1k : iv xp0 (-37) (-37) := ⟨by omega, by omega⟩
    refine lv_lconst (v := 0) hx hb dX3_joined_212 (by decide) ?_
    exact W.lret (v := (0 : Int64)) hx hb hr (fun t ht hW => ⟨some (.long (0 : Int64)), rfl, ⟨(0 : Int64), rfl, trivial⟩, ht⟩) (fun q h => by cases h) dX3_joined_213
  · refine lv_tableIn (off := 211) (tgt := 212) hx hb dX3_joined_1 (by omega) (by omega) (by rw [s1]; rfl) (by decide) ?_
    have r1k : iv xp0 (-36) (-36) := ⟨by omega, by omega⟩
    refine lv_lconst (v := 0) hx hb dX3_joined_212 (by decide) ?_
    exact W.lret (v := (0 : Int64)) hx hb hr (fun t ht hW => ⟨some (.long (0 : Int64)), rfl, ⟨(0 : Int64), rfl, trivial⟩, ht⟩) (fun q h => by cases h) dX3_joined_213
  · refine lv_tableIn (off := 191) (tgt := 192) hx hb dX3_joined_1 (by omega) (by omega) (by rw [s1]; rfl) (by decide) ?_
    have r1k : iv xp0 (-35) (-35) := ⟨by omega, by omega⟩
    refine lv_lload_n hx hb dX3_joined_192 rfl (lv_at hl 1 rfl) ?_
    refine lv_lload_n hx hb dX3_joined_193 rfl (lv_at hl 2 rfl) ?_
    refine W.lcmp hx hb dX3_joined_194 ?_
    refine lv_topi (fun x194 ex194 => ?_)
    have bx194 : iv x194 (-1) 1 := iv_lcmp ex194
    have J203 : ∀ (y203_s0 : Int64), ∀ (ls : Array Slot), lv_has ls 5 [] → WX3_joined p l e s m below meth c D T xp0 xp1 xp2 s.heap [] (F0 m 203 ls [.long y203_s0]) := by
      intro y203_s0 ls hl
      exact W.lret (v := y203_s0) hx hb hr (fun t ht hW => ⟨some (.long y203_s0), rfl, ⟨y203_s0, rfl, trivial⟩, ht⟩) (fun q h => by cases h) dX3_joined_203
    refine lv_if_le (tgt := 202) hx hb dX3_joined_195 (by decide) (fun c195 => ?_) (fun c195 => ?_)
    · have r195tp : iv x194 (-1) 0 := (iv_le_l c195 bx194 (show iv 0 0 0 from ⟨by decide, by decide⟩)).mono (by decide) (by decide)
      refine lv_lconst (v := 0) hx hb dX3_joined_202 (by decide) ?_
      exact J203 (0 : Int64) _ (lv_sub hl [] rfl)
    · have r195fq : iv x194 1 1 := (iv_lt_r (iv_nle c195) (show iv 0 0 0 from ⟨by decide, by decide⟩) bx194).mono (by decide) (by decide)
      refine lv_lconst (v := 1) hx hb dX3_joined_198 (by decide) ?_
      refine lv_goto (tgt := 203) hx hb dX3_joined_199 (by decide) ?_
      exact J203 (1 : Int64) _ (lv_sub hl [] rfl)
  · refine lv_tableIn (off := 179) (tgt := 180) hx hb dX3_joined_1 (by omega) (by omega) (by rw [s1]; rfl) (by decide) ?_
    have r1k : iv xp0 (-34) (-34) := ⟨by omega, by omega⟩
    refine lv_lload_n hx hb dX3_joined_180 rfl (lv_at hl 1 rfl) ?_
    refine lv_lload_n hx hb dX3_joined_181 rfl (lv_at hl 2 rfl) ?_
    refine W.lcmp hx hb dX3_joined_182 ?_
    refine lv_topi (fun x182 ex182 => ?_)
    have bx182 : iv x182 (-1) 1 := iv_lcmp ex182
    have J191 : ∀ (y191_s0 : Int64), ∀ (ls : Array Slot), lv_has ls 5 [] → WX3_joined p l e s m below meth c D T xp0 xp1 xp2 s.heap [] (F0 m 191 ls [.long y191_s0]) := by
      intro y191_s0 ls hl
      exact W.lret (v := y191_s0) hx hb hr (fun t ht hW => ⟨some (.long y191_s0), rfl, ⟨y191_s0, rfl, trivial⟩, ht⟩) (fun q h => by cases h) dX3_joined_191
    refine lv_if_lt (tgt := 190) hx hb dX3_joined_183 (by decide) (fun c183 => ?_) (fun c183 => ?_)
    · have r183tp : iv x182 (-1) (-1) := (iv_lt_l c183 bx182 (show iv 0 0 0 from ⟨by decide, by decide⟩)).mono (by decide) (by decide)
      refine lv_lconst (v := 0) hx hb dX3_joined_190 (by decide) ?_
      exact J191 (0 : Int64) _ (lv_sub hl [] rfl)
    · have r183fq : iv x182 0 1 := (iv_le_r (iv_nlt c183) (show iv 0 0 0 from ⟨by decide, by decide⟩) bx182).mono (by decide) (by decide)
      refine lv_lconst (v := 1) hx hb dX3_joined_186 (by decide) ?_
      refine lv_goto (tgt := 191) hx hb dX3_joined_187 (by decide) ?_
      exact J191 (1 : Int64) _ (lv_sub hl [] rfl)
  · refine lv_tableIn (off := 167) (tgt := 168) hx hb dX3_joined_1 (by omega) (by omega) (by rw [s1]; rfl) (by decide) ?_
    have r1k : iv xp0 (-33) (-33) := ⟨by omega, by omega⟩
    refine lv_lload_n hx hb dX3_joined_168 rfl (lv_at hl 1 rfl) ?_
    refine lv_lload_n hx hb dX3_joined_169 rfl (lv_at hl 2 rfl) ?_
    refine W.lcmp hx hb dX3_joined_170 ?_
    refine lv_topi (fun x170 ex170 => ?_)
    have bx170 : iv x170 (-1) 1 := iv_lcmp ex170
    have J179 : ∀ (y179_s0 : Int64), ∀ (ls : Array Slot), lv_has ls 5 [] → WX3_joined p l e s m below meth c D T xp0 xp1 xp2 s.heap [] (F0 m 179 ls [.long y179_s0]) := by
      intro y179_s0 ls hl
      exact W.lret (v := y179_s0) hx hb hr (fun t ht hW => ⟨some (.long y179_s0), rfl, ⟨y179_s0, rfl, trivial⟩, ht⟩) (fun q h => by cases h) dX3_joined_179
    refine lv_if_ne (tgt := 178) hx hb dX3_joined_171 (by decide) (fun c171 => ?_) (fun c171 => ?_)
    · refine lv_lconst (v := 0) hx hb dX3_joined_178 (by decide) ?_
      exact J179 (0 : Int64) _ (lv_sub hl [] rfl)
    · have r171fp : iv x170 0 0 := (iv_both bx170 (iv_eq (show iv 0 0 0 from ⟨by decide, by decide⟩) c171)).mono (by decide) (by decide)
      refine lv_lconst (v := 1) hx hb dX3_joined_174 (by decide) ?_
      refine lv_goto (tgt := 179) hx hb dX3_joined_175 (by decide) ?_
      exact J179 (1 : Int64) _ (lv_sub hl [] rfl)
  · refine lv_tableIn (off := 155) (tgt := 156) hx hb dX3_joined_1 (by omega) (by omega) (by rw [s1]; rfl) (by decide) ?_
    have r1k : iv xp0 (-32) (-32) := ⟨by omega, by omega⟩
    refine lv_lload_n hx hb dX3_joined_156 rfl (lv_at hl 1 rfl) ?_
    refine lv_lload_n hx hb dX3_joined_157 rfl (lv_at hl 2 rfl) ?_
    refine W.lcmp hx hb dX3_joined_158 ?_
    refine lv_topi (fun x158 ex158 => ?_)
    have bx158 : iv x158 (-1) 1 := iv_lcmp ex158
    have J167 : ∀ (y167_s0 : Int64), ∀ (ls : Array Slot), lv_has ls 5 [] → WX3_joined p l e s m below meth c D T xp0 xp1 xp2 s.heap [] (F0 m 167 ls [.long y167_s0]) := by
      intro y167_s0 ls hl
      exact W.lret (v := y167_s0) hx hb hr (fun t ht hW => ⟨some (.long y167_s0), rfl, ⟨y167_s0, rfl, trivial⟩, ht⟩) (fun q h => by cases h) dX3_joined_167
    refine lv_if_gt (tgt := 166) hx hb dX3_joined_159 (by decide) (fun c159 => ?_) (fun c159 => ?_)
    · have r159tq : iv x158 1 1 := (iv_lt_r c159 (show iv 0 0 0 from ⟨by decide, by decide⟩) bx158).mono (by decide) (by decide)
      refine lv_lconst (v := 0) hx hb dX3_joined_166 (by decide) ?_
      exact J167 (0 : Int64) _ (lv_sub hl [] rfl)
    · have r159fp : iv x158 (-1) 0 := (iv_le_l (iv_nlt c159) bx158 (show iv 0 0 0 from ⟨by decide, by decide⟩)).mono (by decide) (by decide)
      refine lv_lconst (v := 1) hx hb dX3_joined_162 (by decide) ?_
      refine lv_goto (tgt := 167) hx hb dX3_joined_163 (by decide) ?_
      exact J167 (1 : Int64) _ (lv_sub hl [] rfl)
  · refine lv_tableIn (off := 143) (tgt := 144) hx hb dX3_joined_1 (by omega) (by omega) (by rw [s1]; rfl) (by decide) ?_
    have r1k : iv xp0 (-31) (-31) := ⟨by omega, by omega⟩
    refine lv_lload_n hx hb dX3_joined_144 rfl (lv_at hl 1 rfl) ?_
    refine lv_lload_n hx hb dX3_joined_145 rfl (lv_at hl 2 rfl) ?_
    refine W.lcmp hx hb dX3_joined_146 ?_
    refine lv_topi (fun x146 ex146 => ?_)
    have bx146 : iv x146 (-1) 1 := iv_lcmp ex146
    have J155 : ∀ (y155_s0 : Int64), ∀ (ls : Array Slot), lv_has ls 5 [] → WX3_joined p l e s m below meth c D T xp0 xp1 xp2 s.heap [] (F0 m 155 ls [.long y155_s0]) := by
      intro y155_s0 ls hl
      exact W.lret (v := y155_s0) hx hb hr (fun t ht hW => ⟨some (.long y155_s0), rfl, ⟨y155_s0, rfl, trivial⟩, ht⟩) (fun q h => by cases h) dX3_joined_155
    refine lv_if_ge (tgt := 154) hx hb dX3_joined_147 (by decide) (fun c147 => ?_) (fun c147 => ?_)
    · have r147tq : iv x146 0 1 := (iv_le_r c147 (show iv 0 0 0 from ⟨by decide, by decide⟩) bx146).mono (by decide) (by decide)
      refine lv_lconst (v := 0) hx hb dX3_joined_154 (by decide) ?_
      exact J155 (0 : Int64) _ (lv_sub hl [] rfl)
    · have r147fp : iv x146 (-1) (-1) := (iv_lt_l (iv_nle c147) bx146 (show iv 0 0 0 from ⟨by decide, by decide⟩)).mono (by decide) (by decide)
      refine lv_lconst (v := 1) hx hb dX3_joined_150 (by decide) ?_
      refine lv_goto (tgt := 155) hx hb dX3_joined_151 (by decide) ?_
      exact J155 (1 : Int64) _ (lv_sub hl [] rfl)
  · refine lv_tableIn (off := 211) (tgt := 212) hx hb dX3_joined_1 (by omega) (by omega) (by rw [s1]; rfl) (by decide) ?_
    have r1k : iv xp0 (-30) (-30) := ⟨by omega, by omega⟩
    refine lv_lconst (v := 0) hx hb dX3_joined_212 (by decide) ?_
    exact W.lret (v := (0 : Int64)) hx hb hr (fun t ht hW => ⟨some (.long (0 : Int64)), rfl, ⟨(0 : Int64), rfl, trivial⟩, ht⟩) (fun q h => by cases h) dX3_joined_213
  · refine lv_tableIn (off := 211) (tgt := 212) hx hb dX3_joined_1 (by omega) (by omega) (by rw [s1]; rfl) (by decide) ?_
    have r1k : iv xp0 (-29) (-29) := ⟨by omega, by omega⟩
    refine lv_lconst (v := 0) hx hb dX3_joined_212 (by decide) ?_
    exact W.lret (v := (0 : Int64)) hx hb hr (fun t ht hW => ⟨some (.long (0 : Int64)), rfl, ⟨(0 : Int64), rfl, trivial⟩, ht⟩) (fun q h => by cases h) dX3_joined_213
  · refine lv_tableIn (off := 211) (tgt := 212) hx hb dX3_joined_1 (by omega) (by omega) (by rw [s1]; rfl) (by decide) ?_
    have r1k : iv xp0 (-28) (-28) := ⟨by omega, by omega⟩
    refine lv_lconst (v := 0) hx hb dX3_joined_212 (by decide) ?_
    exact W.lret (v := (0 : Int64)) hx hb hr (fun t ht hW => ⟨some (.long (0 : Int64)), rfl, ⟨(0 : Int64), rfl, trivial⟩, ht⟩) (fun q h => by cases h) dX3_joined_213
  · refine lv_tableIn (off := 211) (tgt := 212) hx hb dX3_joined_1 (by omega) (by omega) (by rw [s1]; rfl) (by decide) ?_
    have r1k : iv xp0 (-27) (-27) := ⟨by omega, by omega⟩
    refine lv_lconst (v := 0) hx hb dX3_joined_212 (by decide) ?_
    exact W.lret (v := (0 : Int64)) hx hb hr (fun t ht hW => ⟨some (.long (0 : Int64)), rfl, ⟨(0 : Int64), rfl, trivial⟩, ht⟩) (fun q h => by cases h) dX3_joined_213
  · refine lv_tableIn (off := 211) (tgt := 212) hx hb dX3_joined_1 (by omega) (by omega) (by rw [s1]; rfl) (by decide) ?_
    have r1k : iv xp0 (-26) (-26) := ⟨by omega, by omega⟩
    refine lv_lconst (v := 0) hx hb dX3_joined_212 (by decide) ?_
    exact W.lret (v := (0 : Int64)) hx hb hr (fun t ht hW => ⟨some (.long (0 : Int64)), rfl, ⟨(0 : Int64), rfl, trivial⟩, ht⟩) (fun q h => by cases h) dX3_joined_213
  · refine lv_tableIn (off := 129) (tgt := 130) hx hb dX3_joined_1 (by omega) (by omega) (by rw [s1]; rfl) (by decide) ?_
    have r1k : iv xp0 (-25) (-25) := ⟨by omega, by omega⟩
    refine lv_lload_n hx hb dX3_joined_130 rfl (lv_at hl 2 rfl) ?_
    refine lv_lconst (v := 0) hx hb dX3_joined_131 (by decide) ?_
    refine W.lcmp hx hb dX3_joined_132 ?_
    refine lv_topi (fun x132 ex132 => ?_)
    have bx132 : iv x132 (-1) 1 := iv_lcmp ex132
    have J143 : ∀ (y143_s0 : Int64), ∀ (ls : Array Slot), lv_has ls 5 [] → WX3_joined p l e s m below meth c D T xp0 xp1 xp2 s.heap [] (F0 m 143 ls [.long y143_s0]) := by
      intro y143_s0 ls hl
      exact W.lret (v := y143_s0) hx hb hr (fun t ht hW => ⟨some (.long y143_s0), rfl, ⟨y143_s0, rfl, trivial⟩, ht⟩) (fun q h => by cases h) dX3_joined_143
    refine lv_if_ne (tgt := 140) hx hb dX3_joined_133 (by decide) (fun c133 => ?_) (fun c133 => ?_)
    · refine lv_lload_n hx hb dX3_joined_140 rfl (lv_at hl 1 rfl) ?_
      refine lv_lload_n hx hb dX3_joined_141 rfl (lv_at hl 2 rfl) ?_
      refine lv_lrem hx hb dX3_joined_142 (iv_lnz ex132 c133) ?_
      refine lv_topl (fun x142 ex142 => ?_)
      exact J143 x142 _ (lv_sub hl [] rfl)
    · have r133fp : iv x132 0 0 := (iv_both bx132 (iv_eq (show iv 0 0 0 from ⟨by decide, by decide⟩) c133)).mono (by decide) (by decide)
      refine lv_lconst (v := 0) hx hb dX3_joined_136 (by decide) ?_
      refine lv_goto (tgt := 143) hx hb dX3_joined_137 (by decide) ?_
      exact J143 (0 : Int64) _ (lv_sub hl [] rfl)
  · refine lv_tableIn (off := 115) (tgt := 116) hx hb dX3_joined_1 (by omega) (by omega) (by rw [s1]; rfl) (by decide) ?_
    have r1k : iv xp0 (-24) (-24) := ⟨by omega, by omega⟩
    refine lv_lload_n hx hb dX3_joined_116 rfl (lv_at hl 2 rfl) ?_
    refine lv_lconst (v := 0) hx hb dX3_joined_117 (by decide) ?_
    refine W.lcmp hx hb dX3_joined_118 ?_
    refine lv_topi (fun x118 ex118 => ?_)
    have bx118 : iv x118 (-1) 1 := iv_lcmp ex118
    have J129 : ∀ (y129_s0 : Int64), ∀ (ls : Array Slot), lv_has ls 5 [] → WX3_joined p l e s m below meth c D T xp0 xp1 xp2 s.heap [] (F0 m 129 ls [.long y129_s0]) := by
      intro y129_s0 ls hl
      exact W.lret (v := y129_s0) hx hb hr (fun t ht hW => ⟨some (.long y129_s0), rfl, ⟨y129_s0, rfl, trivial⟩, ht⟩) (fun q h => by cases h) dX3_joined_129
    refine lv_if_ne (tgt := 126) hx hb dX3_joined_119 (by decide) (fun c119 => ?_) (fun c119 => ?_)
    · refine lv_lload_n hx hb dX3_joined_126 rfl (lv_at hl 1 rfl) ?_
      refine lv_lload_n hx hb dX3_joined_127 rfl (lv_at hl 2 rfl) ?_
      refine lv_ldiv hx hb dX3_joined_128 (iv_lnz ex118 c119) ?_
      refine lv_topl (fun x128 ex128 => ?_)
      exact J129 x128 _ (lv_sub hl [] rfl)
    · have r119fp : iv x118 0 0 := (iv_both bx118 (iv_eq (show iv 0 0 0 from ⟨by decide, by decide⟩) c119)).mono (by decide) (by decide)
      refine lv_lconst (v := 0) hx hb dX3_joined_122 (by decide) ?_
      refine lv_goto (tgt := 129) hx hb dX3_joined_123 (by decide) ?_
      exact J129 (0 : Int64) _ (lv_sub hl [] rfl)
  · refine lv_tableIn (off := 111) (tgt := 112) hx hb dX3_joined_1 (by omega) (by omega) (by rw [s1]; rfl) (by decide) ?_
    have r1k : iv xp0 (-23) (-23) := ⟨by omega, by omega⟩
    refine lv_lload_n hx hb dX3_joined_112 rfl (lv_at hl 1 rfl) ?_
    refine lv_lload_n hx hb dX3_joined_113 rfl (lv_at hl 2 rfl) ?_
    refine lv_lmul hx hb dX3_joined_114 ?_
    refine lv_topl (fun x114 ex114 => ?_)
    exact W.lret (v := x114) hx hb hr (fun t ht hW => ⟨some (.long x114), rfl, ⟨x114, rfl, trivial⟩, ht⟩) (fun q h => by cases h) dX3_joined_115
  · refine lv_tableIn (off := 107) (tgt := 108) hx hb dX3_joined_1 (by omega) (by omega) (by rw [s1]; rfl) (by decide) ?_
    have r1k : iv xp0 (-22) (-22) := ⟨by omega, by omega⟩
    refine lv_lload_n hx hb dX3_joined_108 rfl (lv_at hl 1 rfl) ?_
    refine lv_lload_n hx hb dX3_joined_109 rfl (lv_at hl 2 rfl) ?_
    refine lv_lsub hx hb dX3_joined_110 ?_
    refine lv_topl (fun x110 ex110 => ?_)
    exact W.lret (v := x110) hx hb hr (fun t ht hW => ⟨some (.long x110), rfl, ⟨x110, rfl, trivial⟩, ht⟩) (fun q h => by cases h) dX3_joined_111
  · refine lv_tableIn (off := 103) (tgt := 104) hx hb dX3_joined_1 (by omega) (by omega) (by rw [s1]; rfl) (by decide) ?_
    have r1k : iv xp0 (-21) (-21) := ⟨by omega, by omega⟩
    refine lv_lload_n hx hb dX3_joined_104 rfl (lv_at hl 1 rfl) ?_
    refine lv_lload_n hx hb dX3_joined_105 rfl (lv_at hl 2 rfl) ?_
    refine lv_ladd hx hb dX3_joined_106 ?_
    refine lv_topl (fun x106 ex106 => ?_)
    exact W.lret (v := x106) hx hb hr (fun t ht hW => ⟨some (.long x106), rfl, ⟨x106, rfl, trivial⟩, ht⟩) (fun q h => by cases h) dX3_joined_107
abbrev WX1_palmsTold (p : Program) (l : Launch) (e : Env) (s : State) (m : MethodId) (below : List Frame) (meth : Method) (c : Code) (D : hp_D) (T : hp_T) (ap0 : Nat) (H : Heap) (locs : List Loc) (g : JFrame) : Prop := W p l e (headSpec wsX1_palmsTold ({ frames := 0, cells := 0, slots := 0, locals := 0 })).room s m ([.ref ap0] : List Value).toArray below meth c H locs 0 0 (MQ below (hq_p (fun v => ∃ r : Int32, v = some (.int r) ∧ True)) ([.ref ap0] : List Value).toArray s 0 0 (fun _ => False)) g
set_option maxHeartbeats 4000000 in
set_option maxRecDepth 100000 in
theorem sX1_palmsTold (l : Launch) (D : hp_D) (T : hp_T) (ap0 : Nat) (pxp0 : Value → Prop) (ip0 : isMemory T ap0 pxp0) : Met l yX1_palmsTold wsX1_palmsTold ({ frames := 0, cells := 0, slots := 0, locals := 0 }) (hp_Pc D T [.ref ap0] (fun _ => True)) (hq_p (fun v => ∃ r : Int32, v = some (.int r) ∧ True)) 0 0 (fun _ => False) := by
  obtain ⟨ap0tw, ap0tg, ap0th, ap0ts, ap0pm, ap0ak, ap0ao, ap0ah, ap0aw, hp0, ip0tw, hp0tg, hp0th, hp0ts, hp0pm, hp0ak, hp0ao, hp0ah, hp0aw⟩ := id ip0
  obtain ⟨ap0twkin, ap0twpl, ap0twcr, hp0tw, hp0twkin, hp0twpl, hp0twcr⟩ := id ip0tw
  refine Met.ofW (cc := cX1_palmsTold) (maxL := 3) (ret := (some .int)) (by decide) rfl ?_
  intro p e s m args below meth c s₁ B hml hv
  obtain ⟨rfl, hok, hG, hB⟩ := hv
  have hx := B.exec
  have hb := B.bytes
  have hr := B.returns
  have hts := atoms_spec (ws := wsX1_palmsTold) B.pre
  have hown : s.vm.findClass RX1 = some m.cls := findClass_of_methodNamed B.named
  have hlocks := B.notSynchronized
  have hK := hG.1
  have hw : hp_w D T s s.heap [] := hp_w.rf hok
  have IX1 : ∀ w ∈ wsX10, w ∈ wsX1_palmsTold := by decide +kernel
  have L38 := hts (.fieldLink RX1 38 "PalmCensus$Memory" "palms" "[I") (by decide +kernel)
  have hl := lv_entry ([.ref ap0]) (n := 3) (Nat.le_of_ble_eq_true rfl)
  rw [lg_entry_eq]
  generalize (lg_sl ([.ref ap0]) ++ List.replicate (3 - (lg_sl ([.ref ap0])).length) Slot.unset).toArray = ls at hl ⊢
  have hl : lv_has ls 3 [(0, .ref ap0)] := hl
  show WX1_palmsTold p l e s m below meth c D T ap0 s.heap [] (F0 m 0 ls [])
  refine lv_iconst (v := 0) hx hb dX1_palmsTold_0 (by decide) ?_
  refine lv_istore_n (lv' := [(1, .int 0), (0, .ref ap0)]) hx hb dX1_palmsTold_1 rfl hl (by decide) rfl (fun ls hl => ?_)
  refine lv_iconst (v := 0) hx hb dX1_palmsTold_2 (by decide) ?_
  refine lv_istore_n (lv' := [(2, .int 0), (1, .int 0), (0, .ref ap0)]) hx hb dX1_palmsTold_3 rfl hl (by decide) rfl (fun ls hl => ?_)
  have J4 : ∀ (n : Nat) (y4_l1 y4_l2 : Int32), (10 - y4_l2.toInt).toNat < n → iv y4_l2 0 10 → ∀ (ls : Array Slot), lv_has ls 3 [(0, .ref ap0), (1, .int y4_l1), (2, .int y4_l2)] → WX1_palmsTold p l e s m below meth c D T ap0 s.heap [] (F0 m 4 ls []) := by
    intro n
    induction n with
    | zero => intro y4_l1 y4_l2 hmu4 c4_y4_l2 ls hl; exact absurd hmu4 (Nat.not_lt_zero _)
    | succ n ih4 =>
      intro y4_l1 y4_l2 hmu4 c4_y4_l2 ls hl
      refine lv_iload_n hx hb dX1_palmsTold_4 rfl (lv_at hl 2 rfl) ?_
      refine lv_bipush (v := 10) hx hb dX1_palmsTold_5 (by decide) ?_
      refine lv_icmp_ge (tgt := 29) hx hb dX1_palmsTold_7 (by decide) (fun c7 => ?_) (fun c7 => ?_)
      · have r7tq : iv y4_l2 10 10 := (iv_le_r c7 (show iv 10 10 10 from ⟨by decide, by decide⟩) c4_y4_l2).mono (by decide) (by decide)
        refine lv_iload_n hx hb dX1_palmsTold_29 rfl (lv_at hl 1 rfl) ?_
        exact W.iret (v := y4_l1) hx hb hr (fun t ht hW => ⟨some (.int y4_l1), rfl, ⟨y4_l1, rfl, trivial⟩, ht⟩) (fun q h => by cases h) dX1_palmsTold_30
      · have r7fp : iv y4_l2 0 9 := (iv_lt_l (iv_nle c7) c4_y4_l2 (show iv 10 10 10 from ⟨by decide, by decide⟩)).mono (by decide) (by decide)
        refine lv_aload_n hx hb dX1_palmsTold_10 rfl (lv_at hl 0 rfl) ?_
        refine hp_getr hx hb hts IX1 hown hK hw.1 hp0 rfl 7 (by decide) L38 rfl dX1_palmsTold_11 ?_
        refine lv_iload_n hx hb dX1_palmsTold_14 rfl (lv_at hl 2 rfl) ?_
        refine hp_ialdA hx hb hK hw.1 hp0pm (vp_iv r7fp (by decide)) dX1_palmsTold_15 (fun x15 => ?_)
        refine lv_iconst (v := (-1)) hx hb dX1_palmsTold_16 (by decide) ?_
        have J23 : ∀ (y23_l1 : Int32), iv y4_l2 0 9 → ∀ (ls : Array Slot), lv_has ls 3 [(0, .ref ap0), (1, .int y23_l1), (2, .int y4_l2)] → WX1_palmsTold p l e s m below meth c D T ap0 s.heap [] (F0 m 23 ls []) := by
          intro y23_l1 c23_y4_l2 ls hl
          obtain ⟨x23, ex23⟩ : ∃ y : Int32, y = y4_l2 + 1 := ⟨_, rfl⟩
          have bx23 : iv x23 1 10 := iv_add c23_y4_l2 (show iv 1 1 1 from ⟨by decide, by decide⟩) ex23 (by decide)
          have qx23 := iv_add_eq c23_y4_l2 (show iv 1 1 1 from ⟨by decide, by decide⟩) ex23 (by decide)
          refine lv_iinc (v := x23) (lv' := [(2, .int x23), (0, .ref ap0), (1, .int y23_l1)]) hx hb dX1_palmsTold_23 hl (k := 2) rfl (by rw [ex23]; rfl) (by decide) rfl (fun ls hl => ?_)
          refine lv_goto (tgt := 4) hx hb dX1_palmsTold_26 (by decide) ?_
          exact ih4 y23_l1 x23 (mu_up 1 hmu4 (qx23) (by decide) (show iv x23 0 10 from (bx23.mono (by decide) (by decide))).2) (bx23.mono (by decide) (by decide)) _ (lv_sub hl [1, 2, 0] rfl)
        refine lv_icmp_eq (tgt := 23) hx hb dX1_palmsTold_17 (by decide) (fun c17 => ?_) (fun c17 => ?_)
        · have r17tp : iv x15 (-1) (-1) := (iv_both (iv_any x15) (iv_eq (show iv (-1) (-1) (-1) from ⟨by decide, by decide⟩) c17)).mono (by decide) (by decide)
          exact J23 y4_l1 r7fp _ (lv_sub hl [0, 1, 2] rfl)
        · obtain ⟨x20, ex20⟩ : ∃ y : Int32, y = y4_l1 + 1 := ⟨_, rfl⟩
          refine lv_iinc (v := x20) (lv' := [(1, .int x20), (0, .ref ap0), (2, .int y4_l2)]) hx hb dX1_palmsTold_20 hl (k := 1) rfl (by rw [ex20]; rfl) (by decide) rfl (fun ls hl => ?_)
          exact J23 x20 r7fp _ (lv_sub hl [1, 0, 2] rfl)
  exact J4 _ (0 : Int32) (0 : Int32) (Nat.lt_succ_self _) (show iv 0 0 10 from ⟨by decide, by decide⟩) _ (lv_sub hl [2, 1, 0] rfl)
abbrev WX1_forgetFirst (p : Program) (l : Launch) (e : Env) (s : State) (m : MethodId) (below : List Frame) (meth : Method) (c : Code) (D : hp_D) (T : hp_T) (ap0 : Nat) (H : Heap) (locs : List Loc) (g : JFrame) : Prop := W p l e (headSpec wsX1_forgetFirst ({ frames := 1, cells := 0, slots := 0, locals := 39 })).room s m ([.ref ap0] : List Value).toArray below meth c H locs 0 0 (MQ below (hq_e D T (fun v _ _ => v = none ∧ True)) ([.ref ap0] : List Value).toArray s 0 0 (hp_F T)) g
set_option maxHeartbeats 4000000 in
set_option maxRecDepth 100000 in
theorem sX1_forgetFirst (l : Launch) (D : hp_D) (T : hp_T) (ap0 : Nat) (hp0 : T ap0 = some (.inl (0, 20, fun _ => rA))) : Met l yX1_forgetFirst wsX1_forgetFirst ({ frames := 1, cells := 0, slots := 0, locals := 39 }) (hp_Pc D T [.ref ap0] (fun _ => True)) (hq_e D T (fun v _ _ => v = none ∧ True)) 0 0 (hp_F T) := by
  refine Met.ofW (cc := cX1_forgetFirst) (maxL := 1) (ret := none) (by decide) rfl ?_
  intro p e s m args below meth c s₁ B hml hv
  obtain ⟨rfl, hok, hG, hB⟩ := hv
  have hx := B.exec
  have hb := B.bytes
  have hr := B.returns
  have hts := atoms_spec (ws := wsX1_forgetFirst) B.pre
  have hown : s.vm.findClass RX1 = some m.cls := findClass_of_methodNamed B.named
  have hlocks := B.notSynchronized
  have hK := hG.1
  have hw : hp_w D T s s.heap [] := hp_w.rf hok
  have AC66_1 := hts (.methodLink RX1 66 arraycopyName) (by decide +kernel)
  have AC66_2 := hts (.native arraycopyName) (by decide +kernel)
  have AC66_3 := hts (.static arraycopyName) (by decide +kernel)
  have AC66_4 := hts (.initialized "java/lang/System") (by decide +kernel)
  have hl := lv_entry ([.ref ap0]) (n := 1) (Nat.le_of_ble_eq_true rfl)
  rw [lg_entry_eq]
  generalize (lg_sl ([.ref ap0]) ++ List.replicate (1 - (lg_sl ([.ref ap0])).length) Slot.unset).toArray = ls at hl ⊢
  have hl : lv_has ls 1 [(0, .ref ap0)] := hl
  show WX1_forgetFirst p l e s m below meth c D T ap0 s.heap [] (F0 m 0 ls [])
  refine lv_aload_n hx hb dX1_forgetFirst_0 rfl (lv_at hl 0 rfl) ?_
  refine lv_iconst (v := 1) hx hb dX1_forgetFirst_1 (by decide) ?_
  refine lv_aload_n hx hb dX1_forgetFirst_2 rfl (lv_at hl 0 rfl) ?_
  refine lv_iconst (v := 0) hx hb dX1_forgetFirst_3 (by decide) ?_
  refine lv_bipush (v := 19) hx hb dX1_forgetFirst_4 (by decide) ?_
  refine hp_copy hx hb (by rw [hml]; exact hl.1.symm) hown AC66_1 AC66_2 AC66_3 AC66_4 hK hw hp0 hp0 (fun v h => h) (fun v h => h) (by decide) (by decide) (by decide) (by decide) (by decide) (Nat.le_of_ble_eq_true rfl) (Nat.le_of_ble_eq_true rfl) dX1_forgetFirst_6 (fun H6 locs6 hw g6 => ?_)
  exact W.vret hx hb hr (fun t ht hW => ⟨none, rfl, ⟨rfl, trivial⟩, by rw [ht]; exact hw.1, hw.2.F ht⟩) hw.2.2.2 dX1_forgetFirst_9
abbrev WX1_remember (p : Program) (l : Launch) (e : Env) (s : State) (m : MethodId) (below : List Frame) (meth : Method) (c : Code) (D : hp_D) (T : hp_T) (ap0 : Nat) (xp1 : Int32) (xp2 : Int32) (xp3 : Int32) (xp4 : Int32) (H : Heap) (locs : List Loc) (g : JFrame) : Prop := W p l e (headSpec wsX1_remember ({ frames := 2, cells := 0, slots := 0, locals := 59 })).room s m ([.ref ap0, .int xp1, .int xp2, .int xp3, .int xp4] : List Value).toArray below meth c H locs 0 0 (MQ below (hq_e D T (fun v _ _ => v = none ∧ True)) ([.ref ap0, .int xp1, .int xp2, .int xp3, .int xp4] : List Value).toArray s 0 0 (hp_F T)) g
set_option maxHeartbeats 4000000 in
set_option maxRecDepth 100000 in
theorem sX1_remember (l : Launch) (D : hp_D) (T : hp_T) (ap0 : Nat) (xp1 : Int32) (xp2 : Int32) (xp3 : Int32) (xp4 : Int32) (pxp0 : Value → Prop) (ip0 : isMemory T ap0 pxp0) : Met l yX1_remember wsX1_remember ({ frames := 2, cells := 0, slots := 0, locals := 59 }) (hp_Pc D T [.ref ap0, .int xp1, .int xp2, .int xp3, .int xp4] (fun _ => True)) (hq_e D T (fun v _ _ => v = none ∧ True)) 0 0 (hp_F T) := by
  obtain ⟨ap0tw, ap0tg, ap0th, ap0ts, ap0pm, ap0ak, ap0ao, ap0ah, ap0aw, hp0, ip0tw, hp0tg, hp0th, hp0ts, hp0pm, hp0ak, hp0ao, hp0ah, hp0aw⟩ := id ip0
  obtain ⟨ap0twkin, ap0twpl, ap0twcr, hp0tw, hp0twkin, hp0twpl, hp0twcr⟩ := id ip0tw
  refine Met.ofW (cc := cX1_remember) (maxL := 5) (ret := none) (by decide) rfl ?_
  intro p e s m args below meth c s₁ B hml hv
  obtain ⟨rfl, hok, hG, hB⟩ := hv
  have hx := B.exec
  have hb := B.bytes
  have hr := B.returns
  have hts := atoms_spec (ws := wsX1_remember) B.pre
  have hown : s.vm.findClass RX1 = some m.cls := findClass_of_methodNamed B.named
  have hlocks := B.notSynchronized
  have hK := hG.1
  have hw : hp_w D T s s.heap [] := hp_w.rf hok
  have IX1 : ∀ w ∈ wsX10, w ∈ wsX1_remember := by decide +kernel
  have L41 := hts (.fieldLink RX1 41 "PalmCensus$Memory" "acts" "I") (by decide +kernel)
  have L44 := hts (.fieldLink RX1 44 "PalmCensus$Memory" "actKind" "[I") (by decide +kernel)
  have L47 := hts (.fieldLink RX1 47 "PalmCensus$Memory" "actOf" "[I") (by decide +kernel)
  have L50 := hts (.fieldLink RX1 50 "PalmCensus$Memory" "actHour" "[I") (by decide +kernel)
  have L53 := hts (.fieldLink RX1 53 "PalmCensus$Memory" "actWas" "[I") (by decide +kernel)
  have hl := lv_entry ([.ref ap0, .int xp1, .int xp2, .int xp3, .int xp4]) (n := 5) (Nat.le_of_ble_eq_true rfl)
  rw [lg_entry_eq]
  generalize (lg_sl ([.ref ap0, .int xp1, .int xp2, .int xp3, .int xp4]) ++ List.replicate (5 - (lg_sl ([.ref ap0, .int xp1, .int xp2, .int xp3, .int xp4])).length) Slot.unset).toArray = ls at hl ⊢
  have hl : lv_has ls 5 [(0, .ref ap0), (1, .int xp1), (2, .int xp2), (3, .int xp3), (4, .int xp4)] := hl
  show WX1_remember p l e s m below meth c D T ap0 xp1 xp2 xp3 xp4 s.heap [] (F0 m 0 ls [])
  obtain ⟨x9000op0_8, bx9000op0_8, fx9000op0_8⟩ := hp_opI hw.1 hp0 8 rfl
  refine lv_aload_n hx hb dX1_remember_0 rfl (lv_at hl 0 rfl) ?_
  refine hp_getf hx hb hts IX1 hown hK fx9000op0_8 rfl (by decide) L41 dX1_remember_1 ?_
  refine lv_bipush (v := 20) hx hb dX1_remember_4 (by decide) ?_
  have J43 : ∀ (y43_fp0_8 : Int32), iv y43_fp0_8 0 19 → ∀ (H : Heap) (locs : List Loc), hp_w D T s H locs → hp_f D H ap0 1 8 (.int y43_fp0_8) → ∀ (ls : Array Slot), lv_has ls 5 [(0, .ref ap0), (1, .int xp1), (2, .int xp2), (3, .int xp3), (4, .int xp4)] → WX1_remember p l e s m below meth c D T ap0 xp1 xp2 xp3 xp4 H locs (F0 m 43 ls []) := by
    intro y43_fp0_8 c43_y43_fp0_8 H43 locs43 hw f_p0_8 ls hl
    refine lv_aload_n hx hb dX1_remember_43 rfl (lv_at hl 0 rfl) ?_
    refine hp_getr hx hb hts IX1 hown hK hw.1 hp0 rfl 9 (by decide) L44 rfl dX1_remember_44 ?_
    refine lv_aload_n hx hb dX1_remember_47 rfl (lv_at hl 0 rfl) ?_
    refine hp_getf hx hb hts IX1 hown hK f_p0_8 rfl (by decide) L41 dX1_remember_48 ?_
    refine lv_iload_n hx hb dX1_remember_51 rfl (lv_at hl 1 rfl) ?_
    refine hp_iast hx hb hK hw hp0ak (vp_iv c43_y43_fp0_8 (by decide)) ⟨_, rfl⟩ dX1_remember_52 (fun H52 locs52 hw g52 => ?_)
    have f_p0_8 := g52 _ _ _ _ f_p0_8
    refine lv_aload_n hx hb dX1_remember_53 rfl (lv_at hl 0 rfl) ?_
    refine hp_getr hx hb hts IX1 hown hK hw.1 hp0 rfl 10 (by decide) L47 rfl dX1_remember_54 ?_
    refine lv_aload_n hx hb dX1_remember_57 rfl (lv_at hl 0 rfl) ?_
    refine hp_getf hx hb hts IX1 hown hK f_p0_8 rfl (by decide) L41 dX1_remember_58 ?_
    refine lv_iload_n hx hb dX1_remember_61 rfl (lv_at hl 2 rfl) ?_
    refine hp_iast hx hb hK hw hp0ao (vp_iv c43_y43_fp0_8 (by decide)) ⟨_, rfl⟩ dX1_remember_62 (fun H62 locs62 hw g62 => ?_)
    have f_p0_8 := g62 _ _ _ _ f_p0_8
    refine lv_aload_n hx hb dX1_remember_63 rfl (lv_at hl 0 rfl) ?_
    refine hp_getr hx hb hts IX1 hown hK hw.1 hp0 rfl 11 (by decide) L50 rfl dX1_remember_64 ?_
    refine lv_aload_n hx hb dX1_remember_67 rfl (lv_at hl 0 rfl) ?_
    refine hp_getf hx hb hts IX1 hown hK f_p0_8 rfl (by decide) L41 dX1_remember_68 ?_
    refine lv_iload_n hx hb dX1_remember_71 rfl (lv_at hl 3 rfl) ?_
    refine hp_iast hx hb hK hw hp0ah (vp_iv c43_y43_fp0_8 (by decide)) ⟨_, rfl⟩ dX1_remember_72 (fun H72 locs72 hw g72 => ?_)
    have f_p0_8 := g72 _ _ _ _ f_p0_8
    refine lv_aload_n hx hb dX1_remember_73 rfl (lv_at hl 0 rfl) ?_
    refine hp_getr hx hb hts IX1 hown hK hw.1 hp0 rfl 12 (by decide) L53 rfl dX1_remember_74 ?_
    refine lv_aload_n hx hb dX1_remember_77 rfl (lv_at hl 0 rfl) ?_
    refine hp_getf hx hb hts IX1 hown hK f_p0_8 rfl (by decide) L41 dX1_remember_78 ?_
    refine lv_iload hx hb dX1_remember_81 (lv_at hl 4 rfl) ?_
    refine hp_iast hx hb hK hw hp0aw (vp_iv c43_y43_fp0_8 (by decide)) ⟨_, rfl⟩ dX1_remember_83 (fun H83 locs83 hw g83 => ?_)
    have f_p0_8 := g83 _ _ _ _ f_p0_8
    refine lv_aload_n hx hb dX1_remember_84 rfl (lv_at hl 0 rfl) ?_
    refine lv_dup hx hb dX1_remember_85 rfl ?_
    refine hp_getf hx hb hts IX1 hown hK f_p0_8 rfl (by decide) L41 dX1_remember_86 ?_
    refine lv_iconst (v := 1) hx hb dX1_remember_89 (by decide) ?_
    refine lv_iadd hx hb dX1_remember_90 ?_
    refine lv_topi (fun x90 ex90 => ?_)
    have bx90 : iv x90 1 20 := iv_add c43_y43_fp0_8 (show iv 1 1 1 from ⟨by decide, by decide⟩) ex90 (by decide)
    have qx90 := iv_add_eq c43_y43_fp0_8 (show iv 1 1 1 from ⟨by decide, by decide⟩) ex90 (by decide)
    refine hp_put hx hb hts IX1 tyX1 tyX1_ok nmX1 hown hK hw hp0 rfl 8 (by decide) L41 rfl rfl ⟨_, rfl, (bx90.mono (by decide) (by decide))⟩ rfl rfl dX1_remember_91 (fun H91 locs91 hw f91n g91 => ?_)
    exact W.vret hx hb hr (fun t ht hW => ⟨none, rfl, ⟨rfl, trivial⟩, by rw [ht]; exact hw.1, hw.2.F ht⟩) hw.2.2.2 dX1_remember_94
  refine lv_icmp_lt (tgt := 43) hx hb dX1_remember_6 (by decide) (fun c6 => ?_) (fun c6 => ?_)
  · have r6tp : iv x9000op0_8 0 19 := (iv_lt_l c6 bx9000op0_8 (show iv 20 20 20 from ⟨by decide, by decide⟩)).mono (by decide) (by decide)
    exact J43 x9000op0_8 r6tp s.heap [] hw fx9000op0_8 _ (lv_sub hl [0, 1, 2, 3, 4] rfl)
  · have r6fq : iv x9000op0_8 20 20 := (iv_le_r (iv_nlt c6) (show iv 20 20 20 from ⟨by decide, by decide⟩) bx9000op0_8).mono (by decide) (by decide)
    refine lv_aload_n hx hb dX1_remember_9 rfl (lv_at hl 0 rfl) ?_
    refine hp_getr hx hb hts IX1 hown hK hw.1 hp0 rfl 9 (by decide) L44 rfl dX1_remember_10 ?_
    refine hp_callev (va_runS (As := [.ref ap0ak]) (rest := []) ⟨hx, hb, hml, hown, hts⟩ (sX1_forgetFirst l D T ap0ak hp0ak) (va_cwS 1 hts gX1_remember_X1_forgetFirst rfl rfl rfl (by decide +kernel) ⟨Nat.le_of_ble_eq_true rfl, Nat.le_of_ble_eq_true rfl⟩) (hp_preS hG hw trivial) rfl rfl hl.1 rfl (lv_room (Nat.le_of_ble_eq_true rfl)) dX1_remember_13 ⟨Nat.zero_le _, Nat.zero_le _⟩) hw (fun st13 t13 H13 locs13 eh13 eg13 bx13 hw => ?_)
    obtain ⟨x13op0_8, bx13op0_8, fx13op0_8⟩ := hp_opI hw.1 hp0 8 rfl
    refine lv_aload_n hx hb dX1_remember_16 rfl (lv_at hl 0 rfl) ?_
    refine hp_getr hx hb hts IX1 hown hK hw.1 hp0 rfl 10 (by decide) L47 rfl dX1_remember_17 ?_
    refine hp_callev (va_runS (As := [.ref ap0ao]) (rest := []) ⟨hx, hb, hml, hown, hts⟩ (sX1_forgetFirst l D T ap0ao hp0ao) (va_cwS 1 hts gX1_remember_X1_forgetFirst rfl rfl rfl (by decide +kernel) ⟨Nat.le_of_ble_eq_true rfl, Nat.le_of_ble_eq_true rfl⟩) (hp_preS hG hw trivial) rfl rfl hl.1 rfl (lv_room (Nat.le_of_ble_eq_true rfl)) dX1_remember_20 ⟨Nat.zero_le _, Nat.zero_le _⟩) hw (fun st20 t20 H20 locs20 eh20 eg20 bx20 hw => ?_)
    obtain ⟨x20op0_8, bx20op0_8, fx20op0_8⟩ := hp_opI hw.1 hp0 8 rfl
    refine lv_aload_n hx hb dX1_remember_23 rfl (lv_at hl 0 rfl) ?_
    refine hp_getr hx hb hts IX1 hown hK hw.1 hp0 rfl 11 (by decide) L50 rfl dX1_remember_24 ?_
    refine hp_callev (va_runS (As := [.ref ap0ah]) (rest := []) ⟨hx, hb, hml, hown, hts⟩ (sX1_forgetFirst l D T ap0ah hp0ah) (va_cwS 1 hts gX1_remember_X1_forgetFirst rfl rfl rfl (by decide +kernel) ⟨Nat.le_of_ble_eq_true rfl, Nat.le_of_ble_eq_true rfl⟩) (hp_preS hG hw trivial) rfl rfl hl.1 rfl (lv_room (Nat.le_of_ble_eq_true rfl)) dX1_remember_27 ⟨Nat.zero_le _, Nat.zero_le _⟩) hw (fun st27 t27 H27 locs27 eh27 eg27 bx27 hw => ?_)
    obtain ⟨x27op0_8, bx27op0_8, fx27op0_8⟩ := hp_opI hw.1 hp0 8 rfl
    refine lv_aload_n hx hb dX1_remember_30 rfl (lv_at hl 0 rfl) ?_
    refine hp_getr hx hb hts IX1 hown hK hw.1 hp0 rfl 12 (by decide) L53 rfl dX1_remember_31 ?_
    refine hp_callev (va_runS (As := [.ref ap0aw]) (rest := []) ⟨hx, hb, hml, hown, hts⟩ (sX1_forgetFirst l D T ap0aw hp0aw) (va_cwS 1 hts gX1_remember_X1_forgetFirst rfl rfl rfl (by decide +kernel) ⟨Nat.le_of_ble_eq_true rfl, Nat.le_of_ble_eq_true rfl⟩) (hp_preS hG hw trivial) rfl rfl hl.1 rfl (lv_room (Nat.le_of_ble_eq_true rfl)) dX1_remember_34 ⟨Nat.zero_le _, Nat.zero_le _⟩) hw (fun st34 t34 H34 locs34 eh34 eg34 bx34 hw => ?_)
    obtain ⟨x34op0_8, bx34op0_8, fx34op0_8⟩ := hp_opI hw.1 hp0 8 rfl
    refine lv_aload_n hx hb dX1_remember_37 rfl (lv_at hl 0 rfl) ?_
    refine lv_bipush (v := 19) hx hb dX1_remember_38 (by decide) ?_
    refine hp_put hx hb hts IX1 tyX1 tyX1_ok nmX1 hown hK hw hp0 rfl 8 (by decide) L41 rfl rfl ⟨_, rfl, (show iv 19 0 20 from ⟨by decide, by decide⟩)⟩ rfl rfl dX1_remember_40 (fun H40 locs40 hw f40n g40 => ?_)
    exact J43 (19 : Int32) (show iv 19 0 19 from ⟨by decide, by decide⟩) H40 locs40 hw f40n _ (lv_sub hl [0, 1, 2, 3, 4] rfl)
abbrev WX1_takeBack (p : Program) (l : Launch) (e : Env) (s : State) (m : MethodId) (below : List Frame) (meth : Method) (c : Code) (D : hp_D) (T : hp_T) (ap0 : Nat) (H : Heap) (locs : List Loc) (g : JFrame) : Prop := W p l e (headSpec wsX1_takeBack ({ frames := 3, cells := 0, slots := 0, locals := 67 })).room s m ([.ref ap0] : List Value).toArray below meth c H locs 0 0 (MQ below (hq_e D T (fun v _ _ => ∃ r : Int32, v = some (.int r) ∧ iv r 0 1)) ([.ref ap0] : List Value).toArray s 0 0 (hp_F T)) g
set_option maxHeartbeats 4000000 in
set_option maxRecDepth 100000 in
theorem sX1_takeBack (l : Launch) (D : hp_D) (T : hp_T) (ap0 : Nat) (pxp0 : Value → Prop) (ip0 : isMemory T ap0 pxp0) : Met l yX1_takeBack wsX1_takeBack ({ frames := 3, cells := 0, slots := 0, locals := 67 }) (hp_Pc D T [.ref ap0] (fun _ => True)) (hq_e D T (fun v _ _ => ∃ r : Int32, v = some (.int r) ∧ iv r 0 1)) 0 0 (hp_F T) := by
  obtain ⟨ap0tw, ap0tg, ap0th, ap0ts, ap0pm, ap0ak, ap0ao, ap0ah, ap0aw, hp0, ip0tw, hp0tg, hp0th, hp0ts, hp0pm, hp0ak, hp0ao, hp0ah, hp0aw⟩ := id ip0
  obtain ⟨ap0twkin, ap0twpl, ap0twcr, hp0tw, hp0twkin, hp0twpl, hp0twcr⟩ := id ip0tw
  refine Met.ofW (cc := cX1_takeBack) (maxL := 1) (ret := (some .boolean)) (by decide) rfl ?_
  intro p e s m args below meth c s₁ B hml hv
  obtain ⟨rfl, hok, hG, hB⟩ := hv
  have hx := B.exec
  have hb := B.bytes
  have hr := B.returns
  have hts := atoms_spec (ws := wsX1_takeBack) B.pre
  have hown : s.vm.findClass RX1 = some m.cls := findClass_of_methodNamed B.named
  have hlocks := B.notSynchronized
  have hK := hG.1
  have hw : hp_w D T s s.heap [] := hp_w.rf hok
  have IX1 : ∀ w ∈ wsX10, w ∈ wsX1_takeBack := by decide +kernel
  have IX8 : ∀ w ∈ wsX80, w ∈ wsX1_takeBack := by decide +kernel
  have L41 := hts (.fieldLink RX1 41 "PalmCensus$Memory" "acts" "I") (by decide +kernel)
  have L44 := hts (.fieldLink RX1 44 "PalmCensus$Memory" "actKind" "[I") (by decide +kernel)
  have L12 := hts (.fieldLink RX1 12 "PalmCensus$Memory" "town" "LPalmCensus$Town;") (by decide +kernel)
  have L86 := hts (.fieldLink RX1 86 "PalmCensus$Town" "day" "I") (by decide +kernel)
  have L47 := hts (.fieldLink RX1 47 "PalmCensus$Memory" "actOf" "[I") (by decide +kernel)
  have L50 := hts (.fieldLink RX1 50 "PalmCensus$Memory" "actHour" "[I") (by decide +kernel)
  have L53 := hts (.fieldLink RX1 53 "PalmCensus$Memory" "actWas" "[I") (by decide +kernel)
  have L80 := hts (.fieldLink RX1 80 "PalmCensus$Town" "gloved" "I") (by decide +kernel)
  have L83 := hts (.fieldLink RX1 83 "PalmCensus$Town" "counters" "I") (by decide +kernel)
  have hl := lv_entry ([.ref ap0]) (n := 1) (Nat.le_of_ble_eq_true rfl)
  rw [lg_entry_eq]
  generalize (lg_sl ([.ref ap0]) ++ List.replicate (1 - (lg_sl ([.ref ap0])).length) Slot.unset).toArray = ls at hl ⊢
  have hl : lv_has ls 1 [(0, .ref ap0)] := hl
  show WX1_takeBack p l e s m below meth c D T ap0 s.heap [] (F0 m 0 ls [])
  refine lv_aload_n hx hb dX1_takeBack_0 rfl (lv_at hl 0 rfl) ?_
  refine hp_geti hx hb hts IX1 hown hK hw.1 hp0 rfl 8 (by decide) L41 rfl dX1_takeBack_1 (fun x1 bx1 fx1 => ?_)
  refine lv_iconst (v := 1) hx hb dX1_takeBack_4 (by decide) ?_
  refine lv_icmp_ge (tgt := 10) hx hb dX1_takeBack_5 (by decide) (fun c5 => ?_) (fun c5 => ?_)
  · have r5tq : iv x1 1 20 := (iv_le_r c5 (show iv 1 1 1 from ⟨by decide, by decide⟩) bx1).mono (by decide) (by decide)
    refine lv_aload_n hx hb dX1_takeBack_10 rfl (lv_at hl 0 rfl) ?_
    refine lv_dup hx hb dX1_takeBack_11 rfl ?_
    refine hp_getf hx hb hts IX1 hown hK fx1 rfl (by decide) L41 dX1_takeBack_12 ?_
    refine lv_iconst (v := 1) hx hb dX1_takeBack_15 (by decide) ?_
    refine lv_isub hx hb dX1_takeBack_16 ?_
    refine lv_topi (fun x16 ex16 => ?_)
    have bx16 : iv x16 0 19 := iv_sub r5tq (show iv 1 1 1 from ⟨by decide, by decide⟩) ex16 (by decide)
    have qx16 := iv_sub_eq r5tq (show iv 1 1 1 from ⟨by decide, by decide⟩) ex16 (by decide)
    refine hp_put hx hb hts IX1 tyX1 tyX1_ok nmX1 hown hK hw hp0 rfl 8 (by decide) L41 rfl rfl ⟨_, rfl, (bx16.mono (by decide) (by decide))⟩ rfl rfl dX1_takeBack_17 (fun H17 locs17 hw f17n g17 => ?_)
    refine lv_aload_n hx hb dX1_takeBack_20 rfl (lv_at hl 0 rfl) ?_
    refine hp_getr hx hb hts IX1 hown hK hw.1 hp0 rfl 9 (by decide) L44 rfl dX1_takeBack_21 ?_
    refine lv_aload_n hx hb dX1_takeBack_24 rfl (lv_at hl 0 rfl) ?_
    refine hp_getf hx hb hts IX1 hown hK f17n rfl (by decide) L41 dX1_takeBack_25 ?_
    refine hp_ialdA hx hb hK hw.1 hp0ak (vp_iv bx16 (by decide)) dX1_takeBack_28 (fun x28 => ?_)
    have i29 := (iv_any x28)
    unfold iv at i29
    rcases (show (x28.toInt < 0 ∨ 2 < x28.toInt) ∨ x28.toInt = 0 ∨ x28.toInt = 1 ∨ x28.toInt = 2 from by omega) with s29 | s29 | s29 | s29
    · refine lv_tableOut (tgt := 142) hx hb dX1_takeBack_29 s29 (by decide) ?_
      refine lv_aload_n hx hb dX1_takeBack_142 rfl (lv_at hl 0 rfl) ?_
      refine hp_getr hx hb hts IX1 hown hK hw.1 hp0 rfl 0 (by decide) L12 rfl dX1_takeBack_143 ?_
      refine lv_dup hx hb dX1_takeBack_146 rfl ?_
      refine hp_getA hx hb hts IX8 hown hK hw.1 hp0tw rfl 3 (by decide) L86 rfl dX1_takeBack_147 (fun x147 fx147 => ?_)
      refine lv_iconst (v := 1) hx hb dX1_takeBack_150 (by decide) ?_
      refine lv_isub hx hb dX1_takeBack_151 ?_
      refine lv_topi (fun x151 ex151 => ?_)
      refine hp_put hx hb hts IX8 tyX8 tyX8_ok nmX8 hown hK hw hp0tw rfl 3 (by decide) L86 rfl rfl ⟨_, rfl⟩ rfl rfl dX1_takeBack_152 (fun H152 locs152 hw f152n g152 => ?_)
      have f_p0_8 := g152 _ _ _ _ f17n (Or.inl (hp_ne_oo hp0 hp0tw (by decide)))
      refine lv_iconst (v := 1) hx hb dX1_takeBack_155 (by decide) ?_
      exact W.zret (v := 1) hx hb hr (iv_nz (show iv 1 0 1 from ⟨by decide, by decide⟩)) (fun t ht hW => ⟨some (.int 1), rfl, ⟨(1 : Int32), rfl, (show iv 1 0 1 from ⟨by decide, by decide⟩)⟩, by rw [ht]; exact hw.1, hw.2.F ht⟩) hw.2.2.2 dX1_takeBack_156
    · refine lv_tableIn (off := 27) (tgt := 56) hx hb dX1_takeBack_29 (by omega) (by omega) (by rw [s29]; rfl) (by decide) ?_
      have r29k : iv x28 0 0 := ⟨by omega, by omega⟩
      refine lv_aload_n hx hb dX1_takeBack_56 rfl (lv_at hl 0 rfl) ?_
      refine hp_getr hx hb hts IX1 hown hK hw.1 hp0 rfl 0 (by decide) L12 rfl dX1_takeBack_57 ?_
      refine lv_aload_n hx hb dX1_takeBack_60 rfl (lv_at hl 0 rfl) ?_
      refine hp_getr hx hb hts IX1 hown hK hw.1 hp0 rfl 10 (by decide) L47 rfl dX1_takeBack_61 ?_
      refine lv_aload_n hx hb dX1_takeBack_64 rfl (lv_at hl 0 rfl) ?_
      refine hp_getf hx hb hts IX1 hown hK f17n rfl (by decide) L41 dX1_takeBack_65 ?_
      refine hp_ialdA hx hb hK hw.1 hp0ao (vp_iv bx16 (by decide)) dX1_takeBack_68 (fun x68 => ?_)
      refine lv_aload_n hx hb dX1_takeBack_69 rfl (lv_at hl 0 rfl) ?_
      refine hp_getr hx hb hts IX1 hown hK hw.1 hp0 rfl 11 (by decide) L50 rfl dX1_takeBack_70 ?_
      refine lv_aload_n hx hb dX1_takeBack_73 rfl (lv_at hl 0 rfl) ?_
      refine hp_getf hx hb hts IX1 hown hK f17n rfl (by decide) L41 dX1_takeBack_74 ?_
      refine hp_ialdA hx hb hK hw.1 hp0ah (vp_iv bx16 (by decide)) dX1_takeBack_77 (fun x77 => ?_)
      refine lv_aload_n hx hb dX1_takeBack_78 rfl (lv_at hl 0 rfl) ?_
      refine hp_getr hx hb hts IX1 hown hK hw.1 hp0 rfl 12 (by decide) L53 rfl dX1_takeBack_79 ?_
      refine lv_aload_n hx hb dX1_takeBack_82 rfl (lv_at hl 0 rfl) ?_
      refine hp_getf hx hb hts IX1 hown hK f17n rfl (by decide) L41 dX1_takeBack_83 ?_
      refine hp_ialdA hx hb hK hw.1 hp0aw (vp_iv bx16 (by decide)) dX1_takeBack_86 (fun x86 => ?_)
      refine hp_callev (va_runV (As := [.int x68, .int x77, .int x86]) (rest := []) ⟨hx, hb, hml, hown, hts⟩ (sX8_moveTo l D T ap0tw x68 x77 x86 ip0tw) (cwV 3 hts gX1_takeBack_X8_moveTo rfl rfl rfl (by decide +kernel) ⟨Nat.le_of_ble_eq_true rfl, Nat.le_of_ble_eq_true rfl⟩) (hp_preV hG hw hp0tw rfl trivial) rfl rfl hl.1 rfl (lv_room (Nat.le_of_ble_eq_true rfl)) dX1_takeBack_87 ⟨Nat.zero_le _, Nat.zero_le _⟩) hw (fun st87 t87 H87 locs87 eh87 eg87 bx87 hw => ?_)
      obtain ⟨bx87, g87⟩ := bx87
      rw [eh87, eg87] at g87
      have f_p0_8 := g87 _ _ _ _ f17n
      refine lv_iconst (v := 1) hx hb dX1_takeBack_90 (by decide) ?_
      exact W.zret (v := 1) hx hb hr (iv_nz (show iv 1 0 1 from ⟨by decide, by decide⟩)) (fun t ht hW => ⟨some (.int 1), rfl, ⟨(1 : Int32), rfl, (show iv 1 0 1 from ⟨by decide, by decide⟩)⟩, by rw [ht]; exact hw.1, hw.2.F ht⟩) hw.2.2.2 dX1_takeBack_91
    · refine lv_tableIn (off := 63) (tgt := 92) hx hb dX1_takeBack_29 (by omega) (by omega) (by rw [s29]; rfl) (by decide) ?_
      have r29k : iv x28 1 1 := ⟨by omega, by omega⟩
      refine lv_aload_n hx hb dX1_takeBack_92 rfl (lv_at hl 0 rfl) ?_
      refine hp_getr hx hb hts IX1 hown hK hw.1 hp0 rfl 0 (by decide) L12 rfl dX1_takeBack_93 ?_
      refine lv_dup hx hb dX1_takeBack_96 rfl ?_
      refine hp_getA hx hb hts IX8 hown hK hw.1 hp0tw rfl 5 (by decide) L80 rfl dX1_takeBack_97 (fun x97 fx97 => ?_)
      refine lv_iconst (v := 1) hx hb dX1_takeBack_100 (by decide) ?_
      refine lv_aload_n hx hb dX1_takeBack_101 rfl (lv_at hl 0 rfl) ?_
      refine hp_getr hx hb hts IX1 hown hK hw.1 hp0 rfl 10 (by decide) L47 rfl dX1_takeBack_102 ?_
      refine lv_aload_n hx hb dX1_takeBack_105 rfl (lv_at hl 0 rfl) ?_
      refine hp_getf hx hb hts IX1 hown hK f17n rfl (by decide) L41 dX1_takeBack_106 ?_
      refine hp_ialdA hx hb hK hw.1 hp0ao (vp_iv bx16 (by decide)) dX1_takeBack_109 (fun x109 => ?_)
      refine lv_ishl hx hb dX1_takeBack_110 ?_
      refine lv_topi (fun x110 ex110 => ?_)
      refine lv_ixor hx hb dX1_takeBack_111 ?_
      refine lv_topi (fun x111 ex111 => ?_)
      refine hp_put hx hb hts IX8 tyX8 tyX8_ok nmX8 hown hK hw hp0tw rfl 5 (by decide) L80 rfl rfl ⟨_, rfl⟩ rfl rfl dX1_takeBack_112 (fun H112 locs112 hw f112n g112 => ?_)
      have f_p0_8 := g112 _ _ _ _ f17n (Or.inl (hp_ne_oo hp0 hp0tw (by decide)))
      refine lv_iconst (v := 1) hx hb dX1_takeBack_115 (by decide) ?_
      exact W.zret (v := 1) hx hb hr (iv_nz (show iv 1 0 1 from ⟨by decide, by decide⟩)) (fun t ht hW => ⟨some (.int 1), rfl, ⟨(1 : Int32), rfl, (show iv 1 0 1 from ⟨by decide, by decide⟩)⟩, by rw [ht]; exact hw.1, hw.2.F ht⟩) hw.2.2.2 dX1_takeBack_116
    · refine lv_tableIn (off := 88) (tgt := 117) hx hb dX1_takeBack_29 (by omega) (by omega) (by rw [s29]; rfl) (by decide) ?_
      have r29k : iv x28 2 2 := ⟨by omega, by omega⟩
      refine lv_aload_n hx hb dX1_takeBack_117 rfl (lv_at hl 0 rfl) ?_
      refine hp_getr hx hb hts IX1 hown hK hw.1 hp0 rfl 0 (by decide) L12 rfl dX1_takeBack_118 ?_
      refine lv_dup hx hb dX1_takeBack_121 rfl ?_
      refine hp_getA hx hb hts IX8 hown hK hw.1 hp0tw rfl 7 (by decide) L83 rfl dX1_takeBack_122 (fun x122 fx122 => ?_)
      refine lv_iconst (v := 1) hx hb dX1_takeBack_125 (by decide) ?_
      refine lv_aload_n hx hb dX1_takeBack_126 rfl (lv_at hl 0 rfl) ?_
      refine hp_getr hx hb hts IX1 hown hK hw.1 hp0 rfl 10 (by decide) L47 rfl dX1_takeBack_127 ?_
      refine lv_aload_n hx hb dX1_takeBack_130 rfl (lv_at hl 0 rfl) ?_
      refine hp_getf hx hb hts IX1 hown hK f17n rfl (by decide) L41 dX1_takeBack_131 ?_
      refine hp_ialdA hx hb hK hw.1 hp0ao (vp_iv bx16 (by decide)) dX1_takeBack_134 (fun x134 => ?_)
      refine lv_ishl hx hb dX1_takeBack_135 ?_
      refine lv_topi (fun x135 ex135 => ?_)
      refine lv_ixor hx hb dX1_takeBack_136 ?_
      refine lv_topi (fun x136 ex136 => ?_)
      refine hp_put hx hb hts IX8 tyX8 tyX8_ok nmX8 hown hK hw hp0tw rfl 7 (by decide) L83 rfl rfl ⟨_, rfl⟩ rfl rfl dX1_takeBack_137 (fun H137 locs137 hw f137n g137 => ?_)
      have f_p0_8 := g137 _ _ _ _ f17n (Or.inl (hp_ne_oo hp0 hp0tw (by decide)))
      refine lv_iconst (v := 1) hx hb dX1_takeBack_140 (by decide) ?_
      exact W.zret (v := 1) hx hb hr (iv_nz (show iv 1 0 1 from ⟨by decide, by decide⟩)) (fun t ht hW => ⟨some (.int 1), rfl, ⟨(1 : Int32), rfl, (show iv 1 0 1 from ⟨by decide, by decide⟩)⟩, by rw [ht]; exact hw.1, hw.2.F ht⟩) hw.2.2.2 dX1_takeBack_141
  · have r5fp : iv x1 0 0 := (iv_lt_l (iv_nle c5) bx1 (show iv 1 1 1 from ⟨by decide, by decide⟩)).mono (by decide) (by decide)
    refine lv_iconst (v := 0) hx hb dX1_takeBack_8 (by decide) ?_
    exact W.zret (v := 0) hx hb hr (iv_nz (show iv 0 0 1 from ⟨by decide, by decide⟩)) (fun t ht hW => ⟨some (.int 0), rfl, ⟨(0 : Int32), rfl, (show iv 0 0 1 from ⟨by decide, by decide⟩)⟩, by rw [ht]; exact hw.1, hw.2.F ht⟩) hw.2.2.2 dX1_takeBack_9
abbrev WX11_listMembers (p : Program) (l : Launch) (e : Env) (s : State) (m : MethodId) (below : List Frame) (meth : Method) (c : Code) (D : hp_D) (T : hp_T) (xp0 : Int32) (ap1 : Nat) (H : Heap) (locs : List Loc) (g : JFrame) : Prop := W p l e (headSpec wsX11_listMembers ({ frames := 0, cells := 0, slots := 0, locals := 0 })).room s m ([.int xp0, .ref ap1] : List Value).toArray below meth c H locs 0 0 (MQ below (hq_e D T (fun v _ _ => ∃ r : Int32, v = some (.int r) ∧ iv r 0 10)) ([.int xp0, .ref ap1] : List Value).toArray s 0 0 (hp_F T)) g
set_option maxHeartbeats 4000000 in
set_option maxRecDepth 100000 in
theorem sX11_listMembers (l : Launch) (D : hp_D) (T : hp_T) (xp0 : Int32) (ap1 : Nat) (hp1 : T ap1 = some (.inl (0, 10, fun _ => (rI 0 9)))) : Met l yX11_listMembers wsX11_listMembers ({ frames := 0, cells := 0, slots := 0, locals := 0 }) (hp_Pc D T [.int xp0, .ref ap1] (fun _ => True)) (hq_e D T (fun v _ _ => ∃ r : Int32, v = some (.int r) ∧ iv r 0 10)) 0 0 (hp_F T) := by
  refine Met.ofW (cc := cX11_listMembers) (maxL := 4) (ret := (some .int)) (by decide) rfl ?_
  intro p e s m args below meth c s₁ B hml hv
  obtain ⟨rfl, hok, hG, hB⟩ := hv
  have hx := B.exec
  have hb := B.bytes
  have hr := B.returns
  have hts := atoms_spec (ws := wsX11_listMembers) B.pre
  have hown : s.vm.findClass RX11 = some m.cls := findClass_of_methodNamed B.named
  have hlocks := B.notSynchronized
  have hK := hG.1
  have hw : hp_w D T s s.heap [] := hp_w.rf hok
  have hl := lv_entry ([.int xp0, .ref ap1]) (n := 4) (Nat.le_of_ble_eq_true rfl)
  rw [lg_entry_eq]
  generalize (lg_sl ([.int xp0, .ref ap1]) ++ List.replicate (4 - (lg_sl ([.int xp0, .ref ap1])).length) Slot.unset).toArray = ls at hl ⊢
  have hl : lv_has ls 4 [(0, .int xp0), (1, .ref ap1)] := hl
  show WX11_listMembers p l e s m below meth c D T xp0 ap1 s.heap [] (F0 m 0 ls [])
  refine lv_iconst (v := 0) hx hb dX11_listMembers_0 (by decide) ?_
  refine lv_istore_n (lv' := [(2, .int 0), (0, .int xp0), (1, .ref ap1)]) hx hb dX11_listMembers_1 rfl hl (by decide) rfl (fun ls hl => ?_)
  refine lv_iconst (v := 0) hx hb dX11_listMembers_2 (by decide) ?_
  refine lv_istore_n (lv' := [(3, .int 0), (2, .int 0), (0, .int xp0), (1, .ref ap1)]) hx hb dX11_listMembers_3 rfl hl (by decide) rfl (fun ls hl => ?_)
  have J4 : ∀ (n : Nat) (y4_l2 y4_l3 : Int32), (10 - y4_l3.toInt).toNat < n → iv y4_l2 0 10 → iv y4_l3 0 10 → ∀ (H : Heap) (locs : List Loc), hp_w D T s H locs → ∀ (ls : Array Slot), lv_has ls 4 [(0, .int xp0), (1, .ref ap1), (2, .int y4_l2), (3, .int y4_l3)] → WX11_listMembers p l e s m below meth c D T xp0 ap1 H locs (F0 m 4 ls []) := by
    intro n
    induction n with
    | zero => intro y4_l2 y4_l3 hmu4 c4_y4_l2 c4_y4_l3 H4 locs4 hw ls hl; exact absurd hmu4 (Nat.not_lt_zero _)
    | succ n ih4 =>
      intro y4_l2 y4_l3 hmu4 c4_y4_l2 c4_y4_l3 H4 locs4 hw ls hl
      refine lv_iload_n hx hb dX11_listMembers_4 rfl (lv_at hl 3 rfl) ?_
      refine lv_bipush (v := 10) hx hb dX11_listMembers_5 (by decide) ?_
      refine lv_icmp_ge (tgt := 37) hx hb dX11_listMembers_7 (by decide) (fun c7 => ?_) (fun c7 => ?_)
      · have r7tq : iv y4_l3 10 10 := (iv_le_r c7 (show iv 10 10 10 from ⟨by decide, by decide⟩) c4_y4_l3).mono (by decide) (by decide)
        refine lv_iload_n hx hb dX11_listMembers_37 rfl (lv_at hl 2 rfl) ?_
        exact W.iret (v := y4_l2) hx hb hr (fun t ht hW => ⟨some (.int y4_l2), rfl, ⟨y4_l2, rfl, c4_y4_l2⟩, by rw [ht]; exact hw.1, hw.2.F ht⟩) hw.2.2.2 dX11_listMembers_38
      · have r7fp : iv y4_l3 0 9 := (iv_lt_l (iv_nle c7) c4_y4_l3 (show iv 10 10 10 from ⟨by decide, by decide⟩)).mono (by decide) (by decide)
        refine lv_iload_n hx hb dX11_listMembers_10 rfl (lv_at hl 0 rfl) ?_
        refine lv_iload_n hx hb dX11_listMembers_11 rfl (lv_at hl 3 rfl) ?_
        refine lv_ishr hx hb dX11_listMembers_12 ?_
        refine lv_topi (fun x12 ex12 => ?_)
        refine lv_iconst (v := 1) hx hb dX11_listMembers_13 (by decide) ?_
        refine lv_iand hx hb dX11_listMembers_14 ?_
        refine lv_topi (fun x14 ex14 => ?_)
        have bx14 : iv x14 0 1 := iv_and_r (show iv 1 0 1 from ⟨by decide, by decide⟩) ex14
        have J31 : ∀ (y31_l2 : Int32), iv y31_l2 0 10 → iv y4_l3 0 9 → ∀ (H : Heap) (locs : List Loc), hp_w D T s H locs → ∀ (ls : Array Slot), lv_has ls 4 [(0, .int xp0), (1, .ref ap1), (2, .int y31_l2), (3, .int y4_l3)] → WX11_listMembers p l e s m below meth c D T xp0 ap1 H locs (F0 m 31 ls []) := by
          intro y31_l2 c31_y31_l2 c31_y4_l3 H31 locs31 hw ls hl
          obtain ⟨x31, ex31⟩ : ∃ y : Int32, y = y4_l3 + 1 := ⟨_, rfl⟩
          have bx31 : iv x31 1 10 := iv_add c31_y4_l3 (show iv 1 1 1 from ⟨by decide, by decide⟩) ex31 (by decide)
          have qx31 := iv_add_eq c31_y4_l3 (show iv 1 1 1 from ⟨by decide, by decide⟩) ex31 (by decide)
          refine lv_iinc (v := x31) (lv' := [(3, .int x31), (0, .int xp0), (1, .ref ap1), (2, .int y31_l2)]) hx hb dX11_listMembers_31 hl (k := 3) rfl (by rw [ex31]; rfl) (by decide) rfl (fun ls hl => ?_)
          refine lv_goto (tgt := 4) hx hb dX11_listMembers_34 (by decide) ?_
          exact ih4 y31_l2 x31 (mu_up 1 hmu4 (qx31) (by decide) (show iv x31 0 10 from (bx31.mono (by decide) (by decide))).2) c31_y31_l2 (bx31.mono (by decide) (by decide)) H31 locs31 hw _ (lv_sub hl [1, 2, 3, 0] rfl)
        refine lv_if_eq (tgt := 31) hx hb dX11_listMembers_15 (by decide) (fun c15 => ?_) (fun c15 => ?_)
        · have r15tp : iv x14 0 0 := (iv_both bx14 (iv_eq (show iv 0 0 0 from ⟨by decide, by decide⟩) c15)).mono (by decide) (by decide)
          exact J31 y4_l2 c4_y4_l2 r7fp H4 locs4 hw _ (lv_sub hl [0, 1, 2, 3] rfl)
        · have r15fp : iv x14 1 1 := (iv_ne_lo c15 bx14 rfl).mono (by decide) (by decide)
          refine lv_iload_n hx hb dX11_listMembers_18 rfl (lv_at hl 2 rfl) ?_
          refine lv_aload_n hx hb dX11_listMembers_19 rfl (lv_at hl 1 rfl) ?_
          refine hp_alen (v := 10) hx hb hK hw.1 hp1 rfl rfl dX11_listMembers_20 ?_
          refine lv_icmp_ge (tgt := 31) hx hb dX11_listMembers_21 (by decide) (fun c21 => ?_) (fun c21 => ?_)
          · have r21tq : iv y4_l2 10 10 := (iv_le_r c21 (show iv 10 10 10 from ⟨by decide, by decide⟩) c4_y4_l2).mono (by decide) (by decide)
            exact J31 y4_l2 (r21tq.mono (by decide) (by decide)) r7fp H4 locs4 hw _ (lv_sub hl [0, 1, 2, 3] rfl)
          · have r21fp : iv y4_l2 0 9 := (iv_lt_l (iv_nle c21) c4_y4_l2 (show iv 10 10 10 from ⟨by decide, by decide⟩)).mono (by decide) (by decide)
            refine lv_aload_n hx hb dX11_listMembers_24 rfl (lv_at hl 1 rfl) ?_
            refine lv_iload_n hx hb dX11_listMembers_25 rfl (lv_at hl 2 rfl) ?_
            refine lv_iload_n hx hb dX11_listMembers_26 rfl (lv_at hl 3 rfl) ?_
            refine hp_iast hx hb hK hw hp1 (vp_iv r21fp (by decide)) ⟨_, rfl, r7fp⟩ dX11_listMembers_27 (fun H27 locs27 hw g27 => ?_)
            obtain ⟨x28, ex28⟩ : ∃ y : Int32, y = y4_l2 + 1 := ⟨_, rfl⟩
            have bx28 : iv x28 1 10 := iv_add r21fp (show iv 1 1 1 from ⟨by decide, by decide⟩) ex28 (by decide)
            have qx28 := iv_add_eq r21fp (show iv 1 1 1 from ⟨by decide, by decide⟩) ex28 (by decide)
            refine lv_iinc (v := x28) (lv' := [(2, .int x28), (0, .int xp0), (1, .ref ap1), (3, .int y4_l3)]) hx hb dX11_listMembers_28 hl (k := 2) rfl (by rw [ex28]; rfl) (by decide) rfl (fun ls hl => ?_)
            exact J31 x28 (bx28.mono (by decide) (by decide)) r7fp H27 locs27 hw _ (lv_sub hl [1, 2, 0, 3] rfl)
  exact J4 _ (0 : Int32) (0 : Int32) (Nat.lt_succ_self _) (show iv 0 0 10 from ⟨by decide, by decide⟩) (show iv 0 0 10 from ⟨by decide, by decide⟩) s.heap [] hw _ (lv_sub hl [2, 3, 1, 0] rfl)
abbrev WX3_worthBy (p : Program) (l : Launch) (e : Env) (s : State) (m : MethodId) (below : List Frame) (meth : Method) (c : Code) (D : hp_D) (T : hp_T) (ap0 : Nat) (ap1 : Nat) (ap2 : Nat) (H : Heap) (locs : List Loc) (g : JFrame) : Prop := W p l e (headSpec wsX3_worthBy ({ frames := 2, cells := 0, slots := 0, locals := 44 })).room s m ([.ref ap0, .ref ap1, .ref ap2] : List Value).toArray below meth c H locs 0 0 (MQ below (hq_e D T (fun v _ _ => ∃ r : Int32, v = some (.int r) ∧ True)) ([.ref ap0, .ref ap1, .ref ap2] : List Value).toArray s 0 0 (hp_F T)) g
set_option maxHeartbeats 4000000 in
set_option maxRecDepth 100000 in
theorem sX3_worthBy (l : Launch) (D : hp_D) (T : hp_T) (ap0 : Nat) (ap1 : Nat) (ap2 : Nat) (ip0 : isRule T ap0) (hp1 : T ap1 = some (.inl (3, 11, fun _ => rL))) (hp2 : T ap2 = some (.inl (3, 60, fun _ => rL))) : Met l yX3_worthBy wsX3_worthBy ({ frames := 2, cells := 0, slots := 0, locals := 44 }) (hp_Pc D T [.ref ap0, .ref ap1, .ref ap2] (fun _ => True)) (hq_e D T (fun v _ _ => ∃ r : Int32, v = some (.int r) ∧ True)) 0 0 (hp_F T) := by
  obtain ⟨ap0stp, np0stp, hp0, nbp0stp, hp0stp⟩ := id ip0
  refine Met.ofW (cc := cX3_worthBy) (maxL := 7) (ret := (some .int)) (by decide) rfl ?_
  intro p e s m args below meth c s₁ B hml hv
  obtain ⟨rfl, hok, hG, hB⟩ := hv
  have hx := B.exec
  have hb := B.bytes
  have hr := B.returns
  have hts := atoms_spec (ws := wsX3_worthBy) B.pre
  have hown : s.vm.findClass RX3 = some m.cls := findClass_of_methodNamed B.named
  have hlocks := B.notSynchronized
  have hK := hG.1
  have hw : hp_w D T s s.heap [] := hp_w.rf hok
  have IX3 : ∀ w ∈ wsX30, w ∈ wsX3_worthBy := by decide +kernel
  have L7 := hts (.fieldLink RX3 7 "PalmCensus$Rule" "steps" "[I") (by decide +kernel)
  have hl := lv_entry ([.ref ap0, .ref ap1, .ref ap2]) (n := 7) (Nat.le_of_ble_eq_true rfl)
  rw [lg_entry_eq]
  generalize (lg_sl ([.ref ap0, .ref ap1, .ref ap2]) ++ List.replicate (7 - (lg_sl ([.ref ap0, .ref ap1, .ref ap2])).length) Slot.unset).toArray = ls at hl ⊢
  have hl : lv_has ls 7 [(0, .ref ap0), (1, .ref ap1), (2, .ref ap2)] := hl
  show WX3_worthBy p l e s m below meth c D T ap0 ap1 ap2 s.heap [] (F0 m 0 ls [])
  refine lv_iconst (v := 0) hx hb dX3_worthBy_0 (by decide) ?_
  refine lv_istore_n (lv' := [(3, .int 0), (0, .ref ap0), (1, .ref ap1), (2, .ref ap2)]) hx hb dX3_worthBy_1 rfl hl (by decide) rfl (fun ls hl => ?_)
  refine lv_iconst (v := 0) hx hb dX3_worthBy_2 (by decide) ?_
  refine lv_istore (lv' := [(4, .int 0), (3, .int 0), (0, .ref ap0), (1, .ref ap1), (2, .ref ap2)]) hx hb dX3_worthBy_3 hl (by decide) rfl (fun ls hl => ?_)
  have J5 : ∀ (n : Nat) (y5_l3 y5_l4 : Int32), (400 - y5_l4.toInt).toNat < n → iv y5_l3 0 60 → iv y5_l4 0 400 → ∀ (H : Heap) (locs : List Loc), hp_w D T s H locs → ∀ (ls : Array Slot), lv_has ls 7 [(0, .ref ap0), (1, .ref ap1), (2, .ref ap2), (3, .int y5_l3), (4, .int y5_l4)] → WX3_worthBy p l e s m below meth c D T ap0 ap1 ap2 H locs (F0 m 5 ls []) := by
    intro n
    induction n with
    | zero => intro y5_l3 y5_l4 hmu5 c5_y5_l3 c5_y5_l4 H5 locs5 hw ls hl; exact absurd hmu5 (Nat.not_lt_zero _)
    | succ n ih5 =>
      intro y5_l3 y5_l4 hmu5 c5_y5_l3 c5_y5_l4 H5 locs5 hw ls hl
      refine lv_iload hx hb dX3_worthBy_5 (lv_at hl 4 rfl) ?_
      refine lv_aload_n hx hb dX3_worthBy_7 rfl (lv_at hl 0 rfl) ?_
      refine hp_getr hx hb hts IX3 hown hK hw.1 hp0 rfl 0 (by decide) L7 rfl dX3_worthBy_8 ?_
      obtain ⟨x11, ex11⟩ : ∃ y : Int32, Int32.ofNat np0stp = y := ⟨_, rfl⟩
      have bx11 : iv x11 0 400 := iv_eq (iv_nI (n := np0stp) (by have := nbp0stp; omega) (by omega) (by have := nbp0stp; omega)) ex11.symm
      refine hp_alen (v := x11) hx hb hK hw.1 hp0stp rfl ex11 dX3_worthBy_11 ?_
      refine lv_icmp_ge (tgt := 194) hx hb dX3_worthBy_12 (by decide) (fun c12 => ?_) (fun c12 => ?_)
      · refine lv_iconst (v := 0) hx hb dX3_worthBy_194 (by decide) ?_
        exact W.iret (v := 0) hx hb hr (fun t ht hW => ⟨some (.int 0), rfl, ⟨(0 : Int32), rfl, trivial⟩, by rw [ht]; exact hw.1, hw.2.F ht⟩) hw.2.2.2 dX3_worthBy_195
      · have r12fp : iv y5_l4 0 399 := (iv_lt_l (iv_nle c12) c5_y5_l4 bx11).mono (by decide) (by decide)
        have r12fq : iv x11 1 400 := (iv_lt_r (iv_nle c12) c5_y5_l4 bx11).mono (by decide) (by decide)
        refine lv_aload_n hx hb dX3_worthBy_15 rfl (lv_at hl 0 rfl) ?_
        refine hp_getr hx hb hts IX3 hown hK hw.1 hp0 rfl 0 (by decide) L7 rfl dX3_worthBy_16 ?_
        refine lv_iload hx hb dX3_worthBy_19 (lv_at hl 4 rfl) ?_
        refine hp_ialdA hx hb hK hw.1 hp0stp (vp_len ex11 (iv_nle c12) r12fp (by decide) nbp0stp) dX3_worthBy_21 (fun x21 => ?_)
        refine lv_istore (lv' := [(5, .int x21), (0, .ref ap0), (1, .ref ap1), (2, .ref ap2), (3, .int y5_l3), (4, .int y5_l4)]) hx hb dX3_worthBy_22 hl (by decide) rfl (fun ls hl => ?_)
        refine lv_iload hx hb dX3_worthBy_24 (lv_at hl 0 rfl) ?_
        refine lv_bipush (v := (-21)) hx hb dX3_worthBy_26 (by decide) ?_
        have J188 : ∀ (y188_l3 : Int32), iv y188_l3 0 60 → iv y5_l4 0 399 → ∀ (H : Heap) (locs : List Loc), hp_w D T s H locs → ∀ (ls : Array Slot), lv_has ls 7 [(0, .ref ap0), (1, .ref ap1), (2, .ref ap2), (3, .int y188_l3), (4, .int y5_l4)] → WX3_worthBy p l e s m below meth c D T ap0 ap1 ap2 H locs (F0 m 188 ls []) := by
          intro y188_l3 c188_y188_l3 c188_y5_l4 H188 locs188 hw ls hl
          obtain ⟨x188, ex188⟩ : ∃ y : Int32, y = y5_l4 + 1 := ⟨_, rfl⟩
          have bx188 : iv x188 1 400 := iv_add c188_y5_l4 (show iv 1 1 1 from ⟨by decide, by decide⟩) ex188 (by decide)
          have qx188 := iv_add_eq c188_y5_l4 (show iv 1 1 1 from ⟨by decide, by decide⟩) ex188 (by decide)
          refine lv_iinc (v := x188) (lv' := [(4, .int x188), (0, .ref ap0), (1, .ref ap1), (2, .ref ap2), (3, .int y188_l3)]) hx hb dX3_worthBy_188 hl (k := 4) rfl (by rw [ex188]; rfl) (by decide) rfl (fun ls hl => ?_)
          refine lv_goto (tgt := 5) hx hb dX3_worthBy_191 (by decide) ?_
          exact ih5 y188_l3 x188 (mu_up 1 hmu5 (qx188) (by decide) (show iv x188 0 400 from (bx188.mono (by decide) (by decide))).2) c188_y188_l3 (bx188.mono (by decide) (by decide)) H188 locs188 hw _ (lv_sub hl [1, 2, 3, 4, 0] rfl)
        refine lv_icmp_le (tgt := 76) hx hb dX3_worthBy_28 (by decide) (fun c28 => ?_) (fun c28 => ?_)
        · have r28tp : iv x21 (-2147483648) (-21) := (iv_le_l c28 (iv_any x21) (show iv (-21) (-21) (-21) from ⟨by decide, by decide⟩)).mono (by decide) (by decide)
          refine lv_iload_n hx hb dX3_worthBy_76 rfl (lv_at hl 4 rfl) ?_
          refine lv_iconst (v := 1) hx hb dX3_worthBy_77 (by decide) ?_
          have J100 : ∀ (H : Heap) (locs : List Loc), hp_w D T s H locs → ∀ (ls : Array Slot), lv_has ls 7 [] → WX3_worthBy p l e s m below meth c D T ap0 ap1 ap2 H locs (F0 m 100 ls []) := by
            intro H100 locs100 hw ls hl
            refine lv_iconst (v := 0) hx hb dX3_worthBy_100 (by decide) ?_
            exact W.iret (v := 0) hx hb hr (fun t ht hW => ⟨some (.int 0), rfl, ⟨(0 : Int32), rfl, trivial⟩, by rw [ht]; exact hw.1, hw.2.F ht⟩) hw.2.2.2 dX3_worthBy_101
          refine lv_icmp_lt (tgt := 100) hx hb dX3_worthBy_78 (by decide) (fun c78 => ?_) (fun c78 => ?_)
          · have r78tp : iv y5_l3 0 0 := (iv_lt_l c78 c5_y5_l3 (show iv 1 1 1 from ⟨by decide, by decide⟩)).mono (by decide) (by decide)
            exact J100 H5 locs5 hw _ (lv_sub hl [] rfl)
          · have r78fq : iv y5_l3 1 60 := (iv_le_r (iv_nlt c78) (show iv 1 1 1 from ⟨by decide, by decide⟩) c5_y5_l3).mono (by decide) (by decide)
            refine lv_iload hx hb dX3_worthBy_81 (lv_at hl 0 rfl) ?_
            refine lv_bipush (v := (-52)) hx hb dX3_worthBy_83 (by decide) ?_
            refine lv_icmp_eq (tgt := 102) hx hb dX3_worthBy_85 (by decide) (fun c85 => ?_) (fun c85 => ?_)
            · have r85tp : iv x21 (-52) (-52) := (iv_both r28tp (iv_eq (show iv (-52) (-52) (-52) from ⟨by decide, by decide⟩) c85)).mono (by decide) (by decide)
              refine lv_iload hx hb dX3_worthBy_102 (lv_at hl 0 rfl) ?_
              refine lv_bipush (v := (-52)) hx hb dX3_worthBy_104 (by decide) ?_
              refine lv_icmp_ne (tgt := 118) hx hb dX3_worthBy_106 (by decide) (fun c106 => ?_) (fun c106 => ?_)
              · exact iv_abs (iv_ne_lo c106 r85tp rfl) (by decide)
              · refine lv_aload_n hx hb dX3_worthBy_109 rfl (lv_at hl 3 rfl) ?_
                refine lv_iload_n hx hb dX3_worthBy_110 rfl (lv_at hl 4 rfl) ?_
                refine lv_iconst (v := 1) hx hb dX3_worthBy_111 (by decide) ?_
                refine lv_isub hx hb dX3_worthBy_112 ?_
                refine lv_topi (fun x112 ex112 => ?_)
                have bx112 : iv x112 0 59 := iv_sub r78fq (show iv 1 1 1 from ⟨by decide, by decide⟩) ex112 (by decide)
                have qx112 := iv_sub_eq r78fq (show iv 1 1 1 from ⟨by decide, by decide⟩) ex112 (by decide)
                refine hp_laldA hx hb hK hw.1 hp2 (vp_iv bx112 (by decide)) dX3_worthBy_113 (fun x113 => ?_)
                refine hp_callpi (va_runS (As := [.long x113]) (rest := []) ⟨hx, hb, hml, hown, hts⟩ (sX3_held l D T x113) (va_cwS 1 hts gX3_worthBy_X3_held rfl rfl rfl (by decide +kernel) ⟨Nat.le_of_ble_eq_true rfl, Nat.le_of_ble_eq_true rfl⟩) (hp_preS hG hw trivial) rfl rfl hl.1 rfl (lv_room (Nat.le_of_ble_eq_true rfl)) dX3_worthBy_114 ⟨Nat.zero_le _, Nat.zero_le _⟩) (fun x114 bx114 => ?_)
                exact W.iret (v := x114) hx hb hr (fun t ht hW => ⟨some (.int x114), rfl, ⟨x114, rfl, trivial⟩, by rw [ht]; exact hw.1, hw.2.F ht⟩) hw.2.2.2 dX3_worthBy_117
            · refine lv_iload hx hb dX3_worthBy_88 (lv_at hl 0 rfl) ?_
              refine lv_bipush (v := (-43)) hx hb dX3_worthBy_90 (by decide) ?_
              refine lv_icmp_eq (tgt := 102) hx hb dX3_worthBy_92 (by decide) (fun c92 => ?_) (fun c92 => ?_)
              · have r92tp : iv x21 (-43) (-43) := (iv_both r28tp (iv_eq (show iv (-43) (-43) (-43) from ⟨by decide, by decide⟩) c92)).mono (by decide) (by decide)
                refine lv_iload hx hb dX3_worthBy_102 (lv_at hl 0 rfl) ?_
                refine lv_bipush (v := (-52)) hx hb dX3_worthBy_104 (by decide) ?_
                refine lv_icmp_ne (tgt := 118) hx hb dX3_worthBy_106 (by decide) (fun c106 => ?_) (fun c106 => ?_)
                · refine lv_iload hx hb dX3_worthBy_118 (lv_at hl 0 rfl) ?_
                  refine lv_bipush (v := (-43)) hx hb dX3_worthBy_120 (by decide) ?_
                  refine lv_icmp_ne (tgt := 140) hx hb dX3_worthBy_122 (by decide) (fun c122 => ?_) (fun c122 => ?_)
                  · exact iv_abs (iv_ne_lo c122 r92tp rfl) (by decide)
                  · refine lv_aload_n hx hb dX3_worthBy_125 rfl (lv_at hl 3 rfl) ?_
                    refine lv_iload_n hx hb dX3_worthBy_126 rfl (lv_at hl 4 rfl) ?_
                    refine lv_iconst (v := 1) hx hb dX3_worthBy_127 (by decide) ?_
                    refine lv_isub hx hb dX3_worthBy_128 ?_
                    refine lv_topi (fun x128 ex128 => ?_)
                    have bx128 : iv x128 0 59 := iv_sub r78fq (show iv 1 1 1 from ⟨by decide, by decide⟩) ex128 (by decide)
                    have qx128 := iv_sub_eq r78fq (show iv 1 1 1 from ⟨by decide, by decide⟩) ex128 (by decide)
                    refine lv_lconst (v := 1) hx hb dX3_worthBy_129 (by decide) ?_
                    refine lv_aload_n hx hb dX3_worthBy_130 rfl (lv_at hl 3 rfl) ?_
                    refine lv_iload_n hx hb dX3_worthBy_131 rfl (lv_at hl 4 rfl) ?_
                    refine lv_iconst (v := 1) hx hb dX3_worthBy_132 (by decide) ?_
                    refine lv_isub hx hb dX3_worthBy_133 ?_
                    refine lv_topi (fun x133 ex133 => ?_)
                    have bx133 : iv x133 0 59 := iv_sub r78fq (show iv 1 1 1 from ⟨by decide, by decide⟩) ex133 (by decide)
                    have qx133 := iv_sub_eq r78fq (show iv 1 1 1 from ⟨by decide, by decide⟩) ex133 (by decide)
                    refine hp_laldA hx hb hK hw.1 hp2 (vp_iv bx133 (by decide)) dX3_worthBy_134 (fun x134 => ?_)
                    refine lv_lsub hx hb dX3_worthBy_135 ?_
                    refine lv_topl (fun x135 ex135 => ?_)
                    refine hp_lastA hx hb hK hw hp2 (vp_iv bx128 (by decide)) dX3_worthBy_136 (fun H136 locs136 hw g136 => ?_)
                    refine lv_goto (tgt := 188) hx hb dX3_worthBy_137 (by decide) ?_
                    exact J188 y5_l3 (r78fq.mono (by decide) (by decide)) r12fp H136 locs136 hw _ (lv_sub hl [1, 2, 3, 4, 5] rfl)
                · exact iv_abs2 c106 r92tp (show iv (-52) (-52) (-52) from ⟨by decide, by decide⟩) (by decide)
              · refine lv_iload_n hx hb dX3_worthBy_95 rfl (lv_at hl 4 rfl) ?_
                refine lv_iconst (v := 2) hx hb dX3_worthBy_96 (by decide) ?_
                refine lv_icmp_ge (tgt := 102) hx hb dX3_worthBy_97 (by decide) (fun c97 => ?_) (fun c97 => ?_)
                · have r97tq : iv y5_l3 2 60 := (iv_le_r c97 (show iv 2 2 2 from ⟨by decide, by decide⟩) r78fq).mono (by decide) (by decide)
                  refine lv_iload hx hb dX3_worthBy_102 (lv_at hl 0 rfl) ?_
                  refine lv_bipush (v := (-52)) hx hb dX3_worthBy_104 (by decide) ?_
                  refine lv_icmp_ne (tgt := 118) hx hb dX3_worthBy_106 (by decide) (fun c106 => ?_) (fun c106 => ?_)
                  · refine lv_iload hx hb dX3_worthBy_118 (lv_at hl 0 rfl) ?_
                    refine lv_bipush (v := (-43)) hx hb dX3_worthBy_120 (by decide) ?_
                    refine lv_icmp_ne (tgt := 140) hx hb dX3_worthBy_122 (by decide) (fun c122 => ?_) (fun c122 => ?_)
                    · refine lv_iload hx hb dX3_worthBy_140 (lv_at hl 0 rfl) ?_
                      refine lv_bipush (v := (-51)) hx hb dX3_worthBy_142 (by decide) ?_
                      refine lv_icmp_ne (tgt := 167) hx hb dX3_worthBy_144 (by decide) (fun c144 => ?_) (fun c144 => ?_)
                      · obtain ⟨x167, ex167⟩ : ∃ y : Int32, y = y5_l3 + (-1) := ⟨_, rfl⟩
                        have bx167 : iv x167 1 59 := iv_add r97tq (show iv (-1) (-1) (-1) from ⟨by decide, by decide⟩) ex167 (by decide)
                        have qx167 := iv_add_eq r97tq (show iv (-1) (-1) (-1) from ⟨by decide, by decide⟩) ex167 (by decide)
                        refine lv_iinc (v := x167) (lv' := [(3, .int x167), (5, .int x21), (0, .ref ap0), (1, .ref ap1), (2, .ref ap2), (4, .int y5_l4)]) hx hb dX3_worthBy_167 hl (k := 4) rfl (by rw [ex167]; rfl) (by decide) rfl (fun ls hl => ?_)
                        refine lv_aload_n hx hb dX3_worthBy_170 rfl (lv_at hl 4 rfl) ?_
                        refine lv_iload_n hx hb dX3_worthBy_171 rfl (lv_at hl 0 rfl) ?_
                        refine lv_iconst (v := 1) hx hb dX3_worthBy_172 (by decide) ?_
                        refine lv_isub hx hb dX3_worthBy_173 ?_
                        refine lv_topi (fun x173 ex173 => ?_)
                        have bx173 : iv x173 0 58 := iv_sub bx167 (show iv 1 1 1 from ⟨by decide, by decide⟩) ex173 (by decide)
                        have qx173 := iv_sub_eq bx167 (show iv 1 1 1 from ⟨by decide, by decide⟩) ex173 (by decide)
                        refine lv_iload hx hb dX3_worthBy_174 (lv_at hl 1 rfl) ?_
                        refine lv_aload_n hx hb dX3_worthBy_176 rfl (lv_at hl 4 rfl) ?_
                        refine lv_iload_n hx hb dX3_worthBy_177 rfl (lv_at hl 0 rfl) ?_
                        refine lv_iconst (v := 1) hx hb dX3_worthBy_178 (by decide) ?_
                        refine lv_isub hx hb dX3_worthBy_179 ?_
                        refine lv_topi (fun x179 ex179 => ?_)
                        have bx179 : iv x179 0 58 := iv_sub bx167 (show iv 1 1 1 from ⟨by decide, by decide⟩) ex179 (by decide)
                        have qx179 := iv_sub_eq bx167 (show iv 1 1 1 from ⟨by decide, by decide⟩) ex179 (by decide)
                        refine hp_laldA hx hb hK hw.1 hp2 (vp_iv bx179 (by decide)) dX3_worthBy_180 (fun x180 => ?_)
                        refine lv_aload_n hx hb dX3_worthBy_181 rfl (lv_at hl 4 rfl) ?_
                        refine lv_iload_n hx hb dX3_worthBy_182 rfl (lv_at hl 0 rfl) ?_
                        refine hp_laldA hx hb hK hw.1 hp2 (vp_iv bx167 (by decide)) dX3_worthBy_183 (fun x183 => ?_)
                        refine hp_callpl (va_runS (As := [.int x21, .long x180, .long x183]) (rest := [.int x173, .ref ap2]) ⟨hx, hb, hml, hown, hts⟩ (sX3_joined l D T x21 x180 x183) (va_cwS 3 hts gX3_worthBy_X3_joined rfl rfl rfl (by decide +kernel) ⟨Nat.le_of_ble_eq_true rfl, Nat.le_of_ble_eq_true rfl⟩) (hp_preS hG hw trivial) rfl rfl hl.1 rfl (lv_room (Nat.le_of_ble_eq_true rfl)) dX3_worthBy_184 ⟨Nat.zero_le _, Nat.zero_le _⟩) (fun x184 bx184 => ?_)
                        refine hp_lastA hx hb hK hw hp2 (vp_iv bx173 (by decide)) dX3_worthBy_187 (fun H187 locs187 hw g187 => ?_)
                        exact J188 x167 (bx167.mono (by decide) (by decide)) r12fp H187 locs187 hw _ (lv_sub hl [2, 3, 4, 0, 5] rfl)
                      · have r144fp : iv x21 (-51) (-51) := (iv_both r28tp (iv_eq (show iv (-51) (-51) (-51) from ⟨by decide, by decide⟩) c144)).mono (by decide) (by decide)
                        obtain ⟨x147, ex147⟩ : ∃ y : Int32, y = y5_l3 + (-2) := ⟨_, rfl⟩
                        have bx147 : iv x147 0 58 := iv_add r97tq (show iv (-2) (-2) (-2) from ⟨by decide, by decide⟩) ex147 (by decide)
                        have qx147 := iv_add_eq r97tq (show iv (-2) (-2) (-2) from ⟨by decide, by decide⟩) ex147 (by decide)
                        refine lv_iinc (v := x147) (lv' := [(3, .int x147), (5, .int x21), (0, .ref ap0), (1, .ref ap1), (2, .ref ap2), (4, .int y5_l4)]) hx hb dX3_worthBy_147 hl (k := 4) rfl (by rw [ex147]; rfl) (by decide) rfl (fun ls hl => ?_)
                        refine lv_aload_n hx hb dX3_worthBy_150 rfl (lv_at hl 4 rfl) ?_
                        refine lv_iload_n hx hb dX3_worthBy_151 rfl (lv_at hl 0 rfl) ?_
                        refine lv_iconst (v := 1) hx hb dX3_worthBy_152 (by decide) ?_
                        refine lv_iadd hx hb dX3_worthBy_153 ?_
                        refine lv_topi (fun x153 ex153 => ?_)
                        have bx153 : iv x153 1 59 := iv_add bx147 (show iv 1 1 1 from ⟨by decide, by decide⟩) ex153 (by decide)
                        have qx153 := iv_add_eq bx147 (show iv 1 1 1 from ⟨by decide, by decide⟩) ex153 (by decide)
                        refine hp_laldA hx hb hK hw.1 hp2 (vp_iv bx153 (by decide)) dX3_worthBy_154 (fun x154 => ?_)
                        refine lv_lconst (v := 0) hx hb dX3_worthBy_155 (by decide) ?_
                        refine W.lcmp hx hb dX3_worthBy_156 ?_
                        refine lv_topi (fun x156 ex156 => ?_)
                        have bx156 : iv x156 (-1) 1 := iv_lcmp ex156
                        refine lv_if_eq (tgt := 188) hx hb dX3_worthBy_157 (by decide) (fun c157 => ?_) (fun c157 => ?_)
                        · have r157tp : iv x156 0 0 := (iv_both bx156 (iv_eq (show iv 0 0 0 from ⟨by decide, by decide⟩) c157)).mono (by decide) (by decide)
                          exact J188 x147 (bx147.mono (by decide) (by decide)) r12fp H5 locs5 hw _ (lv_sub hl [2, 3, 4, 0, 5] rfl)
                        · refine lv_aload_n hx hb dX3_worthBy_160 rfl (lv_at hl 4 rfl) ?_
                          refine lv_iload_n hx hb dX3_worthBy_161 rfl (lv_at hl 0 rfl) ?_
                          refine hp_laldA hx hb hK hw.1 hp2 (vp_iv bx147 (by decide)) dX3_worthBy_162 (fun x162 => ?_)
                          refine hp_callpi (va_runS (As := [.long x162]) (rest := []) ⟨hx, hb, hml, hown, hts⟩ (sX3_held l D T x162) (va_cwS 1 hts gX3_worthBy_X3_held rfl rfl rfl (by decide +kernel) ⟨Nat.le_of_ble_eq_true rfl, Nat.le_of_ble_eq_true rfl⟩) (hp_preS hG hw trivial) rfl rfl hl.1 rfl (lv_room (Nat.le_of_ble_eq_true rfl)) dX3_worthBy_163 ⟨Nat.zero_le _, Nat.zero_le _⟩) (fun x163 bx163 => ?_)
                          exact W.iret (v := x163) hx hb hr (fun t ht hW => ⟨some (.int x163), rfl, ⟨x163, rfl, trivial⟩, by rw [ht]; exact hw.1, hw.2.F ht⟩) hw.2.2.2 dX3_worthBy_166
                    · have r122fp : iv x21 (-43) (-43) := (iv_both r28tp (iv_eq (show iv (-43) (-43) (-43) from ⟨by decide, by decide⟩) c122)).mono (by decide) (by decide)
                      refine lv_aload_n hx hb dX3_worthBy_125 rfl (lv_at hl 3 rfl) ?_
                      refine lv_iload_n hx hb dX3_worthBy_126 rfl (lv_at hl 4 rfl) ?_
                      refine lv_iconst (v := 1) hx hb dX3_worthBy_127 (by decide) ?_
                      refine lv_isub hx hb dX3_worthBy_128 ?_
                      refine lv_topi (fun x128 ex128 => ?_)
                      have bx128 : iv x128 1 59 := iv_sub r97tq (show iv 1 1 1 from ⟨by decide, by decide⟩) ex128 (by decide)
                      have qx128 := iv_sub_eq r97tq (show iv 1 1 1 from ⟨by decide, by decide⟩) ex128 (by decide)
                      refine lv_lconst (v := 1) hx hb dX3_worthBy_129 (by decide) ?_
                      refine lv_aload_n hx hb dX3_worthBy_130 rfl (lv_at hl 3 rfl) ?_
                      refine lv_iload_n hx hb dX3_worthBy_131 rfl (lv_at hl 4 rfl) ?_
                      refine lv_iconst (v := 1) hx hb dX3_worthBy_132 (by decide) ?_
                      refine lv_isub hx hb dX3_worthBy_133 ?_
                      refine lv_topi (fun x133 ex133 => ?_)
                      have bx133 : iv x133 1 59 := iv_sub r97tq (show iv 1 1 1 from ⟨by decide, by decide⟩) ex133 (by decide)
                      have qx133 := iv_sub_eq r97tq (show iv 1 1 1 from ⟨by decide, by decide⟩) ex133 (by decide)
                      refine hp_laldA hx hb hK hw.1 hp2 (vp_iv bx133 (by decide)) dX3_worthBy_134 (fun x134 => ?_)
                      refine lv_lsub hx hb dX3_worthBy_135 ?_
                      refine lv_topl (fun x135 ex135 => ?_)
                      refine hp_lastA hx hb hK hw hp2 (vp_iv bx128 (by decide)) dX3_worthBy_136 (fun H136 locs136 hw g136 => ?_)
                      refine lv_goto (tgt := 188) hx hb dX3_worthBy_137 (by decide) ?_
                      exact J188 y5_l3 (r97tq.mono (by decide) (by decide)) r12fp H136 locs136 hw _ (lv_sub hl [1, 2, 3, 4, 5] rfl)
                  · have r106fp : iv x21 (-52) (-52) := (iv_both r28tp (iv_eq (show iv (-52) (-52) (-52) from ⟨by decide, by decide⟩) c106)).mono (by decide) (by decide)
                    refine lv_aload_n hx hb dX3_worthBy_109 rfl (lv_at hl 3 rfl) ?_
                    refine lv_iload_n hx hb dX3_worthBy_110 rfl (lv_at hl 4 rfl) ?_
                    refine lv_iconst (v := 1) hx hb dX3_worthBy_111 (by decide) ?_
                    refine lv_isub hx hb dX3_worthBy_112 ?_
                    refine lv_topi (fun x112 ex112 => ?_)
                    have bx112 : iv x112 1 59 := iv_sub r97tq (show iv 1 1 1 from ⟨by decide, by decide⟩) ex112 (by decide)
                    have qx112 := iv_sub_eq r97tq (show iv 1 1 1 from ⟨by decide, by decide⟩) ex112 (by decide)
                    refine hp_laldA hx hb hK hw.1 hp2 (vp_iv bx112 (by decide)) dX3_worthBy_113 (fun x113 => ?_)
                    refine hp_callpi (va_runS (As := [.long x113]) (rest := []) ⟨hx, hb, hml, hown, hts⟩ (sX3_held l D T x113) (va_cwS 1 hts gX3_worthBy_X3_held rfl rfl rfl (by decide +kernel) ⟨Nat.le_of_ble_eq_true rfl, Nat.le_of_ble_eq_true rfl⟩) (hp_preS hG hw trivial) rfl rfl hl.1 rfl (lv_room (Nat.le_of_ble_eq_true rfl)) dX3_worthBy_114 ⟨Nat.zero_le _, Nat.zero_le _⟩) (fun x114 bx114 => ?_)
                    exact W.iret (v := x114) hx hb hr (fun t ht hW => ⟨some (.int x114), rfl, ⟨x114, rfl, trivial⟩, by rw [ht]; exact hw.1, hw.2.F ht⟩) hw.2.2.2 dX3_worthBy_117
                · have r97fp : iv y5_l3 1 1 := (iv_lt_l (iv_nle c97) r78fq (show iv 2 2 2 from ⟨by decide, by decide⟩)).mono (by decide) (by decide)
                  exact J100 H5 locs5 hw _ (lv_sub hl [] rfl)
        · have r28fq : iv x21 (-20) 2147483647 := (iv_lt_r (iv_nle c28) (show iv (-21) (-21) (-21) from ⟨by decide, by decide⟩) (iv_any x21)).mono (by decide) (by decide)
          refine lv_iconst (v := (-1)) hx hb dX3_worthBy_31 (by decide) ?_
          refine lv_iload hx hb dX3_worthBy_32 (lv_at hl 0 rfl) ?_
          refine lv_isub hx hb dX3_worthBy_34 ?_
          refine lv_topi (fun x34 ex34 => ?_)
          have bx34 : iv x34 (-2147483648) 19 := iv_sub (show iv (-1) (-1) (-1) from ⟨by decide, by decide⟩) r28fq ex34 (by decide)
          have qx34 := iv_sub_eq (show iv (-1) (-1) (-1) from ⟨by decide, by decide⟩) r28fq ex34 (by decide)
          refine lv_istore (lv' := [(6, .int x34), (5, .int x21), (0, .ref ap0), (1, .ref ap1), (2, .ref ap2), (3, .int y5_l3), (4, .int y5_l4)]) hx hb dX3_worthBy_35 hl (by decide) rfl (fun ls hl => ?_)
          refine lv_iload_n hx hb dX3_worthBy_37 rfl (lv_at hl 5 rfl) ?_
          refine lv_aload_n hx hb dX3_worthBy_38 rfl (lv_at hl 4 rfl) ?_
          refine hp_alen (v := 60) hx hb hK hw.1 hp2 rfl rfl dX3_worthBy_39 ?_
          have J50 : ∀ (H : Heap) (locs : List Loc), hp_w D T s H locs → ∀ (ls : Array Slot), lv_has ls 7 [] → WX3_worthBy p l e s m below meth c D T ap0 ap1 ap2 H locs (F0 m 50 ls []) := by
            intro H50 locs50 hw ls hl
            refine lv_iconst (v := 0) hx hb dX3_worthBy_50 (by decide) ?_
            exact W.iret (v := 0) hx hb hr (fun t ht hW => ⟨some (.int 0), rfl, ⟨(0 : Int32), rfl, trivial⟩, by rw [ht]; exact hw.1, hw.2.F ht⟩) hw.2.2.2 dX3_worthBy_51
          refine lv_icmp_ge (tgt := 50) hx hb dX3_worthBy_40 (by decide) (fun c40 => ?_) (fun c40 => ?_)
          · have r40tq : iv y5_l3 60 60 := (iv_le_r c40 (show iv 60 60 60 from ⟨by decide, by decide⟩) c5_y5_l3).mono (by decide) (by decide)
            exact J50 H5 locs5 hw _ (lv_sub hl [] rfl)
          · have r40fp : iv y5_l3 0 59 := (iv_lt_l (iv_nle c40) c5_y5_l3 (show iv 60 60 60 from ⟨by decide, by decide⟩)).mono (by decide) (by decide)
            refine lv_iload hx hb dX3_worthBy_43 (lv_at hl 0 rfl) ?_
            refine lv_aload_n hx hb dX3_worthBy_45 rfl (lv_at hl 3 rfl) ?_
            refine hp_alen (v := 11) hx hb hK hw.1 hp1 rfl rfl dX3_worthBy_46 ?_
            refine lv_icmp_lt (tgt := 52) hx hb dX3_worthBy_47 (by decide) (fun c47 => ?_) (fun c47 => ?_)
            · have r47tp : iv x34 (-2147483648) 10 := (iv_lt_l c47 bx34 (show iv 11 11 11 from ⟨by decide, by decide⟩)).mono (by decide) (by decide)
              refine lv_aload_n hx hb dX3_worthBy_52 rfl (lv_at hl 4 rfl) ?_
              refine lv_iload_n hx hb dX3_worthBy_53 rfl (lv_at hl 5 rfl) ?_
              refine lv_iload hx hb dX3_worthBy_54 (lv_at hl 0 rfl) ?_
              have J69 : ∀ (y69_s2 : Int64), iv y5_l3 0 59 → iv y5_l4 0 399 → ∀ (H : Heap) (locs : List Loc), hp_w D T s H locs → ∀ (ls : Array Slot), lv_has ls 7 [(0, .ref ap0), (1, .ref ap1), (2, .ref ap2), (3, .int y5_l3), (4, .int y5_l4)] → WX3_worthBy p l e s m below meth c D T ap0 ap1 ap2 H locs (F0 m 69 ls [.long y69_s2, .int y5_l3, .ref ap2]) := by
                intro y69_s2 c69_y5_l3 c69_y5_l4 H69 locs69 hw ls hl
                refine hp_lastA hx hb hK hw hp2 (vp_iv c69_y5_l3 (by decide)) dX3_worthBy_69 (fun H69 locs69 hw g69 => ?_)
                obtain ⟨x70, ex70⟩ : ∃ y : Int32, y = y5_l3 + 1 := ⟨_, rfl⟩
                have bx70 : iv x70 1 60 := iv_add c69_y5_l3 (show iv 1 1 1 from ⟨by decide, by decide⟩) ex70 (by decide)
                have qx70 := iv_add_eq c69_y5_l3 (show iv 1 1 1 from ⟨by decide, by decide⟩) ex70 (by decide)
                refine lv_iinc (v := x70) (lv' := [(3, .int x70), (0, .ref ap0), (1, .ref ap1), (2, .ref ap2), (4, .int y5_l4)]) hx hb dX3_worthBy_70 hl (k := 3) rfl (by rw [ex70]; rfl) (by decide) rfl (fun ls hl => ?_)
                refine lv_goto (tgt := 188) hx hb dX3_worthBy_73 (by decide) ?_
                exact J188 x70 (bx70.mono (by decide) (by decide)) c69_y5_l4 H69 locs69 hw _ (lv_sub hl [1, 2, 3, 0, 4] rfl)
              refine lv_if_ge (tgt := 65) hx hb dX3_worthBy_56 (by decide) (fun c56 => ?_) (fun c56 => ?_)
              · have r56tq : iv x34 0 10 := (iv_le_r c56 (show iv 0 0 0 from ⟨by decide, by decide⟩) r47tp).mono (by decide) (by decide)
                refine lv_aload_n hx hb dX3_worthBy_65 rfl (lv_at hl 3 rfl) ?_
                refine lv_iload hx hb dX3_worthBy_66 (lv_at hl 0 rfl) ?_
                refine hp_laldA hx hb hK hw.1 hp1 (vp_iv r56tq (by decide)) dX3_worthBy_68 (fun x68 => ?_)
                exact J69 x68 r40fp r12fp H5 locs5 hw _ (lv_sub hl [2, 3, 4, 5, 6] rfl)
              · have r56fp : iv x34 (-2147483648) (-1) := (iv_lt_l (iv_nle c56) r47tp (show iv 0 0 0 from ⟨by decide, by decide⟩)).mono (by decide) (by decide)
                refine lv_iload hx hb dX3_worthBy_59 (lv_at hl 1 rfl) ?_
                obtain ⟨x61, ex61⟩ : ∃ y : Int64, x21.toInt64 = y := ⟨_, rfl⟩
                refine lv_i2l (v := x61) hx hb dX3_worthBy_61 ex61 ?_
                refine lv_goto (tgt := 69) hx hb dX3_worthBy_62 (by decide) ?_
                exact J69 x61 r40fp r12fp H5 locs5 hw _ (lv_sub hl [2, 3, 4, 5, 6] rfl)
            · have r47fq : iv x34 11 19 := (iv_le_r (iv_nlt c47) (show iv 11 11 11 from ⟨by decide, by decide⟩) bx34).mono (by decide) (by decide)
              exact J50 H5 locs5 hw _ (lv_sub hl [] rfl)
  exact J5 _ (0 : Int32) (0 : Int32) (Nat.lt_succ_self _) (show iv 0 0 60 from ⟨by decide, by decide⟩) (show iv 0 0 400 from ⟨by decide, by decide⟩) s.heap [] hw _ (lv_sub hl [2, 3, 4, 1, 0] rfl)
abbrev WX5_mindsCrowd (p : Program) (l : Launch) (e : Env) (s : State) (m : MethodId) (below : List Frame) (meth : Method) (c : Code) (D : hp_D) (T : hp_T) (ap0 : Nat) (H : Heap) (locs : List Loc) (g : JFrame) : Prop := W p l e (headSpec wsX5_mindsCrowd ({ frames := 0, cells := 0, slots := 0, locals := 0 })).room s m ([.ref ap0] : List Value).toArray below meth c H locs 0 0 (MQ below (hq_p (fun v => ∃ r : Int32, v = some (.int r) ∧ iv r 0 1)) ([.ref ap0] : List Value).toArray s 0 0 (fun _ => False)) g
set_option maxHeartbeats 4000000 in
set_option maxRecDepth 100000 in
theorem sX5_mindsCrowd (l : Launch) (D : hp_D) (T : hp_T) (ap0 : Nat) (Ru : Nat → Prop) (hRu : ∀ b, Ru b → isRule T b) (ip0 : isShaker T Ru ap0) : Met l yX5_mindsCrowd wsX5_mindsCrowd ({ frames := 0, cells := 0, slots := 0, locals := 0 }) (hp_Pc D T [.ref ap0] (fun _ => True)) (hq_p (fun v => ∃ r : Int32, v = some (.int r) ∧ iv r 0 1)) 0 0 (fun _ => False) := by
  obtain ⟨ap0wd, ap0sk, ap0th, hp0, hp0wd, hp0sk, hp0th⟩ := id ip0
  refine Met.ofW (cc := cX5_mindsCrowd) (maxL := 1) (ret := (some .boolean)) (by decide) rfl ?_
  intro p e s m args below meth c s₁ B hml hv
  obtain ⟨rfl, hok, hG, hB⟩ := hv
  have hx := B.exec
  have hb := B.bytes
  have hr := B.returns
  have hts := atoms_spec (ws := wsX5_mindsCrowd) B.pre
  have hown : s.vm.findClass RX5 = some m.cls := findClass_of_methodNamed B.named
  have hlocks := B.notSynchronized
  have hK := hG.1
  have hw : hp_w D T s s.heap [] := hp_w.rf hok
  have IX3 : ∀ w ∈ wsX30, w ∈ wsX5_mindsCrowd := by decide +kernel
  have IX5 : ∀ w ∈ wsX50, w ∈ wsX5_mindsCrowd := by decide +kernel
  have L9 := hts (.fieldLink RX5 9 "PalmCensus$Shaker" "rule" "LPalmCensus$Rule;") (by decide +kernel)
  have L28 := hts (.fieldLink RX5 28 "PalmCensus$Rule" "mindsCrowd" "Z") (by decide +kernel)
  have hl := lv_entry ([.ref ap0]) (n := 1) (Nat.le_of_ble_eq_true rfl)
  rw [lg_entry_eq]
  generalize (lg_sl ([.ref ap0]) ++ List.replicate (1 - (lg_sl ([.ref ap0])).length) Slot.unset).toArray = ls at hl ⊢
  have hl : lv_has ls 1 [(0, .ref ap0)] := hl
  show WX5_mindsCrowd p l e s m below meth c D T ap0 s.heap [] (F0 m 0 ls [])
  refine lv_aload_n hx hb dX5_mindsCrowd_0 rfl (lv_at hl 0 rfl) ?_
  refine hp_get hx hb hts IX5 hown hK hw.1 hp0 rfl 0 (by decide) L9 rfl dX5_mindsCrowd_1 (fun v1 h1 fx1 => ?_)
  rcases h1 with rfl | ⟨ad1, rfl, jd1⟩
  · have J22 : ∀ (y22_s0 : Int32), iv y22_s0 0 1 → ∀ (ls : Array Slot), lv_has ls 1 [] → WX5_mindsCrowd p l e s m below meth c D T ap0 s.heap [] (F0 m 22 ls [.int y22_s0]) := by
      intro y22_s0 c22_y22_s0 ls hl
      exact W.zret (v := y22_s0) hx hb hr (iv_nz c22_y22_s0) (fun t ht hW => ⟨some (.int y22_s0), rfl, ⟨y22_s0, rfl, c22_y22_s0⟩, ht⟩) (fun q h => by cases h) dX5_mindsCrowd_22
    have J21 : ∀ (ls : Array Slot), lv_has ls 1 [] → WX5_mindsCrowd p l e s m below meth c D T ap0 s.heap [] (F0 m 21 ls []) := by
      intro ls hl
      refine lv_iconst (v := 0) hx hb dX5_mindsCrowd_21 (by decide) ?_
      exact J22 (0 : Int32) (show iv 0 0 1 from ⟨by decide, by decide⟩) _ (lv_sub hl [] rfl)
    refine lv_ifnullN (tgt := 21) hx hb dX5_mindsCrowd_4 (by decide) ?_
    exact J21 _ (lv_sub hl [] rfl)
  · have id1 := hRu ad1 jd1
    obtain ⟨ad1stp, nd1stp, hd1, nbd1stp, hd1stp⟩ := id id1
    have J22 : ∀ (y22_s0 : Int32), iv y22_s0 0 1 → ∀ (ls : Array Slot), lv_has ls 1 [] → WX5_mindsCrowd p l e s m below meth c D T ap0 s.heap [] (F0 m 22 ls [.int y22_s0]) := by
      intro y22_s0 c22_y22_s0 ls hl
      exact W.zret (v := y22_s0) hx hb hr (iv_nz c22_y22_s0) (fun t ht hW => ⟨some (.int y22_s0), rfl, ⟨y22_s0, rfl, c22_y22_s0⟩, ht⟩) (fun q h => by cases h) dX5_mindsCrowd_22
    have J21 : ∀ (ls : Array Slot), lv_has ls 1 [] → WX5_mindsCrowd p l e s m below meth c D T ap0 s.heap [] (F0 m 21 ls []) := by
      intro ls hl
      refine lv_iconst (v := 0) hx hb dX5_mindsCrowd_21 (by decide) ?_
      exact J22 (0 : Int32) (show iv 0 0 1 from ⟨by decide, by decide⟩) _ (lv_sub hl [] rfl)
    refine lv_ifnull hx hb dX5_mindsCrowd_4 ?_
    refine lv_aload_n hx hb dX5_mindsCrowd_7 rfl (lv_at hl 0 rfl) ?_
    refine hp_getf hx hb hts IX5 hown hK fx1 rfl (by decide) L9 dX5_mindsCrowd_8 ?_
    refine hp_geti hx hb hts IX3 hown hK hw.1 hd1 rfl 1 (by decide) L28 rfl dX5_mindsCrowd_11 (fun x11 bx11 fx11 => ?_)
    refine lv_if_eq (tgt := 21) hx hb dX5_mindsCrowd_14 (by decide) (fun c14 => ?_) (fun c14 => ?_)
    · have r14tp : iv x11 0 0 := (iv_both bx11 (iv_eq (show iv 0 0 0 from ⟨by decide, by decide⟩) c14)).mono (by decide) (by decide)
      exact J21 _ (lv_sub hl [] rfl)
    · have r14fp : iv x11 1 1 := (iv_ne_lo c14 bx11 rfl).mono (by decide) (by decide)
      refine lv_iconst (v := 1) hx hb dX5_mindsCrowd_17 (by decide) ?_
      refine lv_goto (tgt := 22) hx hb dX5_mindsCrowd_18 (by decide) ?_
      exact J22 (1 : Int32) (show iv 1 0 1 from ⟨by decide, by decide⟩) _ (lv_sub hl [] rfl)
abbrev WX5_worthOf (p : Program) (l : Launch) (e : Env) (s : State) (m : MethodId) (below : List Frame) (meth : Method) (c : Code) (D : hp_D) (T : hp_T) (ap0 : Nat) (ap1 : Nat) (xp2 : Int32) (xp3 : Int32) (xp4 : Int32) (xp5 : Int32) (H : Heap) (locs : List Loc) (g : JFrame) : Prop := W p l e (headSpec wsX5_worthOf ({ frames := 3, cells := 0, slots := 0, locals := 70 })).room s m ([.ref ap0, .ref ap1, .int xp2, .int xp3, .int xp4, .int xp5] : List Value).toArray below meth c H locs 0 0 (MQ below (hq_e D T (fun v _ _ => ∃ r : Int32, v = some (.int r) ∧ True)) ([.ref ap0, .ref ap1, .int xp2, .int xp3, .int xp4, .int xp5] : List Value).toArray s 0 0 (hp_F T)) g
set_option maxHeartbeats 4000000 in
set_option maxRecDepth 100000 in
theorem sX5_worthOf (l : Launch) (D : hp_D) (T : hp_T) (ap0 : Nat) (ap1 : Nat) (xp2 : Int32) (xp3 : Int32) (xp4 : Int32) (xp5 : Int32) (Ru : Nat → Prop) (hRu : ∀ b, Ru b → isRule T b) (ip0 : isShaker T Ru ap0) (ip1 : isTown T ap1) : Met l yX5_worthOf wsX5_worthOf ({ frames := 3, cells := 0, slots := 0, locals := 70 }) (hp_Pc D T [.ref ap0, .ref ap1, .int xp2, .int xp3, .int xp4, .int xp5] (fun _ => True)) (hq_e D T (fun v _ _ => ∃ r : Int32, v = some (.int r) ∧ True)) 0 0 (hp_F T) := by
  obtain ⟨ap0wd, ap0sk, ap0th, hp0, hp0wd, hp0sk, hp0th⟩ := id ip0
  obtain ⟨ap1kin, ap1pl, ap1cr, hp1, hp1kin, hp1pl, hp1cr⟩ := id ip1
  refine Met.ofW (cc := cX5_worthOf) (maxL := 9) (ret := (some .int)) (by decide) rfl ?_
  intro p e s m args below meth c s₁ B hml hv
  obtain ⟨rfl, hok, hG, hB⟩ := hv
  have hx := B.exec
  have hb := B.bytes
  have hr := B.returns
  have hts := atoms_spec (ws := wsX5_worthOf) B.pre
  have hown : s.vm.findClass RX5 = some m.cls := findClass_of_methodNamed B.named
  have hlocks := B.notSynchronized
  have hK := hG.1
  have hw : hp_w D T s s.heap [] := hp_w.rf hok
  have IX5 : ∀ w ∈ wsX50, w ∈ wsX5_worthOf := by decide +kernel
  have IX8 : ∀ w ∈ wsX80, w ∈ wsX5_worthOf := by decide +kernel
  have L9 := hts (.fieldLink RX5 9 "PalmCensus$Shaker" "rule" "LPalmCensus$Rule;") (by decide +kernel)
  have L17 := hts (.fieldLink RX5 17 "PalmCensus$Shaker" "words" "[J") (by decide +kernel)
  have L50 := hts (.fieldLink RX5 50 "PalmCensus$Town" "day" "I") (by decide +kernel)
  have L54 := hts (.fieldLink RX5 54 "PalmCensus$Town" "left" "I") (by decide +kernel)
  have L62 := hts (.fieldLink RX5 62 "PalmCensus$Town" "gloved" "I") (by decide +kernel)
  have L65 := hts (.fieldLink RX5 65 "PalmCensus$Town" "children" "I") (by decide +kernel)
  have L21 := hts (.fieldLink RX5 21 "PalmCensus$Shaker" "stack" "[J") (by decide +kernel)
  have hl := lv_entry ([.ref ap0, .ref ap1, .int xp2, .int xp3, .int xp4, .int xp5]) (n := 9) (Nat.le_of_ble_eq_true rfl)
  rw [lg_entry_eq]
  generalize (lg_sl ([.ref ap0, .ref ap1, .int xp2, .int xp3, .int xp4, .int xp5]) ++ List.replicate (9 - (lg_sl ([.ref ap0, .ref ap1, .int xp2, .int xp3, .int xp4, .int xp5])).length) Slot.unset).toArray = ls at hl ⊢
  have hl : lv_has ls 9 [(0, .ref ap0), (1, .ref ap1), (2, .int xp2), (3, .int xp3), (4, .int xp4), (5, .int xp5)] := hl
  show WX5_worthOf p l e s m below meth c D T ap0 ap1 xp2 xp3 xp4 xp5 s.heap [] (F0 m 0 ls [])
  refine lv_aload_n hx hb dX5_worthOf_0 rfl (lv_at hl 1 rfl) ?_
  refine lv_iload_n hx hb dX5_worthOf_1 rfl (lv_at hl 2 rfl) ?_
  refine lv_iload_n hx hb dX5_worthOf_2 rfl (lv_at hl 3 rfl) ?_
  refine lv_iload hx hb dX5_worthOf_3 (lv_at hl 4 rfl) ?_
  refine hp_callpi (va_runV (As := [.int xp2, .int xp3, .int xp4]) (rest := []) ⟨hx, hb, hml, hown, hts⟩ (sX8_metAhead l D T ap1 xp2 xp3 xp4 ip1) (cwV 3 hts gX5_worthOf_X8_metAhead rfl rfl rfl (by decide +kernel) ⟨Nat.le_of_ble_eq_true rfl, Nat.le_of_ble_eq_true rfl⟩) (hp_preV hG hw hp1 rfl trivial) rfl rfl hl.1 rfl (lv_room (Nat.le_of_ble_eq_true rfl)) dX5_worthOf_5 ⟨Nat.zero_le _, Nat.zero_le _⟩) (fun x5 bx5 => ?_)
  refine lv_istore (lv' := [(6, .int x5), (0, .ref ap0), (1, .ref ap1), (2, .int xp2), (3, .int xp3), (4, .int xp4), (5, .int xp5)]) hx hb dX5_worthOf_8 hl (by decide) rfl (fun ls hl => ?_)
  refine lv_aload_n hx hb dX5_worthOf_10 rfl (lv_at hl 2 rfl) ?_
  refine lv_iload_n hx hb dX5_worthOf_11 rfl (lv_at hl 3 rfl) ?_
  refine lv_iload_n hx hb dX5_worthOf_12 rfl (lv_at hl 4 rfl) ?_
  refine hp_callpi (va_runV (As := [.int xp2, .int xp3]) (rest := []) ⟨hx, hb, hml, hown, hts⟩ (sX8_areKin l D T ap1 xp2 xp3 ip1) (cwV 2 hts gX5_worthOf_X8_areKin rfl rfl rfl (by decide +kernel) ⟨Nat.le_of_ble_eq_true rfl, Nat.le_of_ble_eq_true rfl⟩) (hp_preV hG hw hp1 rfl trivial) rfl rfl hl.1 rfl (lv_room (Nat.le_of_ble_eq_true rfl)) dX5_worthOf_13 ⟨Nat.zero_le _, Nat.zero_le _⟩) (fun x13 bx13 => ?_)
  have J24 : ∀ (y24_s0 : Int32), iv y24_s0 0 1 → ∀ (H : Heap) (locs : List Loc), hp_w D T s H locs → ∀ (ls : Array Slot), lv_has ls 9 [(0, .ref ap0), (1, .ref ap1), (2, .int xp2), (3, .int xp3), (4, .int xp4), (5, .int xp5), (6, .int x5)] → WX5_worthOf p l e s m below meth c D T ap0 ap1 xp2 xp3 xp4 xp5 H locs (F0 m 24 ls [.int y24_s0]) := by
    intro y24_s0 c24_y24_s0 H24 locs24 hw ls hl
    refine lv_istore (lv' := [(7, .int y24_s0), (0, .ref ap0), (1, .ref ap1), (2, .int xp2), (3, .int xp3), (4, .int xp4), (5, .int xp5), (6, .int x5)]) hx hb dX5_worthOf_24 hl (by decide) rfl (fun ls hl => ?_)
    refine lv_aload_n hx hb dX5_worthOf_26 rfl (lv_at hl 1 rfl) ?_
    refine hp_get hx hb hts IX5 hown hK hw.1 hp0 rfl 0 (by decide) L9 rfl dX5_worthOf_27 (fun v27 h27 fx27 => ?_)
    rcases h27 with rfl | ⟨ad27, rfl, jd27⟩
    · refine lv_ifnonnullN hx hb dX5_worthOf_30 ?_
      refine lv_iload hx hb dX5_worthOf_33 (lv_at hl 7 rfl) ?_
      have J58 : ∀ (y58_s0 : Int32), ∀ (H : Heap) (locs : List Loc), hp_w D T s H locs → ∀ (ls : Array Slot), lv_has ls 9 [] → WX5_worthOf p l e s m below meth c D T ap0 ap1 xp2 xp3 xp4 xp5 H locs (F0 m 58 ls [.int y58_s0]) := by
        intro y58_s0 H58 locs58 hw ls hl
        exact W.iret (v := y58_s0) hx hb hr (fun t ht hW => ⟨some (.int y58_s0), rfl, ⟨y58_s0, rfl, trivial⟩, by rw [ht]; exact hw.1, hw.2.F ht⟩) hw.2.2.2 dX5_worthOf_58
      refine lv_if_le (tgt := 42) hx hb dX5_worthOf_35 (by decide) (fun c35 => ?_) (fun c35 => ?_)
      · have r35tp : iv x5 (-2147483648) 0 := (iv_le_l c35 (iv_any x5) (show iv 0 0 0 from ⟨by decide, by decide⟩)).mono (by decide) (by decide)
        refine lv_aload_n hx hb dX5_worthOf_42 rfl (lv_at hl 2 rfl) ?_
        refine lv_iload_n hx hb dX5_worthOf_43 rfl (lv_at hl 3 rfl) ?_
        refine hp_callpi (va_runV (As := [.int xp2]) (rest := []) ⟨hx, hb, hml, hown, hts⟩ (sX8_giftOf l D T ap1 xp2 ip1) (cwV 1 hts gX5_worthOf_X8_giftOf rfl rfl rfl (by decide +kernel) ⟨Nat.le_of_ble_eq_true rfl, Nat.le_of_ble_eq_true rfl⟩) (hp_preV hG hw hp1 rfl trivial) rfl rfl hl.1 rfl (lv_room (Nat.le_of_ble_eq_true rfl)) dX5_worthOf_44 ⟨Nat.zero_le _, Nat.zero_le _⟩) (fun x44 bx44 => ?_)
        refine lv_aload_n hx hb dX5_worthOf_47 rfl (lv_at hl 2 rfl) ?_
        refine lv_iload_n hx hb dX5_worthOf_48 rfl (lv_at hl 4 rfl) ?_
        refine hp_callpi (va_runV (As := [.int xp3]) (rest := [.int x44]) ⟨hx, hb, hml, hown, hts⟩ (sX8_giftOf l D T ap1 xp3 ip1) (cwV 1 hts gX5_worthOf_X8_giftOf rfl rfl rfl (by decide +kernel) ⟨Nat.le_of_ble_eq_true rfl, Nat.le_of_ble_eq_true rfl⟩) (hp_preV hG hw hp1 rfl trivial) rfl rfl hl.1 rfl (lv_room (Nat.le_of_ble_eq_true rfl)) dX5_worthOf_49 ⟨Nat.zero_le _, Nat.zero_le _⟩) (fun x49 bx49 => ?_)
        refine lv_iadd hx hb dX5_worthOf_52 ?_
        refine lv_topi (fun x52 ex52 => ?_)
        refine lv_iconst (v := 1) hx hb dX5_worthOf_53 (by decide) ?_
        refine lv_iload hx hb dX5_worthOf_54 (lv_at hl 0 rfl) ?_
        refine lv_iadd hx hb dX5_worthOf_56 ?_
        refine lv_topi (fun x56 ex56 => ?_)
        have bx56 : iv x56 1 2 := iv_add (show iv 1 1 1 from ⟨by decide, by decide⟩) c24_y24_s0 ex56 (by decide)
        have qx56 := iv_add_eq (show iv 1 1 1 from ⟨by decide, by decide⟩) c24_y24_s0 ex56 (by decide)
        refine lv_imul hx hb dX5_worthOf_57 ?_
        refine lv_topi (fun x57 ex57 => ?_)
        exact J58 x57 H24 locs24 hw _ (lv_sub hl [] rfl)
      · have r35fq : iv x5 1 2147483647 := (iv_lt_r (iv_nle c35) (show iv 0 0 0 from ⟨by decide, by decide⟩) (iv_any x5)).mono (by decide) (by decide)
        refine lv_iconst (v := 0) hx hb dX5_worthOf_38 (by decide) ?_
        refine lv_goto (tgt := 58) hx hb dX5_worthOf_39 (by decide) ?_
        exact J58 (0 : Int32) H24 locs24 hw _ (lv_sub hl [] rfl)
    · have id27 := hRu ad27 jd27
      obtain ⟨ad27stp, nd27stp, hd27, nbd27stp, hd27stp⟩ := id id27
      refine lv_ifnonnull (tgt := 59) hx hb dX5_worthOf_30 (by decide) ?_
      refine lv_iconst (v := 1) hx hb dX5_worthOf_59 (by decide) ?_
      refine lv_iload_n hx hb dX5_worthOf_60 rfl (lv_at hl 3 rfl) ?_
      refine lv_ishl hx hb dX5_worthOf_61 ?_
      refine lv_topi (fun x61 ex61 => ?_)
      refine lv_iconst (v := 1) hx hb dX5_worthOf_62 (by decide) ?_
      refine lv_iload_n hx hb dX5_worthOf_63 rfl (lv_at hl 4 rfl) ?_
      refine lv_ishl hx hb dX5_worthOf_64 ?_
      refine lv_topi (fun x64 ex64 => ?_)
      refine lv_ior hx hb dX5_worthOf_65 ?_
      refine lv_topi (fun x65 ex65 => ?_)
      refine lv_istore (lv' := [(8, .int x65), (7, .int y24_s0), (0, .ref ap0), (1, .ref ap1), (2, .int xp2), (3, .int xp3), (4, .int xp4), (5, .int xp5), (6, .int x5)]) hx hb dX5_worthOf_66 hl (by decide) rfl (fun ls hl => ?_)
      refine lv_aload_n hx hb dX5_worthOf_68 rfl (lv_at hl 2 rfl) ?_
      refine hp_getr hx hb hts IX5 hown hK hw.1 hp0 rfl 1 (by decide) L17 rfl dX5_worthOf_69 ?_
      refine lv_iconst (v := 0) hx hb dX5_worthOf_72 (by decide) ?_
      refine lv_iload_n hx hb dX5_worthOf_73 rfl (lv_at hl 4 rfl) ?_
      obtain ⟨x74, ex74⟩ : ∃ y : Int64, xp2.toInt64 = y := ⟨_, rfl⟩
      refine lv_i2l (v := x74) hx hb dX5_worthOf_74 ex74 ?_
      refine hp_lastA hx hb hK hw hp0wd (vp_iv (show iv 0 0 0 from ⟨by decide, by decide⟩) (by decide)) dX5_worthOf_75 (fun H75 locs75 hw g75 => ?_)
      have f_p0_0 := g75 _ _ _ _ fx27
      refine lv_aload_n hx hb dX5_worthOf_76 rfl (lv_at hl 2 rfl) ?_
      refine hp_getr hx hb hts IX5 hown hK hw.1 hp0 rfl 1 (by decide) L17 rfl dX5_worthOf_77 ?_
      refine lv_iconst (v := 1) hx hb dX5_worthOf_80 (by decide) ?_
      refine lv_iload_n hx hb dX5_worthOf_81 rfl (lv_at hl 5 rfl) ?_
      obtain ⟨x82, ex82⟩ : ∃ y : Int64, xp3.toInt64 = y := ⟨_, rfl⟩
      refine lv_i2l (v := x82) hx hb dX5_worthOf_82 ex82 ?_
      refine hp_lastA hx hb hK hw hp0wd (vp_iv (show iv 1 1 1 from ⟨by decide, by decide⟩) (by decide)) dX5_worthOf_83 (fun H83 locs83 hw g83 => ?_)
      have f_p0_0 := g83 _ _ _ _ f_p0_0
      refine lv_aload_n hx hb dX5_worthOf_84 rfl (lv_at hl 2 rfl) ?_
      refine hp_getr hx hb hts IX5 hown hK hw.1 hp0 rfl 1 (by decide) L17 rfl dX5_worthOf_85 ?_
      refine lv_iconst (v := 2) hx hb dX5_worthOf_88 (by decide) ?_
      refine lv_aload_n hx hb dX5_worthOf_89 rfl (lv_at hl 3 rfl) ?_
      refine lv_iload_n hx hb dX5_worthOf_90 rfl (lv_at hl 4 rfl) ?_
      refine lv_iload hx hb dX5_worthOf_91 (lv_at hl 6 rfl) ?_
      refine hp_callpi (va_runV (As := [.int xp2, .int xp4]) (rest := [.int 2, .ref ap0wd]) ⟨hx, hb, hml, hown, hts⟩ (sX8_placeOf l D T ap1 xp2 xp4 ip1) (cwV 2 hts gX5_worthOf_X8_placeOf rfl rfl rfl (by decide +kernel) ⟨Nat.le_of_ble_eq_true rfl, Nat.le_of_ble_eq_true rfl⟩) (hp_preV hG hw hp1 rfl trivial) rfl rfl hl.1 rfl (lv_room (Nat.le_of_ble_eq_true rfl)) dX5_worthOf_93 ⟨Nat.zero_le _, Nat.zero_le _⟩) (fun x93 bx93 => ?_)
      obtain ⟨x96, ex96⟩ : ∃ y : Int64, x93.toInt64 = y := ⟨_, rfl⟩
      refine lv_i2l (v := x96) hx hb dX5_worthOf_96 ex96 ?_
      refine hp_lastA hx hb hK hw hp0wd (vp_iv (show iv 2 2 2 from ⟨by decide, by decide⟩) (by decide)) dX5_worthOf_97 (fun H97 locs97 hw g97 => ?_)
      have f_p0_0 := g97 _ _ _ _ f_p0_0
      refine lv_aload_n hx hb dX5_worthOf_98 rfl (lv_at hl 2 rfl) ?_
      refine hp_getr hx hb hts IX5 hown hK hw.1 hp0 rfl 1 (by decide) L17 rfl dX5_worthOf_99 ?_
      refine lv_iconst (v := 3) hx hb dX5_worthOf_102 (by decide) ?_
      refine lv_iload hx hb dX5_worthOf_103 (lv_at hl 6 rfl) ?_
      obtain ⟨x105, ex105⟩ : ∃ y : Int64, xp4.toInt64 = y := ⟨_, rfl⟩
      refine lv_i2l (v := x105) hx hb dX5_worthOf_105 ex105 ?_
      refine hp_lastA hx hb hK hw hp0wd (vp_iv (show iv 3 3 3 from ⟨by decide, by decide⟩) (by decide)) dX5_worthOf_106 (fun H106 locs106 hw g106 => ?_)
      have f_p0_0 := g106 _ _ _ _ f_p0_0
      refine lv_aload_n hx hb dX5_worthOf_107 rfl (lv_at hl 2 rfl) ?_
      refine hp_getr hx hb hts IX5 hown hK hw.1 hp0 rfl 1 (by decide) L17 rfl dX5_worthOf_108 ?_
      refine lv_iconst (v := 4) hx hb dX5_worthOf_111 (by decide) ?_
      refine lv_aload_n hx hb dX5_worthOf_112 rfl (lv_at hl 3 rfl) ?_
      refine hp_getA hx hb hts IX8 hown hK hw.1 hp1 rfl 3 (by decide) L50 rfl dX5_worthOf_113 (fun x113 fx113 => ?_)
      obtain ⟨x116, ex116⟩ : ∃ y : Int64, x113.toInt64 = y := ⟨_, rfl⟩
      refine lv_i2l (v := x116) hx hb dX5_worthOf_116 ex116 ?_
      refine hp_lastA hx hb hK hw hp0wd (vp_iv (show iv 4 4 4 from ⟨by decide, by decide⟩) (by decide)) dX5_worthOf_117 (fun H117 locs117 hw g117 => ?_)
      have f_p0_0 := g117 _ _ _ _ f_p0_0
      refine lv_aload_n hx hb dX5_worthOf_118 rfl (lv_at hl 2 rfl) ?_
      refine hp_getr hx hb hts IX5 hown hK hw.1 hp0 rfl 1 (by decide) L17 rfl dX5_worthOf_119 ?_
      refine lv_iconst (v := 5) hx hb dX5_worthOf_122 (by decide) ?_
      refine lv_iload hx hb dX5_worthOf_123 (lv_at hl 8 rfl) ?_
      obtain ⟨x125, ex125⟩ : ∃ y : Int64, x5.toInt64 = y := ⟨_, rfl⟩
      refine lv_i2l (v := x125) hx hb dX5_worthOf_125 ex125 ?_
      refine hp_lastA hx hb hK hw hp0wd (vp_iv (show iv 5 5 5 from ⟨by decide, by decide⟩) (by decide)) dX5_worthOf_126 (fun H126 locs126 hw g126 => ?_)
      have f_p0_0 := g126 _ _ _ _ f_p0_0
      refine lv_aload_n hx hb dX5_worthOf_127 rfl (lv_at hl 2 rfl) ?_
      refine hp_getr hx hb hts IX5 hown hK hw.1 hp0 rfl 1 (by decide) L17 rfl dX5_worthOf_128 ?_
      refine lv_bipush (v := 6) hx hb dX5_worthOf_131 (by decide) ?_
      refine lv_iload hx hb dX5_worthOf_133 (lv_at hl 1 rfl) ?_
      obtain ⟨x135, ex135⟩ : ∃ y : Int64, y24_s0.toInt64 = y := ⟨_, rfl⟩
      refine lv_i2l (v := x135) hx hb dX5_worthOf_135 ex135 ?_
      refine hp_lastA hx hb hK hw hp0wd (vp_iv (show iv 6 6 6 from ⟨by decide, by decide⟩) (by decide)) dX5_worthOf_136 (fun H136 locs136 hw g136 => ?_)
      have f_p0_0 := g136 _ _ _ _ f_p0_0
      refine lv_aload_n hx hb dX5_worthOf_137 rfl (lv_at hl 2 rfl) ?_
      refine hp_getr hx hb hts IX5 hown hK hw.1 hp0 rfl 1 (by decide) L17 rfl dX5_worthOf_138 ?_
      refine lv_bipush (v := 7) hx hb dX5_worthOf_141 (by decide) ?_
      refine lv_aload_n hx hb dX5_worthOf_143 rfl (lv_at hl 3 rfl) ?_
      refine hp_getA hx hb hts IX8 hown hK hw.1 hp1 rfl 4 (by decide) L54 rfl dX5_worthOf_144 (fun x144 fx144 => ?_)
      refine lv_iload hx hb dX5_worthOf_147 (lv_at hl 0 rfl) ?_
      refine lv_iand hx hb dX5_worthOf_149 ?_
      refine lv_topi (fun x149 ex149 => ?_)
      refine hp_callpi (va_runS (As := [.int x149]) (rest := [.int 7, .ref ap0wd]) ⟨hx, hb, hml, hown, hts⟩ (sJ6_bitCount_0f7a4 l D T x149) (va_cwS 1 hts gX5_worthOf_J6_bitCount_0f7a4 rfl rfl rfl (by decide +kernel) ⟨Nat.le_of_ble_eq_true rfl, Nat.le_of_ble_eq_true rfl⟩) (hp_preS hG hw trivial) rfl rfl hl.1 rfl (lv_room (Nat.le_of_ble_eq_true rfl)) dX5_worthOf_150 ⟨Nat.zero_le _, Nat.zero_le _⟩) (fun x150 bx150 => ?_)
      obtain ⟨x153, ex153⟩ : ∃ y : Int64, x150.toInt64 = y := ⟨_, rfl⟩
      refine lv_i2l (v := x153) hx hb dX5_worthOf_153 ex153 ?_
      refine hp_lastA hx hb hK hw hp0wd (vp_iv (show iv 7 7 7 from ⟨by decide, by decide⟩) (by decide)) dX5_worthOf_154 (fun H154 locs154 hw g154 => ?_)
      have f_p0_0 := g154 _ _ _ _ f_p0_0
      refine lv_aload_n hx hb dX5_worthOf_155 rfl (lv_at hl 2 rfl) ?_
      refine hp_getr hx hb hts IX5 hown hK hw.1 hp0 rfl 1 (by decide) L17 rfl dX5_worthOf_156 ?_
      refine lv_bipush (v := 8) hx hb dX5_worthOf_159 (by decide) ?_
      refine lv_aload_n hx hb dX5_worthOf_161 rfl (lv_at hl 3 rfl) ?_
      refine hp_getA hx hb hts IX8 hown hK hw.1 hp1 rfl 5 (by decide) L62 rfl dX5_worthOf_162 (fun x162 fx162 => ?_)
      refine lv_iload hx hb dX5_worthOf_165 (lv_at hl 0 rfl) ?_
      refine lv_iand hx hb dX5_worthOf_167 ?_
      refine lv_topi (fun x167 ex167 => ?_)
      refine hp_callpi (va_runS (As := [.int x167]) (rest := [.int 8, .ref ap0wd]) ⟨hx, hb, hml, hown, hts⟩ (sJ6_bitCount_0f7a4 l D T x167) (va_cwS 1 hts gX5_worthOf_J6_bitCount_0f7a4 rfl rfl rfl (by decide +kernel) ⟨Nat.le_of_ble_eq_true rfl, Nat.le_of_ble_eq_true rfl⟩) (hp_preS hG hw trivial) rfl rfl hl.1 rfl (lv_room (Nat.le_of_ble_eq_true rfl)) dX5_worthOf_168 ⟨Nat.zero_le _, Nat.zero_le _⟩) (fun x168 bx168 => ?_)
      obtain ⟨x171, ex171⟩ : ∃ y : Int64, x168.toInt64 = y := ⟨_, rfl⟩
      refine lv_i2l (v := x171) hx hb dX5_worthOf_171 ex171 ?_
      refine hp_lastA hx hb hK hw hp0wd (vp_iv (show iv 8 8 8 from ⟨by decide, by decide⟩) (by decide)) dX5_worthOf_172 (fun H172 locs172 hw g172 => ?_)
      have f_p0_0 := g172 _ _ _ _ f_p0_0
      refine lv_aload_n hx hb dX5_worthOf_173 rfl (lv_at hl 2 rfl) ?_
      refine hp_getr hx hb hts IX5 hown hK hw.1 hp0 rfl 1 (by decide) L17 rfl dX5_worthOf_174 ?_
      refine lv_bipush (v := 9) hx hb dX5_worthOf_177 (by decide) ?_
      refine lv_aload_n hx hb dX5_worthOf_179 rfl (lv_at hl 3 rfl) ?_
      refine hp_getA hx hb hts IX8 hown hK hw.1 hp1 rfl 6 (by decide) L65 rfl dX5_worthOf_180 (fun x180 fx180 => ?_)
      refine lv_iload hx hb dX5_worthOf_183 (lv_at hl 0 rfl) ?_
      refine lv_iand hx hb dX5_worthOf_185 ?_
      refine lv_topi (fun x185 ex185 => ?_)
      refine hp_callpi (va_runS (As := [.int x185]) (rest := [.int 9, .ref ap0wd]) ⟨hx, hb, hml, hown, hts⟩ (sJ6_bitCount_0f7a4 l D T x185) (va_cwS 1 hts gX5_worthOf_J6_bitCount_0f7a4 rfl rfl rfl (by decide +kernel) ⟨Nat.le_of_ble_eq_true rfl, Nat.le_of_ble_eq_true rfl⟩) (hp_preS hG hw trivial) rfl rfl hl.1 rfl (lv_room (Nat.le_of_ble_eq_true rfl)) dX5_worthOf_186 ⟨Nat.zero_le _, Nat.zero_le _⟩) (fun x186 bx186 => ?_)
      obtain ⟨x189, ex189⟩ : ∃ y : Int64, x186.toInt64 = y := ⟨_, rfl⟩
      refine lv_i2l (v := x189) hx hb dX5_worthOf_189 ex189 ?_
      refine hp_lastA hx hb hK hw hp0wd (vp_iv (show iv 9 9 9 from ⟨by decide, by decide⟩) (by decide)) dX5_worthOf_190 (fun H190 locs190 hw g190 => ?_)
      have f_p0_0 := g190 _ _ _ _ f_p0_0
      refine lv_aload_n hx hb dX5_worthOf_191 rfl (lv_at hl 2 rfl) ?_
      refine hp_getr hx hb hts IX5 hown hK hw.1 hp0 rfl 1 (by decide) L17 rfl dX5_worthOf_192 ?_
      refine lv_bipush (v := 10) hx hb dX5_worthOf_195 (by decide) ?_
      refine lv_iload hx hb dX5_worthOf_197 (lv_at hl 7 rfl) ?_
      obtain ⟨x199, ex199⟩ : ∃ y : Int64, xp5.toInt64 = y := ⟨_, rfl⟩
      refine lv_i2l (v := x199) hx hb dX5_worthOf_199 ex199 ?_
      refine hp_lastA hx hb hK hw hp0wd (vp_iv (show iv 10 10 10 from ⟨by decide, by decide⟩) (by decide)) dX5_worthOf_200 (fun H200 locs200 hw g200 => ?_)
      have f_p0_0 := g200 _ _ _ _ f_p0_0
      refine lv_aload_n hx hb dX5_worthOf_201 rfl (lv_at hl 2 rfl) ?_
      refine hp_getf hx hb hts IX5 hown hK f_p0_0 rfl (by decide) L9 dX5_worthOf_202 ?_
      refine lv_aload_n hx hb dX5_worthOf_205 rfl (lv_at hl 2 rfl) ?_
      refine hp_getr hx hb hts IX5 hown hK hw.1 hp0 rfl 1 (by decide) L17 rfl dX5_worthOf_206 ?_
      refine lv_aload_n hx hb dX5_worthOf_209 rfl (lv_at hl 2 rfl) ?_
      refine hp_getr hx hb hts IX5 hown hK hw.1 hp0 rfl 2 (by decide) L21 rfl dX5_worthOf_210 ?_
      refine hp_callei (va_runV (As := [.ref ap0wd, .ref ap0sk]) (rest := []) ⟨hx, hb, hml, hown, hts⟩ (sX3_worthBy l D T ad27 ap0wd ap0sk id27 hp0wd hp0sk) (cwV 2 hts gX5_worthOf_X3_worthBy rfl rfl rfl (by decide +kernel) ⟨Nat.le_of_ble_eq_true rfl, Nat.le_of_ble_eq_true rfl⟩) (hp_preV hG hw hd27 rfl trivial) rfl rfl hl.1 rfl (lv_room (Nat.le_of_ble_eq_true rfl)) dX5_worthOf_213 ⟨Nat.zero_le _, Nat.zero_le _⟩) hw (fun x213 st213 t213 H213 locs213 eh213 eg213 bx213 hw => ?_)
      exact W.iret (v := x213) hx hb hr (fun t ht hW => ⟨some (.int x213), rfl, ⟨x213, rfl, trivial⟩, by rw [ht]; exact hw.1, hw.2.F ht⟩) hw.2.2.2 dX5_worthOf_216
  refine lv_if_eq (tgt := 23) hx hb dX5_worthOf_16 (by decide) (fun c16 => ?_) (fun c16 => ?_)
  · have r16tp : iv x13 0 0 := (iv_both bx13 (iv_eq (show iv 0 0 0 from ⟨by decide, by decide⟩) c16)).mono (by decide) (by decide)
    refine lv_iconst (v := 0) hx hb dX5_worthOf_23 (by decide) ?_
    exact J24 (0 : Int32) (show iv 0 0 1 from ⟨by decide, by decide⟩) s.heap [] hw _ (lv_sub hl [1, 2, 3, 4, 5, 6, 0] rfl)
  · have r16fp : iv x13 1 1 := (iv_ne_lo c16 bx13 rfl).mono (by decide) (by decide)
    refine lv_iconst (v := 1) hx hb dX5_worthOf_19 (by decide) ?_
    refine lv_goto (tgt := 24) hx hb dX5_worthOf_20 (by decide) ?_
    exact J24 (1 : Int32) (show iv 1 0 1 from ⟨by decide, by decide⟩) s.heap [] hw _ (lv_sub hl [1, 2, 3, 4, 5, 6, 0] rfl)
abbrev WX5_sumOf (p : Program) (l : Launch) (e : Env) (s : State) (m : MethodId) (below : List Frame) (meth : Method) (c : Code) (D : hp_D) (T : hp_T) (ap0 : Nat) (ap1 : Nat) (xp2 : Int32) (xp3 : Int32) (H : Heap) (locs : List Loc) (g : JFrame) : Prop := W p l e (headSpec wsX5_sumOf ({ frames := 4, cells := 0, slots := 0, locals := 98 })).room s m ([.ref ap0, .ref ap1, .int xp2, .int xp3] : List Value).toArray below meth c H locs 0 0 (MQ below (hq_e D T (fun v _ _ => ∃ r : Int32, v = some (.int r) ∧ True)) ([.ref ap0, .ref ap1, .int xp2, .int xp3] : List Value).toArray s 0 0 (hp_F T)) g
set_option maxHeartbeats 4000000 in
set_option maxRecDepth 100000 in
theorem sX5_sumOf (l : Launch) (D : hp_D) (T : hp_T) (ap0 : Nat) (ap1 : Nat) (xp2 : Int32) (xp3 : Int32) (Ru : Nat → Prop) (hRu : ∀ b, Ru b → isRule T b) (ip0 : isShaker T Ru ap0) (ip1 : isTown T ap1) : Met l yX5_sumOf wsX5_sumOf ({ frames := 4, cells := 0, slots := 0, locals := 98 }) (hp_Pc D T [.ref ap0, .ref ap1, .int xp2, .int xp3] (fun _ => True)) (hq_e D T (fun v _ _ => ∃ r : Int32, v = some (.int r) ∧ True)) 0 0 (hp_F T) := by
  obtain ⟨ap0wd, ap0sk, ap0th, hp0, hp0wd, hp0sk, hp0th⟩ := id ip0
  obtain ⟨ap1kin, ap1pl, ap1cr, hp1, hp1kin, hp1pl, hp1cr⟩ := id ip1
  refine Met.ofW (cc := cX5_sumOf) (maxL := 8) (ret := (some .int)) (by decide) rfl ?_
  intro p e s m args below meth c s₁ B hml hv
  obtain ⟨rfl, hok, hG, hB⟩ := hv
  have hx := B.exec
  have hb := B.bytes
  have hr := B.returns
  have hts := atoms_spec (ws := wsX5_sumOf) B.pre
  have hown : s.vm.findClass RX5 = some m.cls := findClass_of_methodNamed B.named
  have hlocks := B.notSynchronized
  have hK := hG.1
  have hw : hp_w D T s s.heap [] := hp_w.rf hok
  have IX5 : ∀ w ∈ wsX50, w ∈ wsX5_sumOf := by decide +kernel
  have L24 := hts (.fieldLink RX5 24 "PalmCensus$Shaker" "there" "[I") (by decide +kernel)
  have INX11 := hts (.initialized RX11) (by decide +kernel)
  have STX11_listMembers := hts (.static yX11_listMembers) (by decide +kernel)
  have hl := lv_entry ([.ref ap0, .ref ap1, .int xp2, .int xp3]) (n := 8) (Nat.le_of_ble_eq_true rfl)
  rw [lg_entry_eq]
  generalize (lg_sl ([.ref ap0, .ref ap1, .int xp2, .int xp3]) ++ List.replicate (8 - (lg_sl ([.ref ap0, .ref ap1, .int xp2, .int xp3])).length) Slot.unset).toArray = ls at hl ⊢
  have hl : lv_has ls 8 [(0, .ref ap0), (1, .ref ap1), (2, .int xp2), (3, .int xp3)] := hl
  show WX5_sumOf p l e s m below meth c D T ap0 ap1 xp2 xp3 s.heap [] (F0 m 0 ls [])
  refine lv_aload_n hx hb dX5_sumOf_0 rfl (lv_at hl 1 rfl) ?_
  refine lv_iload_n hx hb dX5_sumOf_1 rfl (lv_at hl 2 rfl) ?_
  refine lv_iload_n hx hb dX5_sumOf_2 rfl (lv_at hl 3 rfl) ?_
  refine hp_callpi (va_runV (As := [.int xp2, .int xp3]) (rest := []) ⟨hx, hb, hml, hown, hts⟩ (sX8_those l D T ap1 xp2 xp3 ip1) (cwV 2 hts gX5_sumOf_X8_those rfl rfl rfl (by decide +kernel) ⟨Nat.le_of_ble_eq_true rfl, Nat.le_of_ble_eq_true rfl⟩) (hp_preV hG hw hp1 rfl trivial) rfl rfl hl.1 rfl (lv_room (Nat.le_of_ble_eq_true rfl)) dX5_sumOf_3 ⟨Nat.zero_le _, Nat.zero_le _⟩) (fun x3 bx3 => ?_)
  refine lv_aload_n hx hb dX5_sumOf_6 rfl (lv_at hl 0 rfl) ?_
  refine hp_getr hx hb hts IX5 hown hK hw.1 hp0 rfl 3 (by decide) L24 rfl dX5_sumOf_7 ?_
  refine hp_callei (va_runSN (As := [.int x3, .ref ap0th]) (rest := []) ⟨hx, hb, hml, hown, hts⟩ (sX11_listMembers l D T x3 ap0th hp0th) ⟨va_cnB 2 hts gX5_sumOf_X11_listMembers_n75 rfl rfl rfl hG.2.1.1 INX11 (by decide +kernel) ⟨Nat.le_of_ble_eq_true rfl, Nat.le_of_ble_eq_true rfl⟩, STX11_listMembers, trivial⟩ (hp_preS hG hw trivial) rfl rfl hl.1 rfl (lv_room (Nat.le_of_ble_eq_true rfl)) dX5_sumOf_10 ⟨Nat.zero_le _, Nat.zero_le _⟩) hw (fun x10 st10 t10 H10 locs10 eh10 eg10 bx10 hw => ?_)
  refine lv_istore (lv' := [(4, .int x10), (0, .ref ap0), (1, .ref ap1), (2, .int xp2), (3, .int xp3)]) hx hb dX5_sumOf_13 hl (by decide) rfl (fun ls hl => ?_)
  refine lv_iconst (v := 0) hx hb dX5_sumOf_15 (by decide) ?_
  refine lv_istore (lv' := [(5, .int 0), (4, .int x10), (0, .ref ap0), (1, .ref ap1), (2, .int xp2), (3, .int xp3)]) hx hb dX5_sumOf_16 hl (by decide) rfl (fun ls hl => ?_)
  refine lv_iconst (v := 0) hx hb dX5_sumOf_18 (by decide) ?_
  refine lv_istore (lv' := [(6, .int 0), (5, .int 0), (4, .int x10), (0, .ref ap0), (1, .ref ap1), (2, .int xp2), (3, .int xp3)]) hx hb dX5_sumOf_19 hl (by decide) rfl (fun ls hl => ?_)
  have J21 : ∀ (n : Nat) (y21_l5 y21_l6 : Int32), (10 - y21_l6.toInt).toNat < n → iv x10 0 10 → iv y21_l6 0 10 → ∀ (H : Heap) (locs : List Loc), hp_w D T s H locs → ∀ (ls : Array Slot), lv_has ls 8 [(0, .ref ap0), (1, .ref ap1), (3, .int xp3), (4, .int x10), (5, .int y21_l5), (6, .int y21_l6)] → WX5_sumOf p l e s m below meth c D T ap0 ap1 xp2 xp3 H locs (F0 m 21 ls []) := by
    intro n
    induction n with
    | zero => intro y21_l5 y21_l6 hmu21 c21_x10 c21_y21_l6 H21 locs21 hw ls hl; exact absurd hmu21 (Nat.not_lt_zero _)
    | succ n ih21 =>
      intro y21_l5 y21_l6 hmu21 c21_x10 c21_y21_l6 H21 locs21 hw ls hl
      refine lv_iload hx hb dX5_sumOf_21 (lv_at hl 5 rfl) ?_
      refine lv_iload hx hb dX5_sumOf_23 (lv_at hl 3 rfl) ?_
      refine lv_icmp_ge (tgt := 80) hx hb dX5_sumOf_25 (by decide) (fun c25 => ?_) (fun c25 => ?_)
      · refine lv_iload hx hb dX5_sumOf_80 (lv_at hl 4 rfl) ?_
        exact W.iret (v := y21_l5) hx hb hr (fun t ht hW => ⟨some (.int y21_l5), rfl, ⟨y21_l5, rfl, trivial⟩, by rw [ht]; exact hw.1, hw.2.F ht⟩) hw.2.2.2 dX5_sumOf_82
      · have r25fp : iv y21_l6 0 9 := (iv_lt_l (iv_nle c25) c21_y21_l6 c21_x10).mono (by decide) (by decide)
        have r25fq : iv x10 1 10 := (iv_lt_r (iv_nle c25) c21_y21_l6 c21_x10).mono (by decide) (by decide)
        refine lv_iload hx hb dX5_sumOf_28 (lv_at hl 5 rfl) ?_
        refine lv_iconst (v := 1) hx hb dX5_sumOf_30 (by decide) ?_
        refine lv_iadd hx hb dX5_sumOf_31 ?_
        refine lv_topi (fun x31 ex31 => ?_)
        have bx31 : iv x31 1 10 := iv_add r25fp (show iv 1 1 1 from ⟨by decide, by decide⟩) ex31 (by decide)
        have qx31 := iv_add_eq r25fp (show iv 1 1 1 from ⟨by decide, by decide⟩) ex31 (by decide)
        refine lv_istore (lv' := [(7, .int x31), (0, .ref ap0), (1, .ref ap1), (3, .int xp3), (4, .int x10), (5, .int y21_l5), (6, .int y21_l6)]) hx hb dX5_sumOf_32 hl (by decide) rfl (fun ls hl => ?_)
        have J34 : ∀ (n : Nat) (y34_l5 y34_l7 : Int32), (10 - y34_l7.toInt).toNat < n → iv x10 1 10 → iv y21_l6 0 9 → iv y34_l7 1 10 → ∀ (H : Heap) (locs : List Loc), hp_w D T s H locs → ∀ (ls : Array Slot), lv_has ls 8 [(0, .ref ap0), (1, .ref ap1), (3, .int xp3), (4, .int x10), (5, .int y34_l5), (6, .int y21_l6), (7, .int y34_l7)] → WX5_sumOf p l e s m below meth c D T ap0 ap1 xp2 xp3 H locs (F0 m 34 ls []) := by
          intro n
          induction n with
          | zero => intro y34_l5 y34_l7 hmu34 c34_x10 c34_y21_l6 c34_y34_l7 H34 locs34 hw ls hl; exact absurd hmu34 (Nat.not_lt_zero _)
          | succ n ih34 =>
            intro y34_l5 y34_l7 hmu34 c34_x10 c34_y21_l6 c34_y34_l7 H34 locs34 hw ls hl
            refine lv_iload hx hb dX5_sumOf_34 (lv_at hl 6 rfl) ?_
            refine lv_iload hx hb dX5_sumOf_36 (lv_at hl 3 rfl) ?_
            refine lv_icmp_ge (tgt := 74) hx hb dX5_sumOf_38 (by decide) (fun c38 => ?_) (fun c38 => ?_)
            · obtain ⟨x74, ex74⟩ : ∃ y : Int32, y = y21_l6 + 1 := ⟨_, rfl⟩
              have bx74 : iv x74 1 10 := iv_add c34_y21_l6 (show iv 1 1 1 from ⟨by decide, by decide⟩) ex74 (by decide)
              have qx74 := iv_add_eq c34_y21_l6 (show iv 1 1 1 from ⟨by decide, by decide⟩) ex74 (by decide)
              refine lv_iinc (v := x74) (lv' := [(6, .int x74), (0, .ref ap0), (1, .ref ap1), (3, .int xp3), (4, .int x10), (5, .int y34_l5), (7, .int y34_l7)]) hx hb dX5_sumOf_74 hl (k := 5) rfl (by rw [ex74]; rfl) (by decide) rfl (fun ls hl => ?_)
              refine lv_goto (tgt := 21) hx hb dX5_sumOf_77 (by decide) ?_
              exact ih21 y34_l5 x74 (mu_up 1 hmu21 (qx74) (by decide) (show iv x74 0 10 from (bx74.mono (by decide) (by decide))).2) (c34_x10.mono (by decide) (by decide)) (bx74.mono (by decide) (by decide)) H34 locs34 hw _ (lv_sub hl [1, 2, 3, 4, 5, 0] rfl)
            · have r38fp : iv y34_l7 1 9 := (iv_lt_l (iv_nle c38) c34_y34_l7 c34_x10).mono (by decide) (by decide)
              have r38fq : iv x10 2 10 := (iv_lt_r (iv_nle c38) c34_y34_l7 c34_x10).mono (by decide) (by decide)
              refine lv_iload hx hb dX5_sumOf_41 (lv_at hl 4 rfl) ?_
              refine lv_aload_n hx hb dX5_sumOf_43 rfl (lv_at hl 0 rfl) ?_
              refine lv_aload_n hx hb dX5_sumOf_44 rfl (lv_at hl 1 rfl) ?_
              refine lv_aload_n hx hb dX5_sumOf_45 rfl (lv_at hl 0 rfl) ?_
              refine hp_getr hx hb hts IX5 hown hK hw.1 hp0 rfl 3 (by decide) L24 rfl dX5_sumOf_46 ?_
              refine lv_iload hx hb dX5_sumOf_49 (lv_at hl 5 rfl) ?_
              refine hp_ialdI hx hb hK hw.1 hp0th (vp_iv c34_y21_l6 (by decide)) dX5_sumOf_51 (fun x51 bx51 => ?_)
              refine lv_aload_n hx hb dX5_sumOf_52 rfl (lv_at hl 0 rfl) ?_
              refine hp_getr hx hb hts IX5 hown hK hw.1 hp0 rfl 3 (by decide) L24 rfl dX5_sumOf_53 ?_
              refine lv_iload hx hb dX5_sumOf_56 (lv_at hl 6 rfl) ?_
              refine hp_ialdI hx hb hK hw.1 hp0th (vp_iv r38fp (by decide)) dX5_sumOf_58 (fun x58 bx58 => ?_)
              refine lv_iload_n hx hb dX5_sumOf_59 rfl (lv_at hl 2 rfl) ?_
              refine lv_iload hx hb dX5_sumOf_60 (lv_at hl 3 rfl) ?_
              refine hp_callei (va_runV (As := [.ref ap1, .int x51, .int x58, .int xp3, .int x10]) (rest := [.int y34_l5]) ⟨hx, hb, hml, hown, hts⟩ (sX5_worthOf l D T ap0 ap1 x51 x58 xp3 x10 Ru hRu ip0 ip1) (cwV 5 hts gX5_sumOf_X5_worthOf rfl rfl rfl (by decide +kernel) ⟨Nat.le_of_ble_eq_true rfl, Nat.le_of_ble_eq_true rfl⟩) (hp_preV hG hw hp0 rfl trivial) rfl rfl hl.1 rfl (lv_room (Nat.le_of_ble_eq_true rfl)) dX5_sumOf_62 ⟨Nat.zero_le _, Nat.zero_le _⟩) hw (fun x62 st62 t62 H62 locs62 eh62 eg62 bx62 hw => ?_)
              refine lv_iadd hx hb dX5_sumOf_65 ?_
              refine lv_topi (fun x65 ex65 => ?_)
              refine lv_istore (lv' := [(5, .int x65), (0, .ref ap0), (1, .ref ap1), (3, .int xp3), (4, .int x10), (6, .int y21_l6), (7, .int y34_l7)]) hx hb dX5_sumOf_66 hl (by decide) rfl (fun ls hl => ?_)
              obtain ⟨x68, ex68⟩ : ∃ y : Int32, y = y34_l7 + 1 := ⟨_, rfl⟩
              have bx68 : iv x68 2 10 := iv_add r38fp (show iv 1 1 1 from ⟨by decide, by decide⟩) ex68 (by decide)
              have qx68 := iv_add_eq r38fp (show iv 1 1 1 from ⟨by decide, by decide⟩) ex68 (by decide)
              refine lv_iinc (v := x68) (lv' := [(7, .int x68), (5, .int x65), (0, .ref ap0), (1, .ref ap1), (3, .int xp3), (4, .int x10), (6, .int y21_l6)]) hx hb dX5_sumOf_68 hl (k := 6) rfl (by rw [ex68]; rfl) (by decide) rfl (fun ls hl => ?_)
              refine lv_goto (tgt := 34) hx hb dX5_sumOf_71 (by decide) ?_
              exact ih34 x65 x68 (mu_up 1 hmu34 (qx68) (by decide) (show iv x68 1 10 from (bx68.mono (by decide) (by decide))).2) (r38fq.mono (by decide) (by decide)) c34_y21_l6 (bx68.mono (by decide) (by decide)) H62 locs62 hw _ (lv_sub hl [2, 3, 4, 5, 1, 6, 0] rfl)
        exact J34 _ y21_l5 x31 (Nat.lt_succ_self _) r25fq r25fp bx31 H21 locs21 hw _ (lv_sub hl [1, 2, 3, 4, 5, 6, 0] rfl)
  exact J21 _ (0 : Int32) (0 : Int32) (Nat.lt_succ_self _) bx10 (show iv 0 0 10 from ⟨by decide, by decide⟩) H10 locs10 hw _ (lv_sub hl [3, 4, 6, 2, 1, 0] rfl)
abbrev WX5_streetOf (p : Program) (l : Launch) (e : Env) (s : State) (m : MethodId) (below : List Frame) (meth : Method) (c : Code) (D : hp_D) (T : hp_T) (ap0 : Nat) (ap1 : Nat) (xp2 : Int32) (xp3 : Int32) (xp4 : Int32) (H : Heap) (locs : List Loc) (g : JFrame) : Prop := W p l e (headSpec wsX5_streetOf ({ frames := 5, cells := 0, slots := 0, locals := 125 })).room s m ([.ref ap0, .ref ap1, .int xp2, .int xp3, .int xp4] : List Value).toArray below meth c H locs 0 0 (MQ below (hq_e D T (fun v _ _ => ∃ r : Int32, v = some (.int r) ∧ True)) ([.ref ap0, .ref ap1, .int xp2, .int xp3, .int xp4] : List Value).toArray s 0 0 (hp_F T)) g
set_option maxHeartbeats 4000000 in
set_option maxRecDepth 100000 in
theorem sX5_streetOf (l : Launch) (D : hp_D) (T : hp_T) (ap0 : Nat) (ap1 : Nat) (xp2 : Int32) (xp3 : Int32) (xp4 : Int32) (Ru : Nat → Prop) (hRu : ∀ b, Ru b → isRule T b) (ip0 : isShaker T Ru ap0) (ip1 : isTown T ap1) (bp4 : iv xp4 (-1) 11) : Met l yX5_streetOf wsX5_streetOf ({ frames := 5, cells := 0, slots := 0, locals := 125 }) (hp_Pc D T [.ref ap0, .ref ap1, .int xp2, .int xp3, .int xp4] (fun _ => True)) (hq_e D T (fun v _ _ => ∃ r : Int32, v = some (.int r) ∧ True)) 0 0 (hp_F T) := by
  obtain ⟨ap0wd, ap0sk, ap0th, hp0, hp0wd, hp0sk, hp0th⟩ := id ip0
  obtain ⟨ap1kin, ap1pl, ap1cr, hp1, hp1kin, hp1pl, hp1cr⟩ := id ip1
  refine Met.ofW (cc := cX5_streetOf) (maxL := 8) (ret := (some .int)) (by decide) rfl ?_
  intro p e s m args below meth c s₁ B hml hv
  obtain ⟨rfl, hok, hG, hB⟩ := hv
  have hx := B.exec
  have hb := B.bytes
  have hr := B.returns
  have hts := atoms_spec (ws := wsX5_streetOf) B.pre
  have hown : s.vm.findClass RX5 = some m.cls := findClass_of_methodNamed B.named
  have hlocks := B.notSynchronized
  have hK := hG.1
  have hw : hp_w D T s s.heap [] := hp_w.rf hok
  have IX8 : ∀ w ∈ wsX80, w ∈ wsX5_streetOf := by decide +kernel
  have L83 := hts (.fieldLink RX5 83 "PalmCensus$Town" "gates" "I") (by decide +kernel)
  have hl := lv_entry ([.ref ap0, .ref ap1, .int xp2, .int xp3, .int xp4]) (n := 8) (Nat.le_of_ble_eq_true rfl)
  rw [lg_entry_eq]
  generalize (lg_sl ([.ref ap0, .ref ap1, .int xp2, .int xp3, .int xp4]) ++ List.replicate (8 - (lg_sl ([.ref ap0, .ref ap1, .int xp2, .int xp3, .int xp4])).length) Slot.unset).toArray = ls at hl ⊢
  have hl : lv_has ls 8 [(0, .ref ap0), (1, .ref ap1), (2, .int xp2), (3, .int xp3), (4, .int xp4)] := hl
  show WX5_streetOf p l e s m below meth c D T ap0 ap1 xp2 xp3 xp4 s.heap [] (F0 m 0 ls [])
  refine lv_iconst (v := 0) hx hb dX5_streetOf_0 (by decide) ?_
  refine lv_istore (lv' := [(5, .int 0), (0, .ref ap0), (1, .ref ap1), (2, .int xp2), (3, .int xp3), (4, .int xp4)]) hx hb dX5_streetOf_1 hl (by decide) rfl (fun ls hl => ?_)
  refine lv_iload_n hx hb dX5_streetOf_3 rfl (lv_at hl 4 rfl) ?_
  refine lv_istore (lv' := [(6, .int xp3), (5, .int 0), (0, .ref ap0), (1, .ref ap1), (2, .int xp2), (3, .int xp3), (4, .int xp4)]) hx hb dX5_streetOf_4 hl (by decide) rfl (fun ls hl => ?_)
  have J6 : ∀ (n : Nat) (y6_l5 y6_l6 : Int32), (2147483647 - y6_l6.toInt).toNat < n → iv xp4 (-1) 11 → ∀ (H : Heap) (locs : List Loc), hp_w D T s H locs → ∀ (ls : Array Slot), lv_has ls 8 [(0, .ref ap0), (1, .ref ap1), (2, .int xp2), (4, .int xp4), (5, .int y6_l5), (6, .int y6_l6)] → WX5_streetOf p l e s m below meth c D T ap0 ap1 xp2 xp3 xp4 H locs (F0 m 6 ls []) := by
    intro n
    induction n with
    | zero => intro y6_l5 y6_l6 hmu6 c6_xp4 H6 locs6 hw ls hl; exact absurd hmu6 (Nat.not_lt_zero _)
    | succ n ih6 =>
      intro y6_l5 y6_l6 hmu6 c6_xp4 H6 locs6 hw ls hl
      refine lv_iload hx hb dX5_streetOf_6 (lv_at hl 5 rfl) ?_
      refine lv_iload hx hb dX5_streetOf_8 (lv_at hl 3 rfl) ?_
      refine lv_icmp_gt (tgt := 60) hx hb dX5_streetOf_10 (by decide) (fun c10 => ?_) (fun c10 => ?_)
      · have r10tq : iv y6_l6 0 2147483647 := (iv_lt_r c10 c6_xp4 (iv_any y6_l6)).mono (by decide) (by decide)
        refine lv_iload hx hb dX5_streetOf_60 (lv_at hl 4 rfl) ?_
        exact W.iret (v := y6_l5) hx hb hr (fun t ht hW => ⟨some (.int y6_l5), rfl, ⟨y6_l5, rfl, trivial⟩, by rw [ht]; exact hw.1, hw.2.F ht⟩) hw.2.2.2 dX5_streetOf_62
      · have r10fp : iv y6_l6 (-2147483648) 11 := (iv_le_l (iv_nlt c10) (iv_any y6_l6) c6_xp4).mono (by decide) (by decide)
        refine lv_iconst (v := 0) hx hb dX5_streetOf_13 (by decide) ?_
        refine lv_istore (lv' := [(7, .int 0), (0, .ref ap0), (1, .ref ap1), (2, .int xp2), (4, .int xp4), (5, .int y6_l5), (6, .int y6_l6)]) hx hb dX5_streetOf_14 hl (by decide) rfl (fun ls hl => ?_)
        have J16 : ∀ (n : Nat) (y16_l5 y16_l7 : Int32), (6 - y16_l7.toInt).toNat < n → iv xp4 (-1) 11 → iv y6_l6 (-2147483648) 11 → iv y16_l7 0 6 → ∀ (H : Heap) (locs : List Loc), hp_w D T s H locs → ∀ (ls : Array Slot), lv_has ls 8 [(0, .ref ap0), (1, .ref ap1), (2, .int xp2), (4, .int xp4), (5, .int y16_l5), (6, .int y6_l6), (7, .int y16_l7)] → WX5_streetOf p l e s m below meth c D T ap0 ap1 xp2 xp3 xp4 H locs (F0 m 16 ls []) := by
          intro n
          induction n with
          | zero => intro y16_l5 y16_l7 hmu16 c16_xp4 c16_y6_l6 c16_y16_l7 H16 locs16 hw ls hl; exact absurd hmu16 (Nat.not_lt_zero _)
          | succ n ih16 =>
            intro y16_l5 y16_l7 hmu16 c16_xp4 c16_y6_l6 c16_y16_l7 H16 locs16 hw ls hl
            refine lv_iload hx hb dX5_streetOf_16 (lv_at hl 6 rfl) ?_
            refine lv_aload_n hx hb dX5_streetOf_18 rfl (lv_at hl 1 rfl) ?_
            refine hp_geti hx hb hts IX8 hown hK hw.1 hp1 rfl 0 (by decide) L83 rfl dX5_streetOf_19 (fun x19 bx19 fx19 => ?_)
            refine lv_icmp_ge (tgt := 54) hx hb dX5_streetOf_22 (by decide) (fun c22 => ?_) (fun c22 => ?_)
            · obtain ⟨x54, ex54⟩ : ∃ y : Int32, y = y6_l6 + 1 := ⟨_, rfl⟩
              have bx54 : iv x54 (-2147483647) 12 := iv_add c16_y6_l6 (show iv 1 1 1 from ⟨by decide, by decide⟩) ex54 (by decide)
              have qx54 := iv_add_eq c16_y6_l6 (show iv 1 1 1 from ⟨by decide, by decide⟩) ex54 (by decide)
              refine lv_iinc (v := x54) (lv' := [(6, .int x54), (0, .ref ap0), (1, .ref ap1), (2, .int xp2), (4, .int xp4), (5, .int y16_l5), (7, .int y16_l7)]) hx hb dX5_streetOf_54 hl (k := 5) rfl (by rw [ex54]; rfl) (by decide) rfl (fun ls hl => ?_)
              refine lv_goto (tgt := 6) hx hb dX5_streetOf_57 (by decide) ?_
              exact ih6 y16_l5 x54 (mu_up 1 hmu6 (qx54) (by decide) (show iv x54 (-2147483648) 2147483647 from (bx54.mono (by decide) (by decide))).2) c16_xp4 H16 locs16 hw _ (lv_sub hl [1, 2, 3, 4, 5, 0] rfl)
            · have r22fp : iv y16_l7 0 5 := (iv_lt_l (iv_nle c22) c16_y16_l7 bx19).mono (by decide) (by decide)
              have r22fq : iv x19 1 6 := (iv_lt_r (iv_nle c22) c16_y16_l7 bx19).mono (by decide) (by decide)
              refine lv_iload_n hx hb dX5_streetOf_25 rfl (lv_at hl 2 rfl) ?_
              refine lv_iload hx hb dX5_streetOf_26 (lv_at hl 6 rfl) ?_
              refine lv_ishr hx hb dX5_streetOf_28 ?_
              refine lv_topi (fun x28 ex28 => ?_)
              refine lv_iconst (v := 1) hx hb dX5_streetOf_29 (by decide) ?_
              refine lv_iand hx hb dX5_streetOf_30 ?_
              refine lv_topi (fun x30 ex30 => ?_)
              have bx30 : iv x30 0 1 := iv_and_r (show iv 1 0 1 from ⟨by decide, by decide⟩) ex30
              have J48 : ∀ (y48_l5 : Int32), iv xp4 (-1) 11 → iv y6_l6 (-2147483648) 11 → iv y16_l7 0 5 → ∀ (H : Heap) (locs : List Loc), hp_w D T s H locs → ∀ (ls : Array Slot), lv_has ls 8 [(0, .ref ap0), (1, .ref ap1), (2, .int xp2), (4, .int xp4), (5, .int y48_l5), (6, .int y6_l6), (7, .int y16_l7)] → WX5_streetOf p l e s m below meth c D T ap0 ap1 xp2 xp3 xp4 H locs (F0 m 48 ls []) := by
                intro y48_l5 c48_xp4 c48_y6_l6 c48_y16_l7 H48 locs48 hw ls hl
                obtain ⟨x48, ex48⟩ : ∃ y : Int32, y = y16_l7 + 1 := ⟨_, rfl⟩
                have bx48 : iv x48 1 6 := iv_add c48_y16_l7 (show iv 1 1 1 from ⟨by decide, by decide⟩) ex48 (by decide)
                have qx48 := iv_add_eq c48_y16_l7 (show iv 1 1 1 from ⟨by decide, by decide⟩) ex48 (by decide)
                refine lv_iinc (v := x48) (lv' := [(7, .int x48), (0, .ref ap0), (1, .ref ap1), (2, .int xp2), (4, .int xp4), (5, .int y48_l5), (6, .int y6_l6)]) hx hb dX5_streetOf_48 hl (k := 6) rfl (by rw [ex48]; rfl) (by decide) rfl (fun ls hl => ?_)
                refine lv_goto (tgt := 16) hx hb dX5_streetOf_51 (by decide) ?_
                exact ih16 y48_l5 x48 (mu_up 1 hmu16 (qx48) (by decide) (show iv x48 0 6 from (bx48.mono (by decide) (by decide))).2) c48_xp4 c48_y6_l6 (bx48.mono (by decide) (by decide)) H48 locs48 hw _ (lv_sub hl [1, 2, 3, 4, 5, 6, 0] rfl)
              refine lv_if_eq (tgt := 48) hx hb dX5_streetOf_31 (by decide) (fun c31 => ?_) (fun c31 => ?_)
              · have r31tp : iv x30 0 0 := (iv_both bx30 (iv_eq (show iv 0 0 0 from ⟨by decide, by decide⟩) c31)).mono (by decide) (by decide)
                exact J48 y16_l5 c16_xp4 c16_y6_l6 r22fp H16 locs16 hw _ (lv_sub hl [0, 1, 2, 3, 4, 5, 6] rfl)
              · have r31fp : iv x30 1 1 := (iv_ne_lo c31 bx30 rfl).mono (by decide) (by decide)
                refine lv_iload hx hb dX5_streetOf_34 (lv_at hl 4 rfl) ?_
                refine lv_aload_n hx hb dX5_streetOf_36 rfl (lv_at hl 0 rfl) ?_
                refine lv_aload_n hx hb dX5_streetOf_37 rfl (lv_at hl 1 rfl) ?_
                refine lv_iload hx hb dX5_streetOf_38 (lv_at hl 6 rfl) ?_
                refine lv_iload hx hb dX5_streetOf_40 (lv_at hl 5 rfl) ?_
                refine hp_callei (va_runV (As := [.ref ap1, .int y16_l7, .int y6_l6]) (rest := [.int y16_l5]) ⟨hx, hb, hml, hown, hts⟩ (sX5_sumOf l D T ap0 ap1 y16_l7 y6_l6 Ru hRu ip0 ip1) (cwV 3 hts gX5_streetOf_X5_sumOf rfl rfl rfl (by decide +kernel) ⟨Nat.le_of_ble_eq_true rfl, Nat.le_of_ble_eq_true rfl⟩) (hp_preV hG hw hp0 rfl trivial) rfl rfl hl.1 rfl (lv_room (Nat.le_of_ble_eq_true rfl)) dX5_streetOf_42 ⟨Nat.zero_le _, Nat.zero_le _⟩) hw (fun x42 st42 t42 H42 locs42 eh42 eg42 bx42 hw => ?_)
                refine lv_iadd hx hb dX5_streetOf_45 ?_
                refine lv_topi (fun x45 ex45 => ?_)
                refine lv_istore (lv' := [(5, .int x45), (0, .ref ap0), (1, .ref ap1), (2, .int xp2), (4, .int xp4), (6, .int y6_l6), (7, .int y16_l7)]) hx hb dX5_streetOf_46 hl (by decide) rfl (fun ls hl => ?_)
                exact J48 x45 c16_xp4 c16_y6_l6 r22fp H42 locs42 hw _ (lv_sub hl [1, 2, 3, 4, 0, 5, 6] rfl)
        exact J16 _ y6_l5 (0 : Int32) (Nat.lt_succ_self _) c6_xp4 r10fp (show iv 0 0 6 from ⟨by decide, by decide⟩) H6 locs6 hw _ (lv_sub hl [1, 2, 3, 4, 5, 6, 0] rfl)
  exact J6 _ (0 : Int32) xp3 (Nat.lt_succ_self _) bp4 s.heap [] hw _ (lv_sub hl [2, 3, 4, 6, 1, 0] rfl)
abbrev WX5_totalOf (p : Program) (l : Launch) (e : Env) (s : State) (m : MethodId) (below : List Frame) (meth : Method) (c : Code) (D : hp_D) (T : hp_T) (ap0 : Nat) (ap1 : Nat) (H : Heap) (locs : List Loc) (g : JFrame) : Prop := W p l e (headSpec wsX5_totalOf ({ frames := 6, cells := 0, slots := 0, locals := 152 })).room s m ([.ref ap0, .ref ap1] : List Value).toArray below meth c H locs 0 0 (MQ below (hq_e D T (fun v _ _ => ∃ r : Int32, v = some (.int r) ∧ True)) ([.ref ap0, .ref ap1] : List Value).toArray s 0 0 (hp_F T)) g
set_option maxHeartbeats 4000000 in
set_option maxRecDepth 100000 in
theorem sX5_totalOf (l : Launch) (D : hp_D) (T : hp_T) (ap0 : Nat) (ap1 : Nat) (Ru : Nat → Prop) (hRu : ∀ b, Ru b → isRule T b) (ip0 : isShaker T Ru ap0) (ip1 : isTown T ap1) : Met l yX5_totalOf wsX5_totalOf ({ frames := 6, cells := 0, slots := 0, locals := 152 }) (hp_Pc D T [.ref ap0, .ref ap1] (fun _ => True)) (hq_e D T (fun v _ _ => ∃ r : Int32, v = some (.int r) ∧ True)) 0 0 (hp_F T) := by
  obtain ⟨ap0wd, ap0sk, ap0th, hp0, hp0wd, hp0sk, hp0th⟩ := id ip0
  obtain ⟨ap1kin, ap1pl, ap1cr, hp1, hp1kin, hp1pl, hp1cr⟩ := id ip1
  refine Met.ofW (cc := cX5_totalOf) (maxL := 2) (ret := (some .int)) (by decide) rfl ?_
  intro p e s m args below meth c s₁ B hml hv
  obtain ⟨rfl, hok, hG, hB⟩ := hv
  have hx := B.exec
  have hb := B.bytes
  have hr := B.returns
  have hts := atoms_spec (ws := wsX5_totalOf) B.pre
  have hown : s.vm.findClass RX5 = some m.cls := findClass_of_methodNamed B.named
  have hlocks := B.notSynchronized
  have hK := hG.1
  have hw : hp_w D T s s.heap [] := hp_w.rf hok
  have IX8 : ∀ w ∈ wsX80, w ∈ wsX5_totalOf := by decide +kernel
  have L83 := hts (.fieldLink RX5 83 "PalmCensus$Town" "gates" "I") (by decide +kernel)
  have L90 := hts (.fieldLink RX5 90 "PalmCensus$Town" "hours" "I") (by decide +kernel)
  have hl := lv_entry ([.ref ap0, .ref ap1]) (n := 2) (Nat.le_of_ble_eq_true rfl)
  rw [lg_entry_eq]
  generalize (lg_sl ([.ref ap0, .ref ap1]) ++ List.replicate (2 - (lg_sl ([.ref ap0, .ref ap1])).length) Slot.unset).toArray = ls at hl ⊢
  have hl : lv_has ls 2 [(0, .ref ap0), (1, .ref ap1)] := hl
  show WX5_totalOf p l e s m below meth c D T ap0 ap1 s.heap [] (F0 m 0 ls [])
  refine lv_aload_n hx hb dX5_totalOf_0 rfl (lv_at hl 0 rfl) ?_
  refine lv_aload_n hx hb dX5_totalOf_1 rfl (lv_at hl 1 rfl) ?_
  refine lv_iconst (v := 1) hx hb dX5_totalOf_2 (by decide) ?_
  refine lv_aload_n hx hb dX5_totalOf_3 rfl (lv_at hl 1 rfl) ?_
  refine hp_geti hx hb hts IX8 hown hK hw.1 hp1 rfl 0 (by decide) L83 rfl dX5_totalOf_4 (fun x4 bx4 fx4 => ?_)
  refine lv_ishl hx hb dX5_totalOf_7 ?_
  refine lv_topi (fun x7 ex7 => ?_)
  have bx7 : iv x7 1 64 := iv_shl 6 (show iv 1 1 1 from ⟨by decide, by decide⟩) bx4 ex7 (by decide)
  refine lv_iconst (v := 1) hx hb dX5_totalOf_8 (by decide) ?_
  refine lv_isub hx hb dX5_totalOf_9 ?_
  refine lv_topi (fun x9 ex9 => ?_)
  have bx9 : iv x9 0 63 := iv_sub bx7 (show iv 1 1 1 from ⟨by decide, by decide⟩) ex9 (by decide)
  have qx9 := iv_sub_eq bx7 (show iv 1 1 1 from ⟨by decide, by decide⟩) ex9 (by decide)
  refine lv_iconst (v := 0) hx hb dX5_totalOf_10 (by decide) ?_
  refine lv_aload_n hx hb dX5_totalOf_11 rfl (lv_at hl 1 rfl) ?_
  refine hp_geti hx hb hts IX8 hown hK hw.1 hp1 rfl 1 (by decide) L90 rfl dX5_totalOf_12 (fun x12 bx12 fx12 => ?_)
  refine lv_iconst (v := 1) hx hb dX5_totalOf_15 (by decide) ?_
  refine lv_isub hx hb dX5_totalOf_16 ?_
  refine lv_topi (fun x16 ex16 => ?_)
  have bx16 : iv x16 (-1) 11 := iv_sub bx12 (show iv 1 1 1 from ⟨by decide, by decide⟩) ex16 (by decide)
  have qx16 := iv_sub_eq bx12 (show iv 1 1 1 from ⟨by decide, by decide⟩) ex16 (by decide)
  refine hp_callei (va_runV (As := [.ref ap1, .int x9, .int 0, .int x16]) (rest := []) ⟨hx, hb, hml, hown, hts⟩ (sX5_streetOf l D T ap0 ap1 x9 (0 : Int32) x16 Ru hRu ip0 ip1 bx16) (cwV 4 hts gX5_totalOf_X5_streetOf rfl rfl rfl (by decide +kernel) ⟨Nat.le_of_ble_eq_true rfl, Nat.le_of_ble_eq_true rfl⟩) (hp_preV hG hw hp0 rfl trivial) rfl rfl hl.1 rfl (lv_room (Nat.le_of_ble_eq_true rfl)) dX5_totalOf_17 ⟨Nat.zero_le _, Nat.zero_le _⟩) hw (fun x17 st17 t17 H17 locs17 eh17 eg17 bx17 hw => ?_)
  exact W.iret (v := x17) hx hb hr (fun t ht hW => ⟨some (.int x17), rfl, ⟨x17, rfl, trivial⟩, by rw [ht]; exact hw.1, hw.2.F ht⟩) hw.2.2.2 dX5_totalOf_20
abbrev WX5_dayOf (p : Program) (l : Launch) (e : Env) (s : State) (m : MethodId) (below : List Frame) (meth : Method) (c : Code) (D : hp_D) (T : hp_T) (ap0 : Nat) (ap1 : Nat) (xp2 : Int32) (xp3 : Int32) (H : Heap) (locs : List Loc) (g : JFrame) : Prop := W p l e (headSpec wsX5_dayOf ({ frames := 4, cells := 0, slots := 0, locals := 98 })).room s m ([.ref ap0, .ref ap1, .int xp2, .int xp3] : List Value).toArray below meth c H locs 0 0 (MQ below (hq_e D T (fun v _ _ => ∃ r : Int32, v = some (.int r) ∧ True)) ([.ref ap0, .ref ap1, .int xp2, .int xp3] : List Value).toArray s 0 0 (hp_F T)) g
set_option maxHeartbeats 4000000 in
set_option maxRecDepth 100000 in
theorem sX5_dayOf (l : Launch) (D : hp_D) (T : hp_T) (ap0 : Nat) (ap1 : Nat) (xp2 : Int32) (xp3 : Int32) (Ru : Nat → Prop) (hRu : ∀ b, Ru b → isRule T b) (ip0 : isShaker T Ru ap0) (ip1 : isTown T ap1) : Met l yX5_dayOf wsX5_dayOf ({ frames := 4, cells := 0, slots := 0, locals := 98 }) (hp_Pc D T [.ref ap0, .ref ap1, .int xp2, .int xp3] (fun _ => True)) (hq_e D T (fun v _ _ => ∃ r : Int32, v = some (.int r) ∧ True)) 0 0 (hp_F T) := by
  obtain ⟨ap0wd, ap0sk, ap0th, hp0, hp0wd, hp0sk, hp0th⟩ := id ip0
  obtain ⟨ap1kin, ap1pl, ap1cr, hp1, hp1kin, hp1pl, hp1cr⟩ := id ip1
  refine Met.ofW (cc := cX5_dayOf) (maxL := 7) (ret := (some .int)) (by decide) rfl ?_
  intro p e s m args below meth c s₁ B hml hv
  obtain ⟨rfl, hok, hG, hB⟩ := hv
  have hx := B.exec
  have hb := B.bytes
  have hr := B.returns
  have hts := atoms_spec (ws := wsX5_dayOf) B.pre
  have hown : s.vm.findClass RX5 = some m.cls := findClass_of_methodNamed B.named
  have hlocks := B.notSynchronized
  have hK := hG.1
  have hw : hp_w D T s s.heap [] := hp_w.rf hok
  have IX8 : ∀ w ∈ wsX80, w ∈ wsX5_dayOf := by decide +kernel
  have L90 := hts (.fieldLink RX5 90 "PalmCensus$Town" "hours" "I") (by decide +kernel)
  have hl := lv_entry ([.ref ap0, .ref ap1, .int xp2, .int xp3]) (n := 7) (Nat.le_of_ble_eq_true rfl)
  rw [lg_entry_eq]
  generalize (lg_sl ([.ref ap0, .ref ap1, .int xp2, .int xp3]) ++ List.replicate (7 - (lg_sl ([.ref ap0, .ref ap1, .int xp2, .int xp3])).length) Slot.unset).toArray = ls at hl ⊢
  have hl : lv_has ls 7 [(0, .ref ap0), (1, .ref ap1), (2, .int xp2), (3, .int xp3)] := hl
  show WX5_dayOf p l e s m below meth c D T ap0 ap1 xp2 xp3 s.heap [] (F0 m 0 ls [])
  refine lv_iconst (v := 0) hx hb dX5_dayOf_0 (by decide) ?_
  refine lv_istore (lv' := [(4, .int 0), (0, .ref ap0), (1, .ref ap1), (2, .int xp2), (3, .int xp3)]) hx hb dX5_dayOf_1 hl (by decide) rfl (fun ls hl => ?_)
  refine lv_iconst (v := 0) hx hb dX5_dayOf_3 (by decide) ?_
  refine lv_istore (lv' := [(5, .int 0), (4, .int 0), (0, .ref ap0), (1, .ref ap1), (2, .int xp2), (3, .int xp3)]) hx hb dX5_dayOf_4 hl (by decide) rfl (fun ls hl => ?_)
  have J6 : ∀ (n : Nat) (y6_l4 y6_l5 : Int32), (12 - y6_l5.toInt).toNat < n → iv y6_l5 0 12 → ∀ (H : Heap) (locs : List Loc), hp_w D T s H locs → ∀ (ls : Array Slot), lv_has ls 7 [(0, .ref ap0), (1, .ref ap1), (2, .int xp2), (3, .int xp3), (4, .int y6_l4), (5, .int y6_l5)] → WX5_dayOf p l e s m below meth c D T ap0 ap1 xp2 xp3 H locs (F0 m 6 ls []) := by
    intro n
    induction n with
    | zero => intro y6_l4 y6_l5 hmu6 c6_y6_l5 H6 locs6 hw ls hl; exact absurd hmu6 (Nat.not_lt_zero _)
    | succ n ih6 =>
      intro y6_l4 y6_l5 hmu6 c6_y6_l5 H6 locs6 hw ls hl
      refine lv_iload hx hb dX5_dayOf_6 (lv_at hl 5 rfl) ?_
      refine lv_aload_n hx hb dX5_dayOf_8 rfl (lv_at hl 1 rfl) ?_
      refine hp_geti hx hb hts IX8 hown hK hw.1 hp1 rfl 1 (by decide) L90 rfl dX5_dayOf_9 (fun x9 bx9 fx9 => ?_)
      refine lv_icmp_ge (tgt := 66) hx hb dX5_dayOf_12 (by decide) (fun c12 => ?_) (fun c12 => ?_)
      · refine lv_iload hx hb dX5_dayOf_66 (lv_at hl 4 rfl) ?_
        exact W.iret (v := y6_l4) hx hb hr (fun t ht hW => ⟨some (.int y6_l4), rfl, ⟨y6_l4, rfl, trivial⟩, by rw [ht]; exact hw.1, hw.2.F ht⟩) hw.2.2.2 dX5_dayOf_68
      · have r12fp : iv y6_l5 0 11 := (iv_lt_l (iv_nle c12) c6_y6_l5 bx9).mono (by decide) (by decide)
        have r12fq : iv x9 1 12 := (iv_lt_r (iv_nle c12) c6_y6_l5 bx9).mono (by decide) (by decide)
        refine lv_aload_n hx hb dX5_dayOf_15 rfl (lv_at hl 1 rfl) ?_
        refine lv_iload_n hx hb dX5_dayOf_16 rfl (lv_at hl 2 rfl) ?_
        refine lv_iload_n hx hb dX5_dayOf_17 rfl (lv_at hl 3 rfl) ?_
        refine lv_iload hx hb dX5_dayOf_18 (lv_at hl 5 rfl) ?_
        refine hp_callpi (va_runV (As := [.int xp2, .int xp3, .int y6_l5]) (rest := []) ⟨hx, hb, hml, hown, hts⟩ (sX8_areTogether l D T ap1 xp2 xp3 y6_l5 ip1) (cwV 3 hts gX5_dayOf_X8_areTogether rfl rfl rfl (by decide +kernel) ⟨Nat.le_of_ble_eq_true rfl, Nat.le_of_ble_eq_true rfl⟩) (hp_preV hG hw hp1 rfl trivial) rfl rfl hl.1 rfl (lv_room (Nat.le_of_ble_eq_true rfl)) dX5_dayOf_20 ⟨Nat.zero_le _, Nat.zero_le _⟩) (fun x20 bx20 => ?_)
        have J60 : ∀ (y60_l4 : Int32), iv y6_l5 0 11 → ∀ (H : Heap) (locs : List Loc), hp_w D T s H locs → ∀ (ls : Array Slot), lv_has ls 7 [(0, .ref ap0), (1, .ref ap1), (2, .int xp2), (3, .int xp3), (4, .int y60_l4), (5, .int y6_l5)] → WX5_dayOf p l e s m below meth c D T ap0 ap1 xp2 xp3 H locs (F0 m 60 ls []) := by
          intro y60_l4 c60_y6_l5 H60 locs60 hw ls hl
          obtain ⟨x60, ex60⟩ : ∃ y : Int32, y = y6_l5 + 1 := ⟨_, rfl⟩
          have bx60 : iv x60 1 12 := iv_add c60_y6_l5 (show iv 1 1 1 from ⟨by decide, by decide⟩) ex60 (by decide)
          have qx60 := iv_add_eq c60_y6_l5 (show iv 1 1 1 from ⟨by decide, by decide⟩) ex60 (by decide)
          refine lv_iinc (v := x60) (lv' := [(5, .int x60), (0, .ref ap0), (1, .ref ap1), (2, .int xp2), (3, .int xp3), (4, .int y60_l4)]) hx hb dX5_dayOf_60 hl (k := 5) rfl (by rw [ex60]; rfl) (by decide) rfl (fun ls hl => ?_)
          refine lv_goto (tgt := 6) hx hb dX5_dayOf_63 (by decide) ?_
          exact ih6 y60_l4 x60 (mu_up 1 hmu6 (qx60) (by decide) (show iv x60 0 12 from (bx60.mono (by decide) (by decide))).2) (bx60.mono (by decide) (by decide)) H60 locs60 hw _ (lv_sub hl [1, 2, 3, 4, 5, 0] rfl)
        refine lv_if_eq (tgt := 60) hx hb dX5_dayOf_23 (by decide) (fun c23 => ?_) (fun c23 => ?_)
        · have r23tp : iv x20 0 0 := (iv_both bx20 (iv_eq (show iv 0 0 0 from ⟨by decide, by decide⟩) c23)).mono (by decide) (by decide)
          exact J60 y6_l4 r12fp H6 locs6 hw _ (lv_sub hl [0, 1, 2, 3, 4, 5] rfl)
        · have r23fp : iv x20 1 1 := (iv_ne_lo c23 bx20 rfl).mono (by decide) (by decide)
          refine lv_aload_n hx hb dX5_dayOf_26 rfl (lv_at hl 1 rfl) ?_
          refine lv_aload_n hx hb dX5_dayOf_27 rfl (lv_at hl 1 rfl) ?_
          refine lv_iload_n hx hb dX5_dayOf_28 rfl (lv_at hl 2 rfl) ?_
          refine lv_iload hx hb dX5_dayOf_29 (lv_at hl 5 rfl) ?_
          refine hp_callpi (va_runV (As := [.int xp2, .int y6_l5]) (rest := [.ref ap1]) ⟨hx, hb, hml, hown, hts⟩ (sX8_placeOf l D T ap1 xp2 y6_l5 ip1) (cwV 2 hts gX5_dayOf_X8_placeOf rfl rfl rfl (by decide +kernel) ⟨Nat.le_of_ble_eq_true rfl, Nat.le_of_ble_eq_true rfl⟩) (hp_preV hG hw hp1 rfl trivial) rfl rfl hl.1 rfl (lv_room (Nat.le_of_ble_eq_true rfl)) dX5_dayOf_31 ⟨Nat.zero_le _, Nat.zero_le _⟩) (fun x31 bx31 => ?_)
          refine lv_iload hx hb dX5_dayOf_34 (lv_at hl 5 rfl) ?_
          refine hp_callpi (va_runV (As := [.int x31, .int y6_l5]) (rest := []) ⟨hx, hb, hml, hown, hts⟩ (sX8_those l D T ap1 x31 y6_l5 ip1) (cwV 2 hts gX5_dayOf_X8_those rfl rfl rfl (by decide +kernel) ⟨Nat.le_of_ble_eq_true rfl, Nat.le_of_ble_eq_true rfl⟩) (hp_preV hG hw hp1 rfl trivial) rfl rfl hl.1 rfl (lv_room (Nat.le_of_ble_eq_true rfl)) dX5_dayOf_36 ⟨Nat.zero_le _, Nat.zero_le _⟩) (fun x36 bx36 => ?_)
          refine hp_callpi (va_runS (As := [.int x36]) (rest := []) ⟨hx, hb, hml, hown, hts⟩ (sJ6_bitCount_0f7a4 l D T x36) (va_cwS 1 hts gX5_dayOf_J6_bitCount_0f7a4 rfl rfl rfl (by decide +kernel) ⟨Nat.le_of_ble_eq_true rfl, Nat.le_of_ble_eq_true rfl⟩) (hp_preS hG hw trivial) rfl rfl hl.1 rfl (lv_room (Nat.le_of_ble_eq_true rfl)) dX5_dayOf_39 ⟨Nat.zero_le _, Nat.zero_le _⟩) (fun x39 bx39 => ?_)
          refine lv_istore (lv' := [(6, .int x39), (0, .ref ap0), (1, .ref ap1), (2, .int xp2), (3, .int xp3), (4, .int y6_l4), (5, .int y6_l5)]) hx hb dX5_dayOf_42 hl (by decide) rfl (fun ls hl => ?_)
          refine lv_iload hx hb dX5_dayOf_44 (lv_at hl 5 rfl) ?_
          refine lv_aload_n hx hb dX5_dayOf_46 rfl (lv_at hl 1 rfl) ?_
          refine lv_aload_n hx hb dX5_dayOf_47 rfl (lv_at hl 2 rfl) ?_
          refine lv_iload_n hx hb dX5_dayOf_48 rfl (lv_at hl 3 rfl) ?_
          refine lv_iload_n hx hb dX5_dayOf_49 rfl (lv_at hl 4 rfl) ?_
          refine lv_iload hx hb dX5_dayOf_50 (lv_at hl 6 rfl) ?_
          refine lv_iload hx hb dX5_dayOf_52 (lv_at hl 0 rfl) ?_
          refine hp_callei (va_runV (As := [.ref ap1, .int xp2, .int xp3, .int y6_l5, .int x39]) (rest := [.int y6_l4]) ⟨hx, hb, hml, hown, hts⟩ (sX5_worthOf l D T ap0 ap1 xp2 xp3 y6_l5 x39 Ru hRu ip0 ip1) (cwV 5 hts gX5_dayOf_X5_worthOf rfl rfl rfl (by decide +kernel) ⟨Nat.le_of_ble_eq_true rfl, Nat.le_of_ble_eq_true rfl⟩) (hp_preV hG hw hp0 rfl trivial) rfl rfl hl.1 rfl (lv_room (Nat.le_of_ble_eq_true rfl)) dX5_dayOf_54 ⟨Nat.zero_le _, Nat.zero_le _⟩) hw (fun x54 st54 t54 H54 locs54 eh54 eg54 bx54 hw => ?_)
          refine lv_iadd hx hb dX5_dayOf_57 ?_
          refine lv_topi (fun x57 ex57 => ?_)
          refine lv_istore (lv' := [(4, .int x57), (6, .int x39), (0, .ref ap0), (1, .ref ap1), (2, .int xp2), (3, .int xp3), (5, .int y6_l5)]) hx hb dX5_dayOf_58 hl (by decide) rfl (fun ls hl => ?_)
          exact J60 x57 r12fp H54 locs54 hw _ (lv_sub hl [2, 3, 4, 5, 0, 6] rfl)
  exact J6 _ (0 : Int32) (0 : Int32) (Nat.lt_succ_self _) (show iv 0 0 12 from ⟨by decide, by decide⟩) s.heap [] hw _ (lv_sub hl [2, 3, 4, 5, 1, 0] rfl)
abbrev WX5_stakeAt (p : Program) (l : Launch) (e : Env) (s : State) (m : MethodId) (below : List Frame) (meth : Method) (c : Code) (D : hp_D) (T : hp_T) (ap0 : Nat) (ap1 : Nat) (xp2 : Int32) (xp3 : Int32) (xp4 : Int32) (xp5 : Int32) (H : Heap) (locs : List Loc) (g : JFrame) : Prop := W p l e (headSpec wsX5_stakeAt ({ frames := 5, cells := 0, slots := 0, locals := 125 })).room s m ([.ref ap0, .ref ap1, .int xp2, .int xp3, .int xp4, .int xp5] : List Value).toArray below meth c H locs 0 0 (MQ below (hq_e D T (fun v _ _ => ∃ r : Int32, v = some (.int r) ∧ True)) ([.ref ap0, .ref ap1, .int xp2, .int xp3, .int xp4, .int xp5] : List Value).toArray s 0 0 (hp_F T)) g
set_option maxHeartbeats 4000000 in
set_option maxRecDepth 100000 in
theorem sX5_stakeAt (l : Launch) (D : hp_D) (T : hp_T) (ap0 : Nat) (ap1 : Nat) (xp2 : Int32) (xp3 : Int32) (xp4 : Int32) (xp5 : Int32) (Ru : Nat → Prop) (hRu : ∀ b, Ru b → isRule T b) (ip0 : isShaker T Ru ap0) (ip1 : isTown T ap1) (bp3 : iv xp3 0 11) : Met l yX5_stakeAt wsX5_stakeAt ({ frames := 5, cells := 0, slots := 0, locals := 125 }) (hp_Pc D T [.ref ap0, .ref ap1, .int xp2, .int xp3, .int xp4, .int xp5] (fun _ => True)) (hq_e D T (fun v _ _ => ∃ r : Int32, v = some (.int r) ∧ True)) 0 0 (hp_F T) := by
  obtain ⟨ap0wd, ap0sk, ap0th, hp0, hp0wd, hp0sk, hp0th⟩ := id ip0
  obtain ⟨ap1kin, ap1pl, ap1cr, hp1, hp1kin, hp1pl, hp1cr⟩ := id ip1
  refine Met.ofW (cc := cX5_stakeAt) (maxL := 14) (ret := (some .int)) (by decide) rfl ?_
  intro p e s m args below meth c s₁ B hml hv
  obtain ⟨rfl, hok, hG, hB⟩ := hv
  have hx := B.exec
  have hb := B.bytes
  have hr := B.returns
  have hts := atoms_spec (ws := wsX5_stakeAt) B.pre
  have hown : s.vm.findClass RX5 = some m.cls := findClass_of_methodNamed B.named
  have hlocks := B.notSynchronized
  have hK := hG.1
  have hw : hp_w D T s s.heap [] := hp_w.rf hok
  have IX5 : ∀ w ∈ wsX50, w ∈ wsX5_stakeAt := by decide +kernel
  have IX8 : ∀ w ∈ wsX80, w ∈ wsX5_stakeAt := by decide +kernel
  have L90 := hts (.fieldLink RX5 90 "PalmCensus$Town" "hours" "I") (by decide +kernel)
  have L24 := hts (.fieldLink RX5 24 "PalmCensus$Shaker" "there" "[I") (by decide +kernel)
  have INX11 := hts (.initialized RX11) (by decide +kernel)
  have STX11_listMembers := hts (.static yX11_listMembers) (by decide +kernel)
  have Mmax128_1 := hts (.methodLink RX5 128 Lib.Math.max.name) (by decide +kernel)
  have Mmax128_2 := hts (.static Lib.Math.max.name) (by decide +kernel)
  have Mmax128_3 := hts (.initialized "java/lang/Math") (by decide +kernel)
  have Mmax128_4 := hts (.code Lib.Math.max.name Lib.Math.max.code 2 (some .int)) (by decide +kernel)
  have Mmin123_1 := hts (.methodLink RX5 123 Lib.Math.min.name) (by decide +kernel)
  have Mmin123_2 := hts (.static Lib.Math.min.name) (by decide +kernel)
  have Mmin123_3 := hts (.initialized "java/lang/Math") (by decide +kernel)
  have Mmin123_4 := hts (.code Lib.Math.min.name Lib.Math.min.code 2 (some .int)) (by decide +kernel)
  have hl := lv_entry ([.ref ap0, .ref ap1, .int xp2, .int xp3, .int xp4, .int xp5]) (n := 14) (Nat.le_of_ble_eq_true rfl)
  rw [lg_entry_eq]
  generalize (lg_sl ([.ref ap0, .ref ap1, .int xp2, .int xp3, .int xp4, .int xp5]) ++ List.replicate (14 - (lg_sl ([.ref ap0, .ref ap1, .int xp2, .int xp3, .int xp4, .int xp5])).length) Slot.unset).toArray = ls at hl ⊢
  have hl : lv_has ls 14 [(0, .ref ap0), (1, .ref ap1), (2, .int xp2), (3, .int xp3), (4, .int xp4), (5, .int xp5)] := hl
  show WX5_stakeAt p l e s m below meth c D T ap0 ap1 xp2 xp3 xp4 xp5 s.heap [] (F0 m 0 ls [])
  refine lv_aload_n hx hb dX5_stakeAt_0 rfl (lv_at hl 0 rfl) ?_
  refine lv_aload_n hx hb dX5_stakeAt_1 rfl (lv_at hl 1 rfl) ?_
  refine lv_iload hx hb dX5_stakeAt_2 (lv_at hl 4 rfl) ?_
  refine lv_iload_n hx hb dX5_stakeAt_4 rfl (lv_at hl 3 rfl) ?_
  refine hp_callei (va_runV (As := [.ref ap1, .int xp4, .int xp3]) (rest := []) ⟨hx, hb, hml, hown, hts⟩ (sX5_sumOf l D T ap0 ap1 xp4 xp3 Ru hRu ip0 ip1) (cwV 3 hts gX5_stakeAt_X5_sumOf rfl rfl rfl (by decide +kernel) ⟨Nat.le_of_ble_eq_true rfl, Nat.le_of_ble_eq_true rfl⟩) (hp_preV hG hw hp0 rfl trivial) rfl rfl hl.1 rfl (lv_room (Nat.le_of_ble_eq_true rfl)) dX5_stakeAt_5 ⟨Nat.zero_le _, Nat.zero_le _⟩) hw (fun x5 st5 t5 H5 locs5 eh5 eg5 bx5 hw => ?_)
  refine lv_istore (lv' := [(6, .int x5), (0, .ref ap0), (1, .ref ap1), (2, .int xp2), (3, .int xp3), (4, .int xp4), (5, .int xp5)]) hx hb dX5_stakeAt_8 hl (by decide) rfl (fun ls hl => ?_)
  refine lv_iload_n hx hb dX5_stakeAt_10 rfl (lv_at hl 4 rfl) ?_
  refine lv_iconst (v := 1) hx hb dX5_stakeAt_11 (by decide) ?_
  refine lv_iadd hx hb dX5_stakeAt_12 ?_
  refine lv_topi (fun x12 ex12 => ?_)
  have bx12 : iv x12 1 12 := iv_add bp3 (show iv 1 1 1 from ⟨by decide, by decide⟩) ex12 (by decide)
  have qx12 := iv_add_eq bp3 (show iv 1 1 1 from ⟨by decide, by decide⟩) ex12 (by decide)
  refine lv_istore (lv' := [(7, .int x12), (6, .int x5), (0, .ref ap0), (1, .ref ap1), (2, .int xp2), (3, .int xp3), (4, .int xp4), (5, .int xp5)]) hx hb dX5_stakeAt_13 hl (by decide) rfl (fun ls hl => ?_)
  have J15 : ∀ (n : Nat) (y15_l6 y15_l7 : Int32), (12 - y15_l7.toInt).toNat < n → iv y15_l7 1 12 → ∀ (H : Heap) (locs : List Loc), hp_w D T s H locs → ∀ (ls : Array Slot), lv_has ls 14 [(0, .ref ap0), (1, .ref ap1), (2, .int xp2), (5, .int xp5), (6, .int y15_l6), (7, .int y15_l7)] → WX5_stakeAt p l e s m below meth c D T ap0 ap1 xp2 xp3 xp4 xp5 H locs (F0 m 15 ls []) := by
    intro n
    induction n with
    | zero => intro y15_l6 y15_l7 hmu15 c15_y15_l7 H15 locs15 hw ls hl; exact absurd hmu15 (Nat.not_lt_zero _)
    | succ n ih15 =>
      intro y15_l6 y15_l7 hmu15 c15_y15_l7 H15 locs15 hw ls hl
      refine lv_iload hx hb dX5_stakeAt_15 (lv_at hl 5 rfl) ?_
      refine lv_aload_n hx hb dX5_stakeAt_17 rfl (lv_at hl 1 rfl) ?_
      refine hp_geti hx hb hts IX8 hown hK hw.1 hp1 rfl 1 (by decide) L90 rfl dX5_stakeAt_18 (fun x18 bx18 fx18 => ?_)
      refine lv_icmp_ge (tgt := 126) hx hb dX5_stakeAt_21 (by decide) (fun c21 => ?_) (fun c21 => ?_)
      · refine lv_iload hx hb dX5_stakeAt_126 (lv_at hl 4 rfl) ?_
        exact W.iret (v := y15_l6) hx hb hr (fun t ht hW => ⟨some (.int y15_l6), rfl, ⟨y15_l6, rfl, trivial⟩, by rw [ht]; exact hw.1, hw.2.F ht⟩) hw.2.2.2 dX5_stakeAt_128
      · have r21fp : iv y15_l7 1 11 := (iv_lt_l (iv_nle c21) c15_y15_l7 bx18).mono (by decide) (by decide)
        have r21fq : iv x18 2 12 := (iv_lt_r (iv_nle c21) c15_y15_l7 bx18).mono (by decide) (by decide)
        refine lv_aload_n hx hb dX5_stakeAt_24 rfl (lv_at hl 1 rfl) ?_
        refine lv_aload_n hx hb dX5_stakeAt_25 rfl (lv_at hl 1 rfl) ?_
        refine lv_iload_n hx hb dX5_stakeAt_26 rfl (lv_at hl 2 rfl) ?_
        refine lv_iload hx hb dX5_stakeAt_27 (lv_at hl 5 rfl) ?_
        refine hp_callpi (va_runV (As := [.int xp2, .int y15_l7]) (rest := [.ref ap1]) ⟨hx, hb, hml, hown, hts⟩ (sX8_placeOf l D T ap1 xp2 y15_l7 ip1) (cwV 2 hts gX5_stakeAt_X8_placeOf rfl rfl rfl (by decide +kernel) ⟨Nat.le_of_ble_eq_true rfl, Nat.le_of_ble_eq_true rfl⟩) (hp_preV hG hw hp1 rfl trivial) rfl rfl hl.1 rfl (lv_room (Nat.le_of_ble_eq_true rfl)) dX5_stakeAt_29 ⟨Nat.zero_le _, Nat.zero_le _⟩) (fun x29 bx29 => ?_)
        refine lv_iload hx hb dX5_stakeAt_32 (lv_at hl 5 rfl) ?_
        refine hp_callpi (va_runV (As := [.int x29, .int y15_l7]) (rest := []) ⟨hx, hb, hml, hown, hts⟩ (sX8_those l D T ap1 x29 y15_l7 ip1) (cwV 2 hts gX5_stakeAt_X8_those rfl rfl rfl (by decide +kernel) ⟨Nat.le_of_ble_eq_true rfl, Nat.le_of_ble_eq_true rfl⟩) (hp_preV hG hw hp1 rfl trivial) rfl rfl hl.1 rfl (lv_room (Nat.le_of_ble_eq_true rfl)) dX5_stakeAt_34 ⟨Nat.zero_le _, Nat.zero_le _⟩) (fun x34 bx34 => ?_)
        refine lv_istore (lv' := [(8, .int x34), (0, .ref ap0), (1, .ref ap1), (2, .int xp2), (5, .int xp5), (6, .int y15_l6), (7, .int y15_l7)]) hx hb dX5_stakeAt_37 hl (by decide) rfl (fun ls hl => ?_)
        refine lv_iload hx hb dX5_stakeAt_39 (lv_at hl 0 rfl) ?_
        refine hp_callpi (va_runS (As := [.int x34]) (rest := []) ⟨hx, hb, hml, hown, hts⟩ (sJ6_bitCount_0f7a4 l D T x34) (va_cwS 1 hts gX5_stakeAt_J6_bitCount_0f7a4 rfl rfl rfl (by decide +kernel) ⟨Nat.le_of_ble_eq_true rfl, Nat.le_of_ble_eq_true rfl⟩) (hp_preS hG hw trivial) rfl rfl hl.1 rfl (lv_room (Nat.le_of_ble_eq_true rfl)) dX5_stakeAt_41 ⟨Nat.zero_le _, Nat.zero_le _⟩) (fun x41 bx41 => ?_)
        refine lv_istore (lv' := [(9, .int x41), (8, .int x34), (0, .ref ap0), (1, .ref ap1), (2, .int xp2), (5, .int xp5), (6, .int y15_l6), (7, .int y15_l7)]) hx hb dX5_stakeAt_44 hl (by decide) rfl (fun ls hl => ?_)
        refine lv_iload hx hb dX5_stakeAt_46 (lv_at hl 1 rfl) ?_
        refine lv_iload hx hb dX5_stakeAt_48 (lv_at hl 5 rfl) ?_
        refine lv_iand hx hb dX5_stakeAt_50 ?_
        refine lv_topi (fun x50 ex50 => ?_)
        have bx50 : iv x50 0 1023 := iv_and_l bx34 ex50
        refine lv_aload_n hx hb dX5_stakeAt_51 rfl (lv_at hl 2 rfl) ?_
        refine hp_getr hx hb hts IX5 hown hK hw.1 hp0 rfl 3 (by decide) L24 rfl dX5_stakeAt_52 ?_
        refine hp_callei (va_runSN (As := [.int x50, .ref ap0th]) (rest := []) ⟨hx, hb, hml, hown, hts⟩ (sX11_listMembers l D T x50 ap0th hp0th) ⟨va_cnB 2 hts gX5_stakeAt_X11_listMembers_n75 rfl rfl rfl hG.2.1.1 INX11 (by decide +kernel) ⟨Nat.le_of_ble_eq_true rfl, Nat.le_of_ble_eq_true rfl⟩, STX11_listMembers, trivial⟩ (hp_preS hG hw trivial) rfl rfl hl.1 rfl (lv_room (Nat.le_of_ble_eq_true rfl)) dX5_stakeAt_55 ⟨Nat.zero_le _, Nat.zero_le _⟩) hw (fun x55 st55 t55 H55 locs55 eh55 eg55 bx55 hw => ?_)
        refine lv_istore (lv' := [(10, .int x55), (9, .int x41), (8, .int x34), (0, .ref ap0), (1, .ref ap1), (2, .int xp2), (5, .int xp5), (6, .int y15_l6), (7, .int y15_l7)]) hx hb dX5_stakeAt_58 hl (by decide) rfl (fun ls hl => ?_)
        refine lv_iconst (v := 0) hx hb dX5_stakeAt_60 (by decide) ?_
        refine lv_istore (lv' := [(11, .int 0), (10, .int x55), (9, .int x41), (8, .int x34), (0, .ref ap0), (1, .ref ap1), (2, .int xp2), (5, .int xp5), (6, .int y15_l6), (7, .int y15_l7)]) hx hb dX5_stakeAt_61 hl (by decide) rfl (fun ls hl => ?_)
        have J63 : ∀ (n : Nat) (y63_l6 y63_l11 : Int32), (10 - y63_l11.toInt).toNat < n → iv y15_l7 1 11 → iv x41 0 63 → iv x55 0 10 → iv y63_l11 0 10 → ∀ (H : Heap) (locs : List Loc), hp_w D T s H locs → ∀ (ls : Array Slot), lv_has ls 14 [(0, .ref ap0), (1, .ref ap1), (2, .int xp2), (5, .int xp5), (6, .int y63_l6), (7, .int y15_l7), (9, .int x41), (10, .int x55), (11, .int y63_l11)] → WX5_stakeAt p l e s m below meth c D T ap0 ap1 xp2 xp3 xp4 xp5 H locs (F0 m 63 ls []) := by
          intro n
          induction n with
          | zero => intro y63_l6 y63_l11 hmu63 c63_y15_l7 c63_x41 c63_x55 c63_y63_l11 H63 locs63 hw ls hl; exact absurd hmu63 (Nat.not_lt_zero _)
          | succ n ih63 =>
            intro y63_l6 y63_l11 hmu63 c63_y15_l7 c63_x41 c63_x55 c63_y63_l11 H63 locs63 hw ls hl
            refine lv_iload hx hb dX5_stakeAt_63 (lv_at hl 8 rfl) ?_
            refine lv_iload hx hb dX5_stakeAt_65 (lv_at hl 7 rfl) ?_
            refine lv_icmp_ge (tgt := 120) hx hb dX5_stakeAt_67 (by decide) (fun c67 => ?_) (fun c67 => ?_)
            · obtain ⟨x120, ex120⟩ : ∃ y : Int32, y = y15_l7 + 1 := ⟨_, rfl⟩
              have bx120 : iv x120 2 12 := iv_add c63_y15_l7 (show iv 1 1 1 from ⟨by decide, by decide⟩) ex120 (by decide)
              have qx120 := iv_add_eq c63_y15_l7 (show iv 1 1 1 from ⟨by decide, by decide⟩) ex120 (by decide)
              refine lv_iinc (v := x120) (lv' := [(7, .int x120), (0, .ref ap0), (1, .ref ap1), (2, .int xp2), (5, .int xp5), (6, .int y63_l6), (9, .int x41), (10, .int x55), (11, .int y63_l11)]) hx hb dX5_stakeAt_120 hl (k := 5) rfl (by rw [ex120]; rfl) (by decide) rfl (fun ls hl => ?_)
              refine lv_goto (tgt := 15) hx hb dX5_stakeAt_123 (by decide) ?_
              exact ih15 y63_l6 x120 (mu_up 1 hmu15 (qx120) (by decide) (show iv x120 1 12 from (bx120.mono (by decide) (by decide))).2) (bx120.mono (by decide) (by decide)) H63 locs63 hw _ (lv_sub hl [1, 2, 3, 4, 5, 0] rfl)
            · have r67fp : iv y63_l11 0 9 := (iv_lt_l (iv_nle c67) c63_y63_l11 c63_x55).mono (by decide) (by decide)
              have r67fq : iv x55 1 10 := (iv_lt_r (iv_nle c67) c63_y63_l11 c63_x55).mono (by decide) (by decide)
              refine lv_iload_n hx hb dX5_stakeAt_70 rfl (lv_at hl 2 rfl) ?_
              refine lv_aload_n hx hb dX5_stakeAt_71 rfl (lv_at hl 0 rfl) ?_
              refine hp_getr hx hb hts IX5 hown hK hw.1 hp0 rfl 3 (by decide) L24 rfl dX5_stakeAt_72 ?_
              refine lv_iload hx hb dX5_stakeAt_75 (lv_at hl 8 rfl) ?_
              refine hp_ialdI hx hb hK hw.1 hp0th (vp_iv r67fp (by decide)) dX5_stakeAt_77 (fun x77 bx77 => ?_)
              refine va_mmin hx hb (by rw [hml]; exact hl.1.symm) hown Mmin123_1 Mmin123_2 Mmin123_3 Mmin123_4 (Nat.le_of_ble_eq_true rfl) (Nat.le_of_ble_eq_true rfl) (Nat.zero_le _) (Nat.zero_le _) dX5_stakeAt_78 ?_
              refine lv_topi (fun x78 ex78 => ?_)
              have bx78 : iv x78 (-2147483648) 9 := iv_min (iv_any xp2) bx77 ex78 (by decide)
              refine lv_istore (lv' := [(12, .int x78), (0, .ref ap0), (1, .ref ap1), (2, .int xp2), (5, .int xp5), (6, .int y63_l6), (7, .int y15_l7), (9, .int x41), (10, .int x55), (11, .int y63_l11)]) hx hb dX5_stakeAt_81 hl (by decide) rfl (fun ls hl => ?_)
              refine lv_iload_n hx hb dX5_stakeAt_83 rfl (lv_at hl 3 rfl) ?_
              refine lv_aload_n hx hb dX5_stakeAt_84 rfl (lv_at hl 1 rfl) ?_
              refine hp_getr hx hb hts IX5 hown hK hw.1 hp0 rfl 3 (by decide) L24 rfl dX5_stakeAt_85 ?_
              refine lv_iload hx hb dX5_stakeAt_88 (lv_at hl 9 rfl) ?_
              refine hp_ialdI hx hb hK hw.1 hp0th (vp_iv r67fp (by decide)) dX5_stakeAt_90 (fun x90 bx90 => ?_)
              refine va_mmax hx hb (by rw [hml]; exact hl.1.symm) hown Mmax128_1 Mmax128_2 Mmax128_3 Mmax128_4 (Nat.le_of_ble_eq_true rfl) (Nat.le_of_ble_eq_true rfl) (Nat.zero_le _) (Nat.zero_le _) dX5_stakeAt_91 ?_
              refine lv_topi (fun x91 ex91 => ?_)
              have bx91 : iv x91 0 2147483647 := iv_max (iv_any xp2) bx90 ex91 (by decide)
              refine lv_istore (lv' := [(13, .int x91), (12, .int x78), (0, .ref ap0), (1, .ref ap1), (2, .int xp2), (5, .int xp5), (6, .int y63_l6), (7, .int y15_l7), (9, .int x41), (10, .int x55), (11, .int y63_l11)]) hx hb dX5_stakeAt_94 hl (by decide) rfl (fun ls hl => ?_)
              refine lv_iload hx hb dX5_stakeAt_96 (lv_at hl 6 rfl) ?_
              refine lv_aload_n hx hb dX5_stakeAt_98 rfl (lv_at hl 2 rfl) ?_
              refine lv_aload_n hx hb dX5_stakeAt_99 rfl (lv_at hl 3 rfl) ?_
              refine lv_iload hx hb dX5_stakeAt_100 (lv_at hl 1 rfl) ?_
              refine lv_iload hx hb dX5_stakeAt_102 (lv_at hl 0 rfl) ?_
              refine lv_iload hx hb dX5_stakeAt_104 (lv_at hl 7 rfl) ?_
              refine lv_iload hx hb dX5_stakeAt_106 (lv_at hl 8 rfl) ?_
              refine hp_callei (va_runV (As := [.ref ap1, .int x78, .int x91, .int y15_l7, .int x41]) (rest := [.int y63_l6]) ⟨hx, hb, hml, hown, hts⟩ (sX5_worthOf l D T ap0 ap1 x78 x91 y15_l7 x41 Ru hRu ip0 ip1) (cwV 5 hts gX5_stakeAt_X5_worthOf rfl rfl rfl (by decide +kernel) ⟨Nat.le_of_ble_eq_true rfl, Nat.le_of_ble_eq_true rfl⟩) (hp_preV hG hw hp0 rfl trivial) rfl rfl hl.1 rfl (lv_room (Nat.le_of_ble_eq_true rfl)) dX5_stakeAt_108 ⟨Nat.zero_le _, Nat.zero_le _⟩) hw (fun x108 st108 t108 H108 locs108 eh108 eg108 bx108 hw => ?_)
              refine lv_iadd hx hb dX5_stakeAt_111 ?_
              refine lv_topi (fun x111 ex111 => ?_)
              refine lv_istore (lv' := [(6, .int x111), (13, .int x91), (12, .int x78), (0, .ref ap0), (1, .ref ap1), (2, .int xp2), (5, .int xp5), (7, .int y15_l7), (9, .int x41), (10, .int x55), (11, .int y63_l11)]) hx hb dX5_stakeAt_112 hl (by decide) rfl (fun ls hl => ?_)
              obtain ⟨x114, ex114⟩ : ∃ y : Int32, y = y63_l11 + 1 := ⟨_, rfl⟩
              have bx114 : iv x114 1 10 := iv_add r67fp (show iv 1 1 1 from ⟨by decide, by decide⟩) ex114 (by decide)
              have qx114 := iv_add_eq r67fp (show iv 1 1 1 from ⟨by decide, by decide⟩) ex114 (by decide)
              refine lv_iinc (v := x114) (lv' := [(11, .int x114), (6, .int x111), (13, .int x91), (12, .int x78), (0, .ref ap0), (1, .ref ap1), (2, .int xp2), (5, .int xp5), (7, .int y15_l7), (9, .int x41), (10, .int x55)]) hx hb dX5_stakeAt_114 hl (k := 10) rfl (by rw [ex114]; rfl) (by decide) rfl (fun ls hl => ?_)
              refine lv_goto (tgt := 63) hx hb dX5_stakeAt_117 (by decide) ?_
              exact ih63 x111 x114 (mu_up 1 hmu63 (qx114) (by decide) (show iv x114 0 10 from (bx114.mono (by decide) (by decide))).2) c63_y15_l7 c63_x41 (r67fq.mono (by decide) (by decide)) (bx114.mono (by decide) (by decide)) H108 locs108 hw _ (lv_sub hl [4, 5, 6, 7, 1, 8, 9, 10, 0] rfl)
        exact J63 _ y15_l6 (0 : Int32) (Nat.lt_succ_self _) r21fp bx41 bx55 (show iv 0 0 10 from ⟨by decide, by decide⟩) H55 locs55 hw _ (lv_sub hl [4, 5, 6, 7, 8, 9, 2, 1, 0] rfl)
  exact J15 _ x5 x12 (Nat.lt_succ_self _) bx12 H5 locs5 hw _ (lv_sub hl [2, 3, 4, 7, 1, 0] rfl)
abbrev WX5_gainAt (p : Program) (l : Launch) (e : Env) (s : State) (m : MethodId) (below : List Frame) (meth : Method) (c : Code) (D : hp_D) (T : hp_T) (ap0 : Nat) (ap1 : Nat) (xp2 : Int32) (xp3 : Int32) (xp4 : Int32) (H : Heap) (locs : List Loc) (g : JFrame) : Prop := W p l e (headSpec wsX5_gainAt ({ frames := 6, cells := 0, slots := 0, locals := 158 })).room s m ([.ref ap0, .ref ap1, .int xp2, .int xp3, .int xp4] : List Value).toArray below meth c H locs 0 0 (MQ below (hq_e D T (fun v _ _ => ∃ r : Int32, v = some (.int r) ∧ True)) ([.ref ap0, .ref ap1, .int xp2, .int xp3, .int xp4] : List Value).toArray s 0 0 (hp_F T)) g
set_option maxHeartbeats 4000000 in
set_option maxRecDepth 100000 in
theorem sX5_gainAt (l : Launch) (D : hp_D) (T : hp_T) (ap0 : Nat) (ap1 : Nat) (xp2 : Int32) (xp3 : Int32) (xp4 : Int32) (Ru : Nat → Prop) (hRu : ∀ b, Ru b → isRule T b) (ip0 : isShaker T Ru ap0) (ip1 : isTown T ap1) (bp3 : iv xp3 0 11) : Met l yX5_gainAt wsX5_gainAt ({ frames := 6, cells := 0, slots := 0, locals := 158 }) (hp_Pc D T [.ref ap0, .ref ap1, .int xp2, .int xp3, .int xp4] (fun _ => True)) (hq_e D T (fun v _ _ => ∃ r : Int32, v = some (.int r) ∧ True)) 0 0 (hp_F T) := by
  obtain ⟨ap0wd, ap0sk, ap0th, hp0, hp0wd, hp0sk, hp0th⟩ := id ip0
  obtain ⟨ap1kin, ap1pl, ap1cr, hp1, hp1kin, hp1pl, hp1cr⟩ := id ip1
  refine Met.ofW (cc := cX5_gainAt) (maxL := 7) (ret := (some .int)) (by decide) rfl ?_
  intro p e s m args below meth c s₁ B hml hv
  obtain ⟨rfl, hok, hG, hB⟩ := hv
  have hx := B.exec
  have hb := B.bytes
  have hr := B.returns
  have hts := atoms_spec (ws := wsX5_gainAt) B.pre
  have hown : s.vm.findClass RX5 = some m.cls := findClass_of_methodNamed B.named
  have hlocks := B.notSynchronized
  have hK := hG.1
  have hw : hp_w D T s s.heap [] := hp_w.rf hok
  have hl := lv_entry ([.ref ap0, .ref ap1, .int xp2, .int xp3, .int xp4]) (n := 7) (Nat.le_of_ble_eq_true rfl)
  rw [lg_entry_eq]
  generalize (lg_sl ([.ref ap0, .ref ap1, .int xp2, .int xp3, .int xp4]) ++ List.replicate (7 - (lg_sl ([.ref ap0, .ref ap1, .int xp2, .int xp3, .int xp4])).length) Slot.unset).toArray = ls at hl ⊢
  have hl : lv_has ls 7 [(0, .ref ap0), (1, .ref ap1), (2, .int xp2), (3, .int xp3), (4, .int xp4)] := hl
  show WX5_gainAt p l e s m below meth c D T ap0 ap1 xp2 xp3 xp4 s.heap [] (F0 m 0 ls [])
  refine lv_aload_n hx hb dX5_gainAt_0 rfl (lv_at hl 1 rfl) ?_
  refine lv_iload hx hb dX5_gainAt_1 (lv_at hl 4 rfl) ?_
  refine lv_iload_n hx hb dX5_gainAt_3 rfl (lv_at hl 3 rfl) ?_
  refine hp_callpi (va_runV (As := [.int xp4, .int xp3]) (rest := []) ⟨hx, hb, hml, hown, hts⟩ (sX8_those l D T ap1 xp4 xp3 ip1) (cwV 2 hts gX5_gainAt_X8_those rfl rfl rfl (by decide +kernel) ⟨Nat.le_of_ble_eq_true rfl, Nat.le_of_ble_eq_true rfl⟩) (hp_preV hG hw hp1 rfl trivial) rfl rfl hl.1 rfl (lv_room (Nat.le_of_ble_eq_true rfl)) dX5_gainAt_4 ⟨Nat.zero_le _, Nat.zero_le _⟩) (fun x4 bx4 => ?_)
  refine lv_iconst (v := 1) hx hb dX5_gainAt_7 (by decide) ?_
  refine lv_iload_n hx hb dX5_gainAt_8 rfl (lv_at hl 2 rfl) ?_
  refine lv_ishl hx hb dX5_gainAt_9 ?_
  refine lv_topi (fun x9 ex9 => ?_)
  refine lv_iconst (v := (-1)) hx hb dX5_gainAt_10 (by decide) ?_
  refine lv_ixor hx hb dX5_gainAt_11 ?_
  refine lv_topi (fun x11 ex11 => ?_)
  refine lv_iand hx hb dX5_gainAt_12 ?_
  refine lv_topi (fun x12 ex12 => ?_)
  have bx12 : iv x12 0 1023 := iv_and_l bx4 ex12
  refine lv_istore (lv' := [(5, .int x12), (0, .ref ap0), (1, .ref ap1), (2, .int xp2), (3, .int xp3), (4, .int xp4)]) hx hb dX5_gainAt_13 hl (by decide) rfl (fun ls hl => ?_)
  refine lv_aload_n hx hb dX5_gainAt_15 rfl (lv_at hl 2 rfl) ?_
  refine lv_iload_n hx hb dX5_gainAt_16 rfl (lv_at hl 3 rfl) ?_
  refine lv_iload_n hx hb dX5_gainAt_17 rfl (lv_at hl 4 rfl) ?_
  refine lv_iload hx hb dX5_gainAt_18 (lv_at hl 5 rfl) ?_
  refine hp_callev (va_runV (As := [.int xp2, .int xp3, .int xp4]) (rest := []) ⟨hx, hb, hml, hown, hts⟩ (sX8_moveTo l D T ap1 xp2 xp3 xp4 ip1) (cwV 3 hts gX5_gainAt_X8_moveTo rfl rfl rfl (by decide +kernel) ⟨Nat.le_of_ble_eq_true rfl, Nat.le_of_ble_eq_true rfl⟩) (hp_preV hG hw hp1 rfl trivial) rfl rfl hl.1 rfl (lv_room (Nat.le_of_ble_eq_true rfl)) dX5_gainAt_20 ⟨Nat.zero_le _, Nat.zero_le _⟩) hw (fun st20 t20 H20 locs20 eh20 eg20 bx20 hw => ?_)
  obtain ⟨bx20, g20⟩ := bx20
  rw [eh20, eg20] at g20
  refine lv_aload_n hx hb dX5_gainAt_23 rfl (lv_at hl 1 rfl) ?_
  refine lv_aload_n hx hb dX5_gainAt_24 rfl (lv_at hl 2 rfl) ?_
  refine lv_iload_n hx hb dX5_gainAt_25 rfl (lv_at hl 3 rfl) ?_
  refine lv_iload_n hx hb dX5_gainAt_26 rfl (lv_at hl 4 rfl) ?_
  refine lv_iload hx hb dX5_gainAt_27 (lv_at hl 5 rfl) ?_
  refine lv_iload hx hb dX5_gainAt_29 (lv_at hl 0 rfl) ?_
  refine hp_callei (va_runV (As := [.ref ap1, .int xp2, .int xp3, .int xp4, .int x12]) (rest := []) ⟨hx, hb, hml, hown, hts⟩ (sX5_stakeAt l D T ap0 ap1 xp2 xp3 xp4 x12 Ru hRu ip0 ip1 bp3) (cwV 5 hts gX5_gainAt_X5_stakeAt rfl rfl rfl (by decide +kernel) ⟨Nat.le_of_ble_eq_true rfl, Nat.le_of_ble_eq_true rfl⟩) (hp_preV hG hw hp0 rfl trivial) rfl rfl hl.1 rfl (lv_room (Nat.le_of_ble_eq_true rfl)) dX5_gainAt_31 ⟨Nat.zero_le _, Nat.zero_le _⟩) hw (fun x31 st31 t31 H31 locs31 eh31 eg31 bx31 hw => ?_)
  refine lv_istore (lv' := [(6, .int x31), (5, .int x12), (0, .ref ap0), (1, .ref ap1), (2, .int xp2), (3, .int xp3), (4, .int xp4)]) hx hb dX5_gainAt_34 hl (by decide) rfl (fun ls hl => ?_)
  refine lv_aload_n hx hb dX5_gainAt_36 rfl (lv_at hl 3 rfl) ?_
  refine lv_iload_n hx hb dX5_gainAt_37 rfl (lv_at hl 4 rfl) ?_
  refine lv_iload_n hx hb dX5_gainAt_38 rfl (lv_at hl 5 rfl) ?_
  refine lv_bipush (v := 99) hx hb dX5_gainAt_39 (by decide) ?_
  refine hp_callev (va_runV (As := [.int xp2, .int xp3, .int 99]) (rest := []) ⟨hx, hb, hml, hown, hts⟩ (sX8_moveTo l D T ap1 xp2 xp3 (99 : Int32) ip1) (cwV 3 hts gX5_gainAt_X8_moveTo rfl rfl rfl (by decide +kernel) ⟨Nat.le_of_ble_eq_true rfl, Nat.le_of_ble_eq_true rfl⟩) (hp_preV hG hw hp1 rfl trivial) rfl rfl hl.1 rfl (lv_room (Nat.le_of_ble_eq_true rfl)) dX5_gainAt_41 ⟨Nat.zero_le _, Nat.zero_le _⟩) hw (fun st41 t41 H41 locs41 eh41 eg41 bx41 hw => ?_)
  obtain ⟨bx41, g41⟩ := bx41
  rw [eh41, eg41] at g41
  refine lv_iload hx hb dX5_gainAt_44 (lv_at hl 0 rfl) ?_
  refine lv_aload_n hx hb dX5_gainAt_46 rfl (lv_at hl 2 rfl) ?_
  refine lv_aload_n hx hb dX5_gainAt_47 rfl (lv_at hl 3 rfl) ?_
  refine lv_iload_n hx hb dX5_gainAt_48 rfl (lv_at hl 4 rfl) ?_
  refine lv_iload_n hx hb dX5_gainAt_49 rfl (lv_at hl 5 rfl) ?_
  refine lv_iload hx hb dX5_gainAt_50 (lv_at hl 6 rfl) ?_
  refine lv_iload hx hb dX5_gainAt_52 (lv_at hl 1 rfl) ?_
  refine hp_callei (va_runV (As := [.ref ap1, .int xp2, .int xp3, .int xp4, .int x12]) (rest := [.int x31]) ⟨hx, hb, hml, hown, hts⟩ (sX5_stakeAt l D T ap0 ap1 xp2 xp3 xp4 x12 Ru hRu ip0 ip1 bp3) (cwV 5 hts gX5_gainAt_X5_stakeAt rfl rfl rfl (by decide +kernel) ⟨Nat.le_of_ble_eq_true rfl, Nat.le_of_ble_eq_true rfl⟩) (hp_preV hG hw hp0 rfl trivial) rfl rfl hl.1 rfl (lv_room (Nat.le_of_ble_eq_true rfl)) dX5_gainAt_54 ⟨Nat.zero_le _, Nat.zero_le _⟩) hw (fun x54 st54 t54 H54 locs54 eh54 eg54 bx54 hw => ?_)
  refine lv_isub hx hb dX5_gainAt_57 ?_
  refine lv_topi (fun x57 ex57 => ?_)
  exact W.iret (v := x57) hx hb hr (fun t ht hW => ⟨some (.int x57), rfl, ⟨x57, rfl, trivial⟩, by rw [ht]; exact hw.1, hw.2.F ht⟩) hw.2.2.2 dX5_gainAt_58
abbrev WX5_findCheat (p : Program) (l : Launch) (e : Env) (s : State) (m : MethodId) (below : List Frame) (meth : Method) (c : Code) (D : hp_D) (T : hp_T) (ap0 : Nat) (ap1 : Nat) (xp2 : Int32) (ap3 : Nat) (H : Heap) (locs : List Loc) (g : JFrame) : Prop := W p l e (headSpec wsX5_findCheat ({ frames := 7, cells := 0, slots := 0, locals := 184 })).room s m ([.ref ap0, .ref ap1, .int xp2, .ref ap3] : List Value).toArray below meth c H locs 0 0 (MQ below (hq_e D T (fun v _ _ => v = none ∧ True)) ([.ref ap0, .ref ap1, .int xp2, .ref ap3] : List Value).toArray s 0 0 (hp_F T)) g
set_option maxHeartbeats 4000000 in
set_option maxRecDepth 100000 in
theorem sX5_findCheat (l : Launch) (D : hp_D) (T : hp_T) (ap0 : Nat) (ap1 : Nat) (xp2 : Int32) (ap3 : Nat) (Ru : Nat → Prop) (hRu : ∀ b, Ru b → isRule T b) (ip0 : isShaker T Ru ap0) (ip1 : isTown T ap1) (ip3 : isBest T ap3) : Met l yX5_findCheat wsX5_findCheat ({ frames := 7, cells := 0, slots := 0, locals := 184 }) (hp_Pc D T [.ref ap0, .ref ap1, .int xp2, .ref ap3] (fun _ => True)) (hq_e D T (fun v _ _ => v = none ∧ True)) 0 0 (hp_F T) := by
  obtain ⟨ap0wd, ap0sk, ap0th, hp0, hp0wd, hp0sk, hp0th⟩ := id ip0
  obtain ⟨ap1kin, ap1pl, ap1cr, hp1, hp1kin, hp1pl, hp1cr⟩ := id ip1
  have hp3 : T ap3 = some (.inr (0, [(rI 0 1), rA, rA, rA])) := ip3
  refine Met.ofW (cc := cX5_findCheat) (maxL := 9) (ret := none) (by decide) rfl ?_
  intro p e s m args below meth c s₁ B hml hv
  obtain ⟨rfl, hok, hG, hB⟩ := hv
  have hx := B.exec
  have hb := B.bytes
  have hr := B.returns
  have hts := atoms_spec (ws := wsX5_findCheat) B.pre
  have hown : s.vm.findClass RX5 = some m.cls := findClass_of_methodNamed B.named
  have hlocks := B.notSynchronized
  have hK := hG.1
  have hw : hp_w D T s s.heap [] := hp_w.rf hok
  have IX8 : ∀ w ∈ wsX80, w ∈ wsX5_findCheat := by decide +kernel
  have L90 := hts (.fieldLink RX5 90 "PalmCensus$Town" "hours" "I") (by decide +kernel)
  have L83 := hts (.fieldLink RX5 83 "PalmCensus$Town" "gates" "I") (by decide +kernel)
  have hl := lv_entry ([.ref ap0, .ref ap1, .int xp2, .ref ap3]) (n := 9) (Nat.le_of_ble_eq_true rfl)
  rw [lg_entry_eq]
  generalize (lg_sl ([.ref ap0, .ref ap1, .int xp2, .ref ap3]) ++ List.replicate (9 - (lg_sl ([.ref ap0, .ref ap1, .int xp2, .ref ap3])).length) Slot.unset).toArray = ls at hl ⊢
  have hl : lv_has ls 9 [(0, .ref ap0), (1, .ref ap1), (2, .int xp2), (3, .ref ap3)] := hl
  show WX5_findCheat p l e s m below meth c D T ap0 ap1 xp2 ap3 s.heap [] (F0 m 0 ls [])
  refine lv_aload_n hx hb dX5_findCheat_0 rfl (lv_at hl 0 rfl) ?_
  refine lv_aload_n hx hb dX5_findCheat_1 rfl (lv_at hl 1 rfl) ?_
  refine hp_callei (va_runV (As := [.ref ap1]) (rest := []) ⟨hx, hb, hml, hown, hts⟩ (sX5_totalOf l D T ap0 ap1 Ru hRu ip0 ip1) (cwV 1 hts gX5_findCheat_X5_totalOf rfl rfl rfl (by decide +kernel) ⟨Nat.le_of_ble_eq_true rfl, Nat.le_of_ble_eq_true rfl⟩) (hp_preV hG hw hp0 rfl trivial) rfl rfl hl.1 rfl (lv_room (Nat.le_of_ble_eq_true rfl)) dX5_findCheat_2 ⟨Nat.zero_le _, Nat.zero_le _⟩) hw (fun x2 st2 t2 H2 locs2 eh2 eg2 bx2 hw => ?_)
  refine lv_istore (lv' := [(4, .int x2), (0, .ref ap0), (1, .ref ap1), (2, .int xp2), (3, .ref ap3)]) hx hb dX5_findCheat_5 hl (by decide) rfl (fun ls hl => ?_)
  refine lv_aload_n hx hb dX5_findCheat_7 rfl (lv_at hl 4 rfl) ?_
  refine hp_callev (va_runV (As := []) (rest := []) ⟨hx, hb, hml, hown, hts⟩ (sX0_forget l D T ap3 ip3) (cwV 0 hts gX5_findCheat_X0_forget rfl rfl rfl (by decide +kernel) ⟨Nat.le_of_ble_eq_true rfl, Nat.le_of_ble_eq_true rfl⟩) (hp_preV hG hw hp3 rfl trivial) rfl rfl hl.1 rfl (lv_room (Nat.le_of_ble_eq_true rfl)) dX5_findCheat_8 ⟨Nat.zero_le _, Nat.zero_le _⟩) hw (fun st8 t8 H8 locs8 eh8 eg8 bx8 hw => ?_)
  refine lv_iconst (v := 0) hx hb dX5_findCheat_11 (by decide) ?_
  refine lv_istore (lv' := [(5, .int 0), (4, .int x2), (0, .ref ap0), (1, .ref ap1), (2, .int xp2), (3, .ref ap3)]) hx hb dX5_findCheat_12 hl (by decide) rfl (fun ls hl => ?_)
  have J14 : ∀ (n : Nat) (y14_l5 : Int32), (12 - y14_l5.toInt).toNat < n → iv y14_l5 0 12 → ∀ (H : Heap) (locs : List Loc), hp_w D T s H locs → ∀ (ls : Array Slot), lv_has ls 9 [(0, .ref ap0), (1, .ref ap1), (2, .int xp2), (3, .ref ap3), (4, .int x2), (5, .int y14_l5)] → WX5_findCheat p l e s m below meth c D T ap0 ap1 xp2 ap3 H locs (F0 m 14 ls []) := by
    intro n
    induction n with
    | zero => intro y14_l5 hmu14 c14_y14_l5 H14 locs14 hw ls hl; exact absurd hmu14 (Nat.not_lt_zero _)
    | succ n ih14 =>
      intro y14_l5 hmu14 c14_y14_l5 H14 locs14 hw ls hl
      refine lv_iload hx hb dX5_findCheat_14 (lv_at hl 5 rfl) ?_
      refine lv_aload_n hx hb dX5_findCheat_16 rfl (lv_at hl 1 rfl) ?_
      refine hp_geti hx hb hts IX8 hown hK hw.1 hp1 rfl 1 (by decide) L90 rfl dX5_findCheat_17 (fun x17 bx17 fx17 => ?_)
      refine lv_icmp_ge (tgt := 125) hx hb dX5_findCheat_20 (by decide) (fun c20 => ?_) (fun c20 => ?_)
      · exact W.vret hx hb hr (fun t ht hW => ⟨none, rfl, ⟨rfl, trivial⟩, by rw [ht]; exact hw.1, hw.2.F ht⟩) hw.2.2.2 dX5_findCheat_125
      · have r20fp : iv y14_l5 0 11 := (iv_lt_l (iv_nle c20) c14_y14_l5 bx17).mono (by decide) (by decide)
        have r20fq : iv x17 1 12 := (iv_lt_r (iv_nle c20) c14_y14_l5 bx17).mono (by decide) (by decide)
        refine lv_aload_n hx hb dX5_findCheat_23 rfl (lv_at hl 1 rfl) ?_
        refine lv_iload_n hx hb dX5_findCheat_24 rfl (lv_at hl 2 rfl) ?_
        refine lv_iload hx hb dX5_findCheat_25 (lv_at hl 5 rfl) ?_
        refine hp_callpi (va_runV (As := [.int xp2, .int y14_l5]) (rest := []) ⟨hx, hb, hml, hown, hts⟩ (sX8_placeOf l D T ap1 xp2 y14_l5 ip1) (cwV 2 hts gX5_findCheat_X8_placeOf rfl rfl rfl (by decide +kernel) ⟨Nat.le_of_ble_eq_true rfl, Nat.le_of_ble_eq_true rfl⟩) (hp_preV hG hw hp1 rfl trivial) rfl rfl hl.1 rfl (lv_room (Nat.le_of_ble_eq_true rfl)) dX5_findCheat_27 ⟨Nat.zero_le _, Nat.zero_le _⟩) (fun x27 bx27 => ?_)
        refine lv_istore (lv' := [(6, .int x27), (0, .ref ap0), (1, .ref ap1), (2, .int xp2), (3, .ref ap3), (4, .int x2), (5, .int y14_l5)]) hx hb dX5_findCheat_30 hl (by decide) rfl (fun ls hl => ?_)
        refine lv_iload hx hb dX5_findCheat_32 (lv_at hl 5 rfl) ?_
        refine lv_aload_n hx hb dX5_findCheat_34 rfl (lv_at hl 1 rfl) ?_
        refine lv_aload_n hx hb dX5_findCheat_35 rfl (lv_at hl 2 rfl) ?_
        refine lv_iload_n hx hb dX5_findCheat_36 rfl (lv_at hl 3 rfl) ?_
        refine lv_iload hx hb dX5_findCheat_37 (lv_at hl 6 rfl) ?_
        refine lv_iload hx hb dX5_findCheat_39 (lv_at hl 0 rfl) ?_
        refine hp_callei (va_runV (As := [.ref ap1, .int xp2, .int y14_l5, .int x27]) (rest := [.int x2]) ⟨hx, hb, hml, hown, hts⟩ (sX5_gainAt l D T ap0 ap1 xp2 y14_l5 x27 Ru hRu ip0 ip1 r20fp) (cwV 4 hts gX5_findCheat_X5_gainAt rfl rfl rfl (by decide +kernel) ⟨Nat.le_of_ble_eq_true rfl, Nat.le_of_ble_eq_true rfl⟩) (hp_preV hG hw hp0 rfl trivial) rfl rfl hl.1 rfl (lv_room (Nat.le_of_ble_eq_true rfl)) dX5_findCheat_41 ⟨Nat.zero_le _, Nat.zero_le _⟩) hw (fun x41 st41 t41 H41 locs41 eh41 eg41 bx41 hw => ?_)
        refine lv_isub hx hb dX5_findCheat_44 ?_
        refine lv_topi (fun x44 ex44 => ?_)
        refine lv_istore (lv' := [(7, .int x44), (6, .int x27), (0, .ref ap0), (1, .ref ap1), (2, .int xp2), (3, .ref ap3), (4, .int x2), (5, .int y14_l5)]) hx hb dX5_findCheat_45 hl (by decide) rfl (fun ls hl => ?_)
        refine lv_iload hx hb dX5_findCheat_47 (lv_at hl 1 rfl) ?_
        refine lv_bipush (v := 99) hx hb dX5_findCheat_49 (by decide) ?_
        have J64 : iv y14_l5 0 11 → ∀ (H : Heap) (locs : List Loc), hp_w D T s H locs → ∀ (ls : Array Slot), lv_has ls 9 [(0, .ref ap0), (1, .ref ap1), (2, .int xp2), (3, .ref ap3), (4, .int x2), (5, .int y14_l5), (6, .int x27), (7, .int x44)] → WX5_findCheat p l e s m below meth c D T ap0 ap1 xp2 ap3 H locs (F0 m 64 ls []) := by
          intro c64_y14_l5 H64 locs64 hw ls hl
          refine lv_iconst (v := 0) hx hb dX5_findCheat_64 (by decide) ?_
          refine lv_istore (lv' := [(8, .int 0), (0, .ref ap0), (1, .ref ap1), (2, .int xp2), (3, .ref ap3), (4, .int x2), (5, .int y14_l5), (6, .int x27), (7, .int x44)]) hx hb dX5_findCheat_65 hl (by decide) rfl (fun ls hl => ?_)
          have J67 : ∀ (n : Nat) (y67_l8 : Int32), (6 - y67_l8.toInt).toNat < n → iv y14_l5 0 11 → iv y67_l8 0 6 → ∀ (H : Heap) (locs : List Loc), hp_w D T s H locs → ∀ (ls : Array Slot), lv_has ls 9 [(0, .ref ap0), (1, .ref ap1), (2, .int xp2), (3, .ref ap3), (4, .int x2), (5, .int y14_l5), (6, .int x27), (7, .int x44), (8, .int y67_l8)] → WX5_findCheat p l e s m below meth c D T ap0 ap1 xp2 ap3 H locs (F0 m 67 ls []) := by
            intro n
            induction n with
            | zero => intro y67_l8 hmu67 c67_y14_l5 c67_y67_l8 H67 locs67 hw ls hl; exact absurd hmu67 (Nat.not_lt_zero _)
            | succ n ih67 =>
              intro y67_l8 hmu67 c67_y14_l5 c67_y67_l8 H67 locs67 hw ls hl
              refine lv_iload hx hb dX5_findCheat_67 (lv_at hl 8 rfl) ?_
              refine lv_aload_n hx hb dX5_findCheat_69 rfl (lv_at hl 1 rfl) ?_
              refine hp_geti hx hb hts IX8 hown hK hw.1 hp1 rfl 0 (by decide) L83 rfl dX5_findCheat_70 (fun x70 bx70 fx70 => ?_)
              refine lv_icmp_ge (tgt := 110) hx hb dX5_findCheat_73 (by decide) (fun c73 => ?_) (fun c73 => ?_)
              · refine lv_aload_n hx hb dX5_findCheat_110 rfl (lv_at hl 1 rfl) ?_
                refine lv_iload_n hx hb dX5_findCheat_111 rfl (lv_at hl 2 rfl) ?_
                refine lv_iload hx hb dX5_findCheat_112 (lv_at hl 5 rfl) ?_
                refine lv_iload hx hb dX5_findCheat_114 (lv_at hl 6 rfl) ?_
                refine hp_callev (va_runV (As := [.int xp2, .int y14_l5, .int x27]) (rest := []) ⟨hx, hb, hml, hown, hts⟩ (sX8_moveTo l D T ap1 xp2 y14_l5 x27 ip1) (cwV 3 hts gX5_findCheat_X8_moveTo rfl rfl rfl (by decide +kernel) ⟨Nat.le_of_ble_eq_true rfl, Nat.le_of_ble_eq_true rfl⟩) (hp_preV hG hw hp1 rfl trivial) rfl rfl hl.1 rfl (lv_room (Nat.le_of_ble_eq_true rfl)) dX5_findCheat_116 ⟨Nat.zero_le _, Nat.zero_le _⟩) hw (fun st116 t116 H116 locs116 eh116 eg116 bx116 hw => ?_)
                obtain ⟨bx116, g116⟩ := bx116
                rw [eh116, eg116] at g116
                obtain ⟨x119, ex119⟩ : ∃ y : Int32, y = y14_l5 + 1 := ⟨_, rfl⟩
                have bx119 : iv x119 1 12 := iv_add c67_y14_l5 (show iv 1 1 1 from ⟨by decide, by decide⟩) ex119 (by decide)
                have qx119 := iv_add_eq c67_y14_l5 (show iv 1 1 1 from ⟨by decide, by decide⟩) ex119 (by decide)
                refine lv_iinc (v := x119) (lv' := [(5, .int x119), (0, .ref ap0), (1, .ref ap1), (2, .int xp2), (3, .ref ap3), (4, .int x2), (6, .int x27), (7, .int x44), (8, .int y67_l8)]) hx hb dX5_findCheat_119 hl (k := 5) rfl (by rw [ex119]; rfl) (by decide) rfl (fun ls hl => ?_)
                refine lv_goto (tgt := 14) hx hb dX5_findCheat_122 (by decide) ?_
                exact ih14 x119 (mu_up 1 hmu14 (qx119) (by decide) (show iv x119 0 12 from (bx119.mono (by decide) (by decide))).2) (bx119.mono (by decide) (by decide)) H116 locs116 hw _ (lv_sub hl [1, 2, 3, 4, 5, 0] rfl)
              · have r73fp : iv y67_l8 0 5 := (iv_lt_l (iv_nle c73) c67_y67_l8 bx70).mono (by decide) (by decide)
                have r73fq : iv x70 1 6 := (iv_lt_r (iv_nle c73) c67_y67_l8 bx70).mono (by decide) (by decide)
                refine lv_iload hx hb dX5_findCheat_76 (lv_at hl 8 rfl) ?_
                refine lv_iload hx hb dX5_findCheat_78 (lv_at hl 6 rfl) ?_
                have J104 : iv y14_l5 0 11 → iv y67_l8 0 5 → ∀ (H : Heap) (locs : List Loc), hp_w D T s H locs → ∀ (ls : Array Slot), lv_has ls 9 [(0, .ref ap0), (1, .ref ap1), (2, .int xp2), (3, .ref ap3), (4, .int x2), (5, .int y14_l5), (6, .int x27), (7, .int x44), (8, .int y67_l8)] → WX5_findCheat p l e s m below meth c D T ap0 ap1 xp2 ap3 H locs (F0 m 104 ls []) := by
                  intro c104_y14_l5 c104_y67_l8 H104 locs104 hw ls hl
                  obtain ⟨x104, ex104⟩ : ∃ y : Int32, y = y67_l8 + 1 := ⟨_, rfl⟩
                  have bx104 : iv x104 1 6 := iv_add c104_y67_l8 (show iv 1 1 1 from ⟨by decide, by decide⟩) ex104 (by decide)
                  have qx104 := iv_add_eq c104_y67_l8 (show iv 1 1 1 from ⟨by decide, by decide⟩) ex104 (by decide)
                  refine lv_iinc (v := x104) (lv' := [(8, .int x104), (0, .ref ap0), (1, .ref ap1), (2, .int xp2), (3, .ref ap3), (4, .int x2), (5, .int y14_l5), (6, .int x27), (7, .int x44)]) hx hb dX5_findCheat_104 hl (k := 8) rfl (by rw [ex104]; rfl) (by decide) rfl (fun ls hl => ?_)
                  refine lv_goto (tgt := 67) hx hb dX5_findCheat_107 (by decide) ?_
                  exact ih67 x104 (mu_up 1 hmu67 (qx104) (by decide) (show iv x104 0 6 from (bx104.mono (by decide) (by decide))).2) c104_y14_l5 (bx104.mono (by decide) (by decide)) H104 locs104 hw _ (lv_sub hl [1, 2, 3, 4, 5, 6, 7, 8, 0] rfl)
                refine lv_icmp_eq (tgt := 104) hx hb dX5_findCheat_80 (by decide) (fun c80 => ?_) (fun c80 => ?_)
                · have r80tq : iv x27 0 5 := (iv_both (iv_any x27) (iv_eq r73fp c80.symm)).mono (by decide) (by decide)
                  exact J104 c67_y14_l5 r73fp H67 locs67 hw _ (lv_sub hl [0, 1, 2, 3, 4, 5, 6, 7, 8] rfl)
                · refine lv_aload_n hx hb dX5_findCheat_83 rfl (lv_at hl 3 rfl) ?_
                  refine lv_iload hx hb dX5_findCheat_84 (lv_at hl 7 rfl) ?_
                  refine lv_aload_n hx hb dX5_findCheat_86 rfl (lv_at hl 0 rfl) ?_
                  refine lv_aload_n hx hb dX5_findCheat_87 rfl (lv_at hl 1 rfl) ?_
                  refine lv_iload_n hx hb dX5_findCheat_88 rfl (lv_at hl 2 rfl) ?_
                  refine lv_iload hx hb dX5_findCheat_89 (lv_at hl 5 rfl) ?_
                  refine lv_iload hx hb dX5_findCheat_91 (lv_at hl 8 rfl) ?_
                  refine hp_callei (va_runV (As := [.ref ap1, .int xp2, .int y14_l5, .int y67_l8]) (rest := [.int x44, .ref ap3]) ⟨hx, hb, hml, hown, hts⟩ (sX5_gainAt l D T ap0 ap1 xp2 y14_l5 y67_l8 Ru hRu ip0 ip1 c67_y14_l5) (cwV 4 hts gX5_findCheat_X5_gainAt rfl rfl rfl (by decide +kernel) ⟨Nat.le_of_ble_eq_true rfl, Nat.le_of_ble_eq_true rfl⟩) (hp_preV hG hw hp0 rfl trivial) rfl rfl hl.1 rfl (lv_room (Nat.le_of_ble_eq_true rfl)) dX5_findCheat_93 ⟨Nat.zero_le _, Nat.zero_le _⟩) hw (fun x93 st93 t93 H93 locs93 eh93 eg93 bx93 hw => ?_)
                  refine lv_iadd hx hb dX5_findCheat_96 ?_
                  refine lv_topi (fun x96 ex96 => ?_)
                  refine lv_iload hx hb dX5_findCheat_97 (lv_at hl 5 rfl) ?_
                  refine lv_iload hx hb dX5_findCheat_99 (lv_at hl 8 rfl) ?_
                  refine hp_callev (va_runV (As := [.int x96, .int y14_l5, .int y67_l8]) (rest := []) ⟨hx, hb, hml, hown, hts⟩ (sX0_offer l D T ap3 x96 y14_l5 y67_l8 ip3) (cwV 3 hts gX5_findCheat_X0_offer rfl rfl rfl (by decide +kernel) ⟨Nat.le_of_ble_eq_true rfl, Nat.le_of_ble_eq_true rfl⟩) (hp_preV hG hw hp3 rfl trivial) rfl rfl hl.1 rfl (lv_room (Nat.le_of_ble_eq_true rfl)) dX5_findCheat_101 ⟨Nat.zero_le _, Nat.zero_le _⟩) hw (fun st101 t101 H101 locs101 eh101 eg101 bx101 hw => ?_)
                  exact J104 c67_y14_l5 r73fp H101 locs101 hw _ (lv_sub hl [0, 1, 2, 3, 4, 5, 6, 7, 8] rfl)
          exact J67 _ (0 : Int32) (Nat.lt_succ_self _) c64_y14_l5 (show iv 0 0 6 from ⟨by decide, by decide⟩) H64 locs64 hw _ (lv_sub hl [1, 2, 3, 4, 5, 6, 7, 8, 0] rfl)
        refine lv_icmp_eq (tgt := 64) hx hb dX5_findCheat_51 (by decide) (fun c51 => ?_) (fun c51 => ?_)
        · have r51tp : iv x27 99 99 := (iv_both (iv_any x27) (iv_eq (show iv 99 99 99 from ⟨by decide, by decide⟩) c51)).mono (by decide) (by decide)
          exact J64 r20fp H41 locs41 hw _ (lv_sub hl [2, 3, 4, 5, 6, 7, 1, 0] rfl)
        · refine lv_aload_n hx hb dX5_findCheat_54 rfl (lv_at hl 5 rfl) ?_
          refine lv_iload hx hb dX5_findCheat_55 (lv_at hl 0 rfl) ?_
          refine lv_iload hx hb dX5_findCheat_57 (lv_at hl 7 rfl) ?_
          refine lv_bipush (v := 99) hx hb dX5_findCheat_59 (by decide) ?_
          refine hp_callev (va_runV (As := [.int x44, .int y14_l5, .int 99]) (rest := []) ⟨hx, hb, hml, hown, hts⟩ (sX0_offer l D T ap3 x44 y14_l5 (99 : Int32) ip3) (cwV 3 hts gX5_findCheat_X0_offer rfl rfl rfl (by decide +kernel) ⟨Nat.le_of_ble_eq_true rfl, Nat.le_of_ble_eq_true rfl⟩) (hp_preV hG hw hp3 rfl trivial) rfl rfl hl.1 rfl (lv_room (Nat.le_of_ble_eq_true rfl)) dX5_findCheat_61 ⟨Nat.zero_le _, Nat.zero_le _⟩) hw (fun st61 t61 H61 locs61 eh61 eg61 bx61 hw => ?_)
          exact J64 r20fp H61 locs61 hw _ (lv_sub hl [2, 3, 4, 5, 6, 7, 1, 0] rfl)
  exact J14 _ (0 : Int32) (Nat.lt_succ_self _) (show iv 0 0 12 from ⟨by decide, by decide⟩) H8 locs8 hw _ (lv_sub hl [2, 3, 4, 5, 1, 0] rfl)
abbrev WX1_settle (p : Program) (l : Launch) (e : Env) (s : State) (m : MethodId) (below : List Frame) (meth : Method) (c : Code) (D : hp_D) (T : hp_T) (ap0 : Nat) (ap1 : Nat) (H : Heap) (locs : List Loc) (g : JFrame) : Prop := W p l e (headSpec wsX1_settle ({ frames := 2, cells := 0, slots := 0, locals := 60 })).room s m ([.ref ap0, .ref ap1] : List Value).toArray below meth c H locs 0 0 (MQ below (hq_e D T (fun v _ _ => v = none ∧ True)) ([.ref ap0, .ref ap1] : List Value).toArray s 0 0 (hp_F T)) g
set_option maxHeartbeats 4000000 in
set_option maxRecDepth 100000 in
theorem sX1_settle (l : Launch) (D : hp_D) (T : hp_T) (ap0 : Nat) (ap1 : Nat) (pxp0 : Value → Prop) (ip0 : isMemory T ap0 pxp0) (ip1 : isTown T ap1) : Met l yX1_settle wsX1_settle ({ frames := 2, cells := 0, slots := 0, locals := 60 }) (hp_Pc D T [.ref ap0, .ref ap1] (fun _ => True)) (hq_e D T (fun v _ _ => v = none ∧ True)) 0 0 (hp_F T) := by
  obtain ⟨ap0tw, ap0tg, ap0th, ap0ts, ap0pm, ap0ak, ap0ao, ap0ah, ap0aw, hp0, ip0tw, hp0tg, hp0th, hp0ts, hp0pm, hp0ak, hp0ao, hp0ah, hp0aw⟩ := id ip0
  obtain ⟨ap0twkin, ap0twpl, ap0twcr, hp0tw, hp0twkin, hp0twpl, hp0twcr⟩ := id ip0tw
  obtain ⟨ap1kin, ap1pl, ap1cr, hp1, hp1kin, hp1pl, hp1cr⟩ := id ip1
  refine Met.ofW (cc := cX1_settle) (maxL := 2) (ret := none) (by decide) rfl ?_
  intro p e s m args below meth c s₁ B hml hv
  obtain ⟨rfl, hok, hG, hB⟩ := hv
  have hx := B.exec
  have hb := B.bytes
  have hr := B.returns
  have hts := atoms_spec (ws := wsX1_settle) B.pre
  have hown : s.vm.findClass RX1 = some m.cls := findClass_of_methodNamed B.named
  have hlocks := B.notSynchronized
  have hK := hG.1
  have hw : hp_w D T s s.heap [] := hp_w.rf hok
  have IX1 : ∀ w ∈ wsX10, w ∈ wsX1_settle := by decide +kernel
  have L12 := hts (.fieldLink RX1 12 "PalmCensus$Memory" "town" "LPalmCensus$Town;") (by decide +kernel)
  have L25 := hts (.fieldLink RX1 25 "PalmCensus$Memory" "toldCount" "I") (by decide +kernel)
  have L38 := hts (.fieldLink RX1 38 "PalmCensus$Memory" "palms" "[I") (by decide +kernel)
  have L41 := hts (.fieldLink RX1 41 "PalmCensus$Memory" "acts" "I") (by decide +kernel)
  have hl := lv_entry ([.ref ap0, .ref ap1]) (n := 2) (Nat.le_of_ble_eq_true rfl)
  rw [lg_entry_eq]
  generalize (lg_sl ([.ref ap0, .ref ap1]) ++ List.replicate (2 - (lg_sl ([.ref ap0, .ref ap1])).length) Slot.unset).toArray = ls at hl ⊢
  have hl : lv_has ls 2 [(0, .ref ap0), (1, .ref ap1)] := hl
  show WX1_settle p l e s m below meth c D T ap0 ap1 s.heap [] (F0 m 0 ls [])
  refine lv_aload_n hx hb dX1_settle_0 rfl (lv_at hl 0 rfl) ?_
  refine hp_getr hx hb hts IX1 hown hK hw.1 hp0 rfl 0 (by decide) L12 rfl dX1_settle_1 ?_
  refine lv_aload_n hx hb dX1_settle_4 rfl (lv_at hl 1 rfl) ?_
  refine hp_callev (va_runV (As := [.ref ap1]) (rest := []) ⟨hx, hb, hml, hown, hts⟩ (sX8_copyFrom l D T ap0tw ap1 ip0tw ip1) (cwV 1 hts gX1_settle_X8_copyFrom rfl rfl rfl (by decide +kernel) ⟨Nat.le_of_ble_eq_true rfl, Nat.le_of_ble_eq_true rfl⟩) (hp_preV hG hw hp0tw rfl trivial) rfl rfl hl.1 rfl (lv_room (Nat.le_of_ble_eq_true rfl)) dX1_settle_5 ⟨Nat.zero_le _, Nat.zero_le _⟩) hw (fun st5 t5 H5 locs5 eh5 eg5 bx5 hw => ?_)
  refine lv_aload_n hx hb dX1_settle_8 rfl (lv_at hl 0 rfl) ?_
  refine lv_iconst (v := 0) hx hb dX1_settle_9 (by decide) ?_
  refine hp_put hx hb hts IX1 tyX1 tyX1_ok nmX1 hown hK hw hp0 rfl 3 (by decide) L25 rfl rfl ⟨_, rfl, (show iv 0 0 10 from ⟨by decide, by decide⟩)⟩ rfl rfl dX1_settle_10 (fun H10 locs10 hw f10n g10 => ?_)
  refine lv_aload_n hx hb dX1_settle_13 rfl (lv_at hl 0 rfl) ?_
  refine hp_getr hx hb hts IX1 hown hK hw.1 hp0 rfl 7 (by decide) L38 rfl dX1_settle_14 ?_
  refine lv_iconst (v := (-1)) hx hb dX1_settle_17 (by decide) ?_
  refine hp_callev (va_runS (As := [.ref ap0pm, .int (-1)]) (rest := []) ⟨hx, hb, hml, hown, hts⟩ (sJ7_fill l D T ap0pm ((-1) : Int32) 10 rA hp0pm (by decide) ⟨_, rfl⟩) (va_cwS 2 hts gX1_settle_J7_fill_53178 rfl rfl rfl (by decide +kernel) ⟨Nat.le_of_ble_eq_true rfl, Nat.le_of_ble_eq_true rfl⟩) (hp_preS hG hw trivial) rfl rfl hl.1 rfl (lv_room (Nat.le_of_ble_eq_true rfl)) dX1_settle_18 ⟨Nat.zero_le _, Nat.zero_le _⟩) hw (fun st18 t18 H18 locs18 eh18 eg18 b18 hw => ?_)
  obtain ⟨-, g18⟩ := b18
  rw [eh18, eg18] at g18
  refine lv_aload_n hx hb dX1_settle_21 rfl (lv_at hl 0 rfl) ?_
  refine lv_iconst (v := 0) hx hb dX1_settle_22 (by decide) ?_
  refine hp_put hx hb hts IX1 tyX1 tyX1_ok nmX1 hown hK hw hp0 rfl 8 (by decide) L41 rfl rfl ⟨_, rfl, (show iv 0 0 20 from ⟨by decide, by decide⟩)⟩ rfl rfl dX1_settle_23 (fun H23 locs23 hw f23n g23 => ?_)
  exact W.vret hx hb hr (fun t ht hW => ⟨none, rfl, ⟨rfl, trivial⟩, by rw [ht]; exact hw.1, hw.2.F ht⟩) hw.2.2.2 dX1_settle_26
