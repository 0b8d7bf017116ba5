/-! THE REFERENCE AS THE LAW CALLS IT -/
theorem met_mono {l : Launch} {y : MethodName} {ws : List Cond} {rm : Room} {Pc Pd : Array Value → State → Prop} {Qc Qd : Array Value → State → Outcome → State → Prop} {mc ms : Nat} {free fred : Addr → Prop} (h : Met l y ws rm Pc Qc mc ms free) (hP : ∀ a s, Pd a s → Pc a s) (hQ : ∀ a s o t, Pd a s → Qc a s o t → Qd a s o t) (hf : ∀ q, free q → fred q) : Met l y ws rm Pd Qd mc ms fred :=
  MetFree.mono h hP (fun _ _ _ _ _ h => h) (fun a s o t hp hq => ⟨hQ a s o t hp hq.1, hq.2.imp (fun L hL => ⟨hL.1, fun q hq2 => hf _ (hL.2 q hq2)⟩)⟩)
theorem met_ex {ι : Type} {l : Launch} {y : MethodName} {ws : List Cond} {rm : Room} {Pc : ι → Array Value → State → Prop} {Qc : ι → Array Value → State → Outcome → State → Prop} {Qd : Array Value → State → Outcome → State → Prop} {mc ms : Nat} {fred : Addr → Prop} (h : ∀ i, Met l y ws rm (Pc i) (Qc i) mc ms fred) (hQ : ∀ i a s o t, Pc i a s → Qc i a s o t → Qd a s o t) : Met l y ws rm (fun a s => ∃ i, Pc i a s) Qd mc ms fred :=
  MetFree.mono (MetFree.ex h) (fun _ _ h => h) (fun _ _ _ _ _ h => h) (fun a s o t _ hq => by
    obtain ⟨i, hp, hq1, hq2⟩ := hq
    exact ⟨hQ i a s o t hp hq1, hq2⟩)
/-- the reference, with its x, its images' x and which of them were made -/
def mW (T : hp_T) (a : Nat) (A : Nat → Nat) (x : Int32) (X M : Nat → Int32) : Prop := ∃ Gm : moG, isMA T a A Gm ∧ gx Gm = rV (.int x) ∧ gs Gm = sP ∧ (∀ j, gX Gm j = rV (.int (X j))) ∧ (∀ j, gM Gm j = rV (.int (M j)))
def lm_q (D : hp_D) (T : hp_T) (post : Option Value → hp_T → Prop) : Array Value → State → Outcome → State → Prop := fun _ st oc t => ∃ (v : Option Value) (T1 : hp_T), oc = .returned v ∧ post v T1 ∧ hp_ok D T1 t.heap ∧ (∀ q, hp_F T1 q → hp_F T q) ∧ va_F (hp_F T) st t
def lm_r (a : Nat) (A : Nat → Nat) (x : Int32) (X M : Nat → Int32) : Option Value → hp_T → Prop := fun v T1 => (∃ r : Int32, v = some (.int r)) ∧ mW T1 a A x X M
theorem lm_e {l : Launch} {D : hp_D} {T : hp_T} {a : Nat} {A : Nat → Nat} {x : Int32} {X M : Nat → Int32} {y : MethodName} {ws : List Cond} {rm : Room} {av : List Value} {post : Option Value → State → State → Prop} (h : Met l y ws rm (hp_Pc D T av (fun _ => True)) (hq_e D T post) 0 0 (hp_F T)) (hp : ∀ v st t, post v st t → ∃ r : Int32, v = some (.int r)) (w : mW T a A x X M) : Met l y ws rm (hp_Pc D T av (fun _ => True)) (lm_q D T (lm_r a A x X M)) 0 0 (hp_F T) :=
  met_mono h (fun _ _ h => h) (fun av U oc t _ hq => by
    obtain ⟨v, ho, hv, hok, hf⟩ := hq
    exact ⟨v, T, ho, ⟨hp v U t hv, w⟩, hok, fun _ h => h, hf⟩) (fun _ h => h)
theorem lm_p {l : Launch} {D : hp_D} {T : hp_T} {a : Nat} {A : Nat → Nat} {x : Int32} {X M : Nat → Int32} {y : MethodName} {ws : List Cond} {rm : Room} {av : List Value} {post : Option Value → Prop} (h : Met l y ws rm (hp_Pc D T av (fun _ => True)) (hq_p post) 0 0 (fun _ => False)) (hp : ∀ v, post v → ∃ r : Int32, v = some (.int r)) (w : mW T a A x X M) : Met l y ws rm (hp_Pc D T av (fun _ => True)) (lm_q D T (lm_r a A x X M)) 0 0 (hp_F T) :=
  met_mono h (fun _ _ h => h) (fun av U oc t hpre hq => by
    obtain ⟨v, ho, hv, hh⟩ := hq
    exact ⟨v, T, ho, ⟨hp v hv, w⟩, by rw [hh]; exact hpre.2.1, fun _ h => h, by rw [hh]; exact Nat.le_refl _, fun q _ _ => by rw [hh]⟩) (fun _ h => h.elim)
theorem hp_G.nar {D : hp_D} {T T' : hp_T} {U : State} (h : hp_G D T U) (g : ∀ q, hp_F T' q → hp_F T q) : hp_G D T' U := ⟨h.1, h.2.1, h.2.2.1, h.2.2.2.narrow g⟩
theorem lX12_feed (l : Launch) (D : hp_D) (T : hp_T) (a : Nat) (A : Nat → Nat) (x : Int32) (X M : Nat → Int32) (w : mW T a A x X M) (x1 x2 x3 x4 x5 : Int32)  : Met l yX12_feed wsX12_feed ({ frames := 1, cells := 0, slots := 0, locals := 22 }) (hp_Pc D T [.ref a, .int x1, .int x2, .int x3, .int x4, .int x5] (fun _ => True)) (lm_q D T (lm_r a A x X M)) 0 0 (hp_F T) := by
  obtain ⟨Gm, i, e1, e2, e3, e4⟩ := id w
  exact lm_e (sX12_feed l D T a x1 x2 x3 x4 x5 Gm i.mo ) (fun v _ _ h => by obtain ⟨r, h, -⟩ := h; exact ⟨r, h⟩) w
theorem lX12_end (l : Launch) (D : hp_D) (T : hp_T) (a : Nat) (A : Nat → Nat) (x : Int32) (X M : Nat → Int32) (w : mW T a A x X M) (x1 : Int32)  : Met l yX12_end wsX12_end ({ frames := 0, cells := 0, slots := 0, locals := 0 }) (hp_Pc D T [.ref a, .int x1] (fun _ => True)) (lm_q D T (lm_r a A x X M)) 0 0 (hp_F T) := by
  obtain ⟨Gm, i, e1, e2, e3, e4⟩ := id w
  exact lm_e (sX12_end l D T a x1 Gm i.mo ) (fun v _ _ h => by obtain ⟨r, h, -⟩ := h; exact ⟨r, h⟩) w
theorem lX12_force (l : Launch) (D : hp_D) (T : hp_T) (a : Nat) (A : Nat → Nat) (x : Int32) (X M : Nat → Int32) (w : mW T a A x X M) (x1 : Int32)  : Met l yX12_force wsX12_force ({ frames := 1, cells := 0, slots := 0, locals := 21 }) (hp_Pc D T [.ref a, .int x1] (fun _ => True)) (lm_q D T (lm_r a A x X M)) 0 0 (hp_F T) := by
  obtain ⟨Gm, i, e1, e2, e3, e4⟩ := id w
  exact lm_e (sX12_force l D T a x1 Gm i.mo ) (fun v _ _ h => by obtain ⟨r, h, -⟩ := h; exact ⟨r, h⟩) w
theorem lX12_at (l : Launch) (D : hp_D) (T : hp_T) (a : Nat) (A : Nat → Nat) (x : Int32) (X M : Nat → Int32) (w : mW T a A x X M) (x1 x2 : Int32)  : Met l yX12_at wsX12_at ({ frames := 1, cells := 0, slots := 0, locals := 22 }) (hp_Pc D T [.ref a, .int x1, .int x2] (fun _ => True)) (lm_q D T (lm_r a A x X M)) 0 0 (hp_F T) := by
  obtain ⟨Gm, i, e1, e2, e3, e4⟩ := id w
  exact lm_p (sX12_at l D T a x1 x2 Gm i.mo ) (fun v h => by obtain ⟨r, h, -⟩ := h; exact ⟨r, h⟩) w
theorem lX12_person (l : Launch) (D : hp_D) (T : hp_T) (a : Nat) (A : Nat → Nat) (x : Int32) (X M : Nat → Int32) (w : mW T a A x X M) (x1 x2 : Int32)  : Met l yX12_person wsX12_person ({ frames := 4, cells := 0, slots := 0, locals := 91 }) (hp_Pc D T [.ref a, .int x1, .int x2] (fun _ => True)) (lm_q D T (lm_r a A x X M)) 0 0 (hp_F T) := by
  obtain ⟨Gm, i, e1, e2, e3, e4⟩ := id w
  exact lm_p (sX12_person l D T a x1 x2 Gm i.mo ) (fun v h => by obtain ⟨r, h, -⟩ := h; exact ⟨r, h⟩) w
theorem lX12_crowd (l : Launch) (D : hp_D) (T : hp_T) (a : Nat) (A : Nat → Nat) (x : Int32) (X M : Nat → Int32) (w : mW T a A x X M) (x1 x2 : Int32)  : Met l yX12_crowd wsX12_crowd ({ frames := 2, cells := 0, slots := 0, locals := 47 }) (hp_Pc D T [.ref a, .int x1, .int x2] (fun _ => True)) (lm_q D T (lm_r a A x X M)) 0 0 (hp_F T) := by
  obtain ⟨Gm, i, e1, e2, e3, e4⟩ := id w
  exact lm_p (sX12_crowd l D T a x1 x2 Gm i.mo ) (fun v h => by obtain ⟨r, h, -⟩ := h; exact ⟨r, h⟩) w
theorem lX12_shake (l : Launch) (D : hp_D) (T : hp_T) (a : Nat) (A : Nat → Nat) (x : Int32) (X M : Nat → Int32) (w : mW T a A x X M) (x1 x2 x3 : Int32)  : Met l yX12_shake wsX12_shake ({ frames := 4, cells := 0, slots := 0, locals := 100 }) (hp_Pc D T [.ref a, .int x1, .int x2, .int x3] (fun _ => True)) (lm_q D T (lm_r a A x X M)) 0 0 (hp_F T) := by
  obtain ⟨Gm, i, e1, e2, e3, e4⟩ := id w
  exact lm_e (sX12_shake l D T a x1 x2 x3 Gm i.mo ) (fun v _ _ h => by obtain ⟨r, h, -⟩ := h; exact ⟨r, h⟩) w
theorem lX12_sum (l : Launch) (D : hp_D) (T : hp_T) (a : Nat) (A : Nat → Nat) (x : Int32) (X M : Nat → Int32) (w : mW T a A x X M) (x1 x2 : Int32)  : Met l yX12_sum wsX12_sum ({ frames := 5, cells := 0, slots := 0, locals := 128 }) (hp_Pc D T [.ref a, .int x1, .int x2] (fun _ => True)) (lm_q D T (lm_r a A x X M)) 0 0 (hp_F T) := by
  obtain ⟨Gm, i, e1, e2, e3, e4⟩ := id w
  exact lm_e (sX12_sum l D T a x1 x2 Gm i.mo ) (fun v _ _ h => by obtain ⟨r, h, -⟩ := h; exact ⟨r, h⟩) w
theorem lX12_heard (l : Launch) (D : hp_D) (T : hp_T) (a : Nat) (A : Nat → Nat) (x : Int32) (X M : Nat → Int32) (w : mW T a A x X M) (x1 x2 : Int32)  : Met l yX12_heard wsX12_heard ({ frames := 5, cells := 0, slots := 0, locals := 128 }) (hp_Pc D T [.ref a, .int x1, .int x2] (fun _ => True)) (lm_q D T (lm_r a A x X M)) 0 0 (hp_F T) := by
  obtain ⟨Gm, i, e1, e2, e3, e4⟩ := id w
  exact lm_e (sX12_heard l D T a x1 x2 Gm i.mo ) (fun v _ _ h => by obtain ⟨r, h, -⟩ := h; exact ⟨r, h⟩) w
theorem lX12_total (l : Launch) (D : hp_D) (T : hp_T) (a : Nat) (A : Nat → Nat) (x : Int32) (X M : Nat → Int32) (w : mW T a A x X M)  : Met l yX12_total wsX12_total ({ frames := 6, cells := 0, slots := 0, locals := 151 }) (hp_Pc D T [.ref a] (fun _ => True)) (lm_q D T (lm_r a A x X M)) 0 0 (hp_F T) := by
  obtain ⟨Gm, i, e1, e2, e3, e4⟩ := id w
  exact lm_e (sX12_total l D T a  Gm i.mo ) (fun v _ _ h => by obtain ⟨r, h, -⟩ := h; exact ⟨r, h⟩) w
theorem lX12_street (l : Launch) (D : hp_D) (T : hp_T) (a : Nat) (A : Nat → Nat) (x : Int32) (X M : Nat → Int32) (w : mW T a A x X M) (x1 x2 x3 : Int32)  : Met l yX12_street wsX12_street ({ frames := 5, cells := 0, slots := 0, locals := 128 }) (hp_Pc D T [.ref a, .int x1, .int x2, .int x3] (fun _ => True)) (lm_q D T (lm_r a A x X M)) 0 0 (hp_F T) := by
  obtain ⟨Gm, i, e1, e2, e3, e4⟩ := id w
  exact lm_e (sX12_street l D T a x1 x2 x3 Gm i.mo ) (fun v _ _ h => by obtain ⟨r, h, -⟩ := h; exact ⟨r, h⟩) w
theorem lX12_busy (l : Launch) (D : hp_D) (T : hp_T) (a : Nat) (A : Nat → Nat) (x : Int32) (X M : Nat → Int32) (w : mW T a A x X M) (x1 : Int32)  : Met l yX12_busy wsX12_busy ({ frames := 5, cells := 0, slots := 0, locals := 128 }) (hp_Pc D T [.ref a, .int x1] (fun _ => True)) (lm_q D T (lm_r a A x X M)) 0 0 (hp_F T) := by
  obtain ⟨Gm, i, e1, e2, e3, e4⟩ := id w
  exact lm_e (sX12_busy l D T a x1 Gm i.mo ) (fun v _ _ h => by obtain ⟨r, h, -⟩ := h; exact ⟨r, h⟩) w
theorem lX12_go (l : Launch) (D : hp_D) (T : hp_T) (a : Nat) (A : Nat → Nat) (x : Int32) (X M : Nat → Int32) (w : mW T a A x X M) (x1 x2 x3 : Int32)  : Met l yX12_go wsX12_go ({ frames := 6, cells := 0, slots := 0, locals := 151 }) (hp_Pc D T [.ref a, .int x1, .int x2, .int x3] (fun _ => True)) (lm_q D T (lm_r a A x X M)) 0 0 (hp_F T) := by
  obtain ⟨Gm, i, e1, e2, e3, e4⟩ := id w
  exact lm_e (sX12_go l D T a x1 x2 x3 Gm i.mo (fun j v h => by rw [e2]; exact h) ) (fun v _ _ h => by obtain ⟨r, h, -⟩ := h; exact ⟨r, h⟩) w
theorem lX12_glove (l : Launch) (D : hp_D) (T : hp_T) (a : Nat) (A : Nat → Nat) (x : Int32) (X M : Nat → Int32) (w : mW T a A x X M) (x1 x2 : Int32) (b2 : iv x2 0 1) : Met l yX12_glove wsX12_glove ({ frames := 1, cells := 0, slots := 0, locals := 22 }) (hp_Pc D T [.ref a, .int x1, .int x2] (fun _ => True)) (lm_q D T (lm_r a A x X M)) 0 0 (hp_F T) := by
  obtain ⟨Gm, i, e1, e2, e3, e4⟩ := id w
  exact lm_e (sX12_glove l D T a x1 x2 Gm i.mo (fun j v h => by rw [e2]; exact h) b2) (fun v _ _ h => by obtain ⟨r, h, -⟩ := h; exact ⟨r, h⟩) w
theorem lX12_counter (l : Launch) (D : hp_D) (T : hp_T) (a : Nat) (A : Nat → Nat) (x : Int32) (X M : Nat → Int32) (w : mW T a A x X M) (x1 x2 : Int32) (b2 : iv x2 0 1) : Met l yX12_counter wsX12_counter ({ frames := 1, cells := 0, slots := 0, locals := 21 }) (hp_Pc D T [.ref a, .int x1, .int x2] (fun _ => True)) (lm_q D T (lm_r a A x X M)) 0 0 (hp_F T) := by
  obtain ⟨Gm, i, e1, e2, e3, e4⟩ := id w
  exact lm_e (sX12_counter l D T a x1 x2 Gm i.mo (fun j v h => by rw [e2]; exact h) b2) (fun v _ _ h => by obtain ⟨r, h, -⟩ := h; exact ⟨r, h⟩) w
theorem lX12_night (l : Launch) (D : hp_D) (T : hp_T) (a : Nat) (A : Nat → Nat) (x : Int32) (X M : Nat → Int32) (w : mW T a A x X M)  : Met l yX12_night wsX12_night ({ frames := 1, cells := 0, slots := 0, locals := 21 }) (hp_Pc D T [.ref a] (fun _ => True)) (lm_q D T (lm_r a A x X M)) 0 0 (hp_F T) := by
  obtain ⟨Gm, i, e1, e2, e3, e4⟩ := id w
  exact lm_e (sX12_night l D T a  Gm i.mo (fun j v h => by rw [e2]; exact h) ) (fun v _ _ h => by obtain ⟨r, h, -⟩ := h; exact ⟨r, h⟩) w
theorem lX12_undo (l : Launch) (D : hp_D) (T : hp_T) (a : Nat) (A : Nat → Nat) (x : Int32) (X M : Nat → Int32) (w : mW T a A x X M)  : Met l yX12_undo wsX12_undo ({ frames := 0, cells := 0, slots := 0, locals := 0 }) (hp_Pc D T [.ref a] (fun _ => True)) (lm_q D T (lm_r a A x X M)) 0 0 (hp_F T) := by
  obtain ⟨Gm, i, e1, e2, e3, e4⟩ := id w
  exact lm_e (sX12_undo l D T a  Gm i.mo (fun j v h => by rw [e2]; exact h) ) (fun v _ _ h => by obtain ⟨r, h, -⟩ := h; exact ⟨r, h⟩) w
theorem lX12_told (l : Launch) (D : hp_D) (T : hp_T) (a : Nat) (A : Nat → Nat) (x : Int32) (X M : Nat → Int32) (w : mW T a A x X M) (x1 x2 x3 : Int32)  : Met l yX12_told wsX12_told ({ frames := 1, cells := 0, slots := 0, locals := 25 }) (hp_Pc D T [.ref a, .int x1, .int x2, .int x3] (fun _ => True)) (lm_q D T (lm_r a A x X M)) 0 0 (hp_F T) := by
  obtain ⟨Gm, i, e1, e2, e3, e4⟩ := id w
  exact lm_e (sX12_told l D T a x1 x2 x3 Gm i.mo (fun j v h => by rw [e2]; exact h) ) (fun v _ _ h => by obtain ⟨r, h, -⟩ := h; exact ⟨r, h⟩) w
theorem lX12_worlds (l : Launch) (D : hp_D) (T : hp_T) (a : Nat) (A : Nat → Nat) (x : Int32) (X M : Nat → Int32) (w : mW T a A x X M) (x1 : Int32)  : Met l yX12_worlds wsX12_worlds ({ frames := 7, cells := 0, slots := 0, locals := 172 }) (hp_Pc D T [.ref a, .int x1] (fun _ => True)) (lm_q D T (lm_r a A x X M)) 0 0 (hp_F T) := by
  obtain ⟨Gm, i, e1, e2, e3, e4⟩ := id w
  exact lm_e (sX12_worlds l D T a x1 Gm i.mo ) (fun v _ _ h => by obtain ⟨r, h, -⟩ := h; exact ⟨r, h⟩) w
theorem lX12_ask (l : Launch) (D : hp_D) (T : hp_T) (a : Nat) (A : Nat → Nat) (x : Int32) (X M : Nat → Int32) (w : mW T a A x X M) (x1 : Int32)  : Met l yX12_ask wsX12_ask ({ frames := 7, cells := 0, slots := 0, locals := 172 }) (hp_Pc D T [.ref a, .int x1] (fun _ => True)) (lm_q D T (lm_r a A x X M)) 0 0 (hp_F T) := by
  obtain ⟨Gm, i, e1, e2, e3, e4⟩ := id w
  exact lm_e (sX12_ask l D T a x1 Gm i.mo ) (fun v _ _ h => by obtain ⟨r, h, -⟩ := h; exact ⟨r, h⟩) w
theorem lX12_cheat (l : Launch) (D : hp_D) (T : hp_T) (a : Nat) (A : Nat → Nat) (x : Int32) (X M : Nat → Int32) (w : mW T a A x X M) (x1 x2 : Int32)  : Met l yX12_cheat wsX12_cheat ({ frames := 6, cells := 0, slots := 0, locals := 151 }) (hp_Pc D T [.ref a, .int x1, .int x2] (fun _ => True)) (lm_q D T (lm_r a A x X M)) 0 0 (hp_F T) := by
  obtain ⟨Gm, i, e1, e2, e3, e4⟩ := id w
  exact lm_e (sX12_cheat l D T a x1 x2 Gm i.mo (fun j v h => by rw [e2]; exact h) ) (fun v _ _ h => by obtain ⟨r, h, -⟩ := h; exact ⟨r, h⟩) w
theorem lX12_odd (l : Launch) (D : hp_D) (T : hp_T) (a : Nat) (A : Nat → Nat) (x : Int32) (X M : Nat → Int32) (w : mW T a A x X M) (x1 : Int32)  : Met l yX12_odd wsX12_odd ({ frames := 6, cells := 0, slots := 0, locals := 151 }) (hp_Pc D T [.ref a, .int x1] (fun _ => True)) (lm_q D T (lm_r a A x X M)) 0 0 (hp_F T) := by
  obtain ⟨Gm, i, e1, e2, e3, e4⟩ := id w
  exact lm_e (sX12_odd l D T a x1 Gm i.mo (fun j v h => by rw [e2]; exact h) ) (fun v _ _ h => by obtain ⟨r, h, -⟩ := h; exact ⟨r, h⟩) w
theorem lX12_palms (l : Launch) (D : hp_D) (T : hp_T) (a : Nat) (A : Nat → Nat) (x : Int32) (X M : Nat → Int32) (w : mW T a A x X M) (x1 x2 : Int32)  : Met l yX12_palms wsX12_palms ({ frames := 1, cells := 0, slots := 0, locals := 25 }) (hp_Pc D T [.ref a, .int x1, .int x2] (fun _ => True)) (lm_q D T (lm_r a A x X M)) 0 0 (hp_F T) := by
  obtain ⟨Gm, i, e1, e2, e3, e4⟩ := id w
  exact lm_e (sX12_palms l D T a x1 x2 Gm i.mo (fun j v h => by rw [e2]; exact h) ) (fun v _ _ h => by obtain ⟨r, h, -⟩ := h; exact ⟨r, h⟩) w
theorem lX12_shuns (l : Launch) (D : hp_D) (T : hp_T) (a : Nat) (A : Nat → Nat) (x : Int32) (X M : Nat → Int32) (w : mW T a A x X M)  : Met l yX12_shuns wsX12_shuns ({ frames := 5, cells := 0, slots := 0, locals := 111 }) (hp_Pc D T [.ref a] (fun _ => True)) (lm_q D T (lm_r a A x X M)) 0 0 (hp_F T) := by
  obtain ⟨Gm, i, e1, e2, e3, e4⟩ := id w
  exact lm_e (sX12_shuns l D T a  Gm i.mo ) (fun v _ _ h => by obtain ⟨r, h, -⟩ := h; exact ⟨r, h⟩) w
theorem lX12_passes (l : Launch) (D : hp_D) (T : hp_T) (a : Nat) (A : Nat → Nat) (x : Int32) (X M : Nat → Int32) (w : mW T a A x X M) (x1 x2 : Int32)  : Met l yX12_passes wsX12_passes ({ frames := 3, cells := 0, slots := 0, locals := 70 }) (hp_Pc D T [.ref a, .int x1, .int x2] (fun _ => True)) (lm_q D T (lm_r a A x X M)) 0 0 (hp_F T) := by
  obtain ⟨Gm, i, e1, e2, e3, e4⟩ := id w
  exact lm_p (sX12_passes l D T a x1 x2 Gm i.mo ) (fun v h => by obtain ⟨r, h, -⟩ := h; exact ⟨r, h⟩) w
theorem lX12_have (l : Launch) (D : hp_D) (T : hp_T) (a : Nat) (A : Nat → Nat) (x : Int32) (X M : Nat → Int32) (w : mW T a A x X M) (x1 x2 : Int32)  : Met l yX12_have wsX12_have ({ frames := 3, cells := 0, slots := 0, locals := 70 }) (hp_Pc D T [.ref a, .int x1, .int x2] (fun _ => True)) (lm_q D T (lm_r a A x X M)) 0 0 (hp_F T) := by
  obtain ⟨Gm, i, e1, e2, e3, e4⟩ := id w
  exact lm_p (sX12_have l D T a x1 x2 Gm i.mo ) (fun v h => by obtain ⟨r, h, -⟩ := h; exact ⟨r, h⟩) w
theorem lX12_islands (l : Launch) (D : hp_D) (T : hp_T) (a : Nat) (A : Nat → Nat) (x : Int32) (X M : Nat → Int32) (w : mW T a A x X M)  : Met l yX12_islands wsX12_islands ({ frames := 4, cells := 0, slots := 0, locals := 91 }) (hp_Pc D T [.ref a] (fun _ => True)) (lm_q D T (lm_r a A x X M)) 0 0 (hp_F T) := by
  obtain ⟨Gm, i, e1, e2, e3, e4⟩ := id w
  exact lm_p (sX12_islands l D T a  Gm i.mo ) (fun v h => by obtain ⟨r, h, -⟩ := h; exact ⟨r, h⟩) w
theorem lX12_rounds (l : Launch) (D : hp_D) (T : hp_T) (a : Nat) (A : Nat → Nat) (x : Int32) (X M : Nat → Int32) (w : mW T a A x X M) (x1 x2 : Int32)  : Met l yX12_rounds wsX12_rounds ({ frames := 1, cells := 0, slots := 0, locals := 25 }) (hp_Pc D T [.ref a, .int x1, .int x2] (fun _ => True)) (lm_q D T (lm_r a A x X M)) 0 0 (hp_F T) := by
  obtain ⟨Gm, i, e1, e2, e3, e4⟩ := id w
  exact lm_p (sX12_rounds l D T a x1 x2 Gm i.mo ) (fun v h => by obtain ⟨r, h, -⟩ := h; exact ⟨r, h⟩) w
theorem lX12_census (l : Launch) (D : hp_D) (T : hp_T) (a : Nat) (A : Nat → Nat) (x : Int32) (X M : Nat → Int32) (w : mW T a A x X M)  : Met l yX12_census wsX12_census ({ frames := 6, cells := 0, slots := 0, locals := 151 }) (hp_Pc D T [.ref a] (fun _ => True)) (lm_q D T (lm_r a A x X M)) 0 0 (hp_F T) := by
  obtain ⟨Gm, i, e1, e2, e3, e4⟩ := id w
  exact lm_e (sX12_census l D T a  Gm i.mo ) (fun v _ _ h => by obtain ⟨r, h, -⟩ := h; exact ⟨r, h⟩) w
theorem lX12_drawn (l : Launch) (D : hp_D) (T : hp_T) (a : Nat) (A : Nat → Nat) (x : Int32) (X M : Nat → Int32) (w : mW T a A x X M) (x1 x2 x3 : Int32)  : Met l yX12_drawn wsX12_drawn ({ frames := 6, cells := 0, slots := 0, locals := 151 }) (hp_Pc D T [.ref a, .int x1, .int x2, .int x3] (fun _ => True)) (lm_q D T (lm_r a A x X M)) 0 0 (hp_F T) := by
  obtain ⟨Gm, i, e1, e2, e3, e4⟩ := id w
  exact lm_e (sX12_drawn l D T a x1 x2 x3 Gm i.mo (fun j v h => by rw [e2]; exact h) ) (fun v _ _ h => by obtain ⟨r, h, -⟩ := h; exact ⟨r, h⟩) w
theorem lX12_count (l : Launch) (D : hp_D) (T : hp_T) (a : Nat) (A : Nat → Nat) (x : Int32) (X M : Nat → Int32) (w : mW T a A x X M) (x1 : Int32)  : Met l yX12_count wsX12_count ({ frames := 4, cells := 0, slots := 0, locals := 90 }) (hp_Pc D T [.ref a, .int x1] (fun _ => True)) (lm_q D T (lm_r a A x X M)) 0 0 (hp_F T) := by
  obtain ⟨Gm, i, e1, e2, e3, e4⟩ := id w
  exact lm_e (sX12_count l D T a x1 Gm i.mo ) (fun v _ _ h => by obtain ⟨r, h, -⟩ := h; exact ⟨r, h⟩) w
theorem lX12_rule (l : Launch) (D : hp_D) (T : hp_T) (a : Nat) (A : Nat → Nat) (x : Int32) (X M : Nat → Int32) (w : mW T a A x X M) : Met l yX12_rule wsX12_rule ({ frames := 12, cells := 0, slots := 0, locals := 262 }) (hp_Pc D T [.ref a] (fun _ => True)) (lm_q D T (lm_r a A x X M)) 0 0 (hp_F T) := by
  obtain ⟨Gm, i, e1, e2, e3, e4⟩ := id w
  refine met_mono (met_ex (ι := {z : hp_T × (Nat → Value) // isMp z.1 a A Gm z.2 ∧ ∀ q, hp_F z.1 q → hp_F T q}) (Pc := fun z => hp_Pc D z.1.1 [.ref a] (fun H => rdw D H A)) (Qd := lm_q D T (lm_r a A x X M)) (fun z => met_mono (Pd := hp_Pc D z.1.1 [.ref a] (fun H => rdw D H A)) (sX12_rule l D z.1.1 a A Gm z.1.2 z.2.1) (fun _ _ h => ⟨h.1, h.2.1, h.2.2.1, h.2.2.2⟩) (fun _ _ _ _ _ h => h) z.2.2) (fun z av U oc t hp hq => ?_)) (fun av U hp => ?_) (fun _ _ _ _ _ h => h) (fun _ h => h)
  · obtain ⟨v, ho, ⟨r, hv, hpost⟩, hok, hz, hk⟩ := hq
    obtain ⟨gok, tpok, h0a, h0, h1, h2, h3, h4, h5, h6, h7, h8, h9, h10, h11, h12, h13, h14, h15, h16, h17, h18, h19, h20, h21, h22, h23⟩ := id z.2.1
    have hrd : rdw D t.heap A := hpost.2.2.2
    obtain ⟨T1, Gm1, k1, k2, ⟨f1, f2, f3, f4⟩, k4⟩ := mo_from hok z.2.1 hrd
    exact ⟨v, T1, ho, ⟨⟨r, hv⟩, Gm1, k2, f1.trans e1, f2.trans e2, fun j => by rw [f3]; exact e3 j, fun j => by rw [f4]; exact e4 j⟩, k1, fun q hq => z.2.2 q (k4 q hq), hz, fun q h1 h3 => hk q h1 (fun w => h3 (z.2.2 q w))⟩
  · obtain ⟨h1, hok, hG, -⟩ := hp
    obtain ⟨T', Tp, k1, k2, k3, k4⟩ := mo_to hok i
    exact ⟨⟨(T', Tp), k2, k4⟩, h1, k1, hG.nar k4, k3⟩
theorem lX12_town (l : Launch) (D : hp_D) (T : hp_T) (a : Nat) (A : Nat → Nat) (x : Int32) (X M : Nat → Int32) (w : mW T a A x X M) : Met l yX12_town wsX12_town ({ frames := 6, cells := 0, slots := 0, locals := 135 }) (hp_Pc D T [.ref a] (fun _ => True)) (lm_q D T (lm_r a A x X M)) 0 0 (hp_F T) := by
  obtain ⟨Gm, i, e1, e2, e3, e4⟩ := id w
  refine met_mono (met_ex (ι := {z : hp_T × (Nat → Value) // isMp z.1 a A Gm z.2 ∧ ∀ q, hp_F z.1 q → hp_F T q}) (Pc := fun z => hp_Pc D z.1.1 [.ref a] (fun H => rdw D H A)) (Qd := lm_q D T (lm_r a A x X M)) (fun z => met_mono (Pd := hp_Pc D z.1.1 [.ref a] (fun H => rdw D H A)) (sX12_town l D z.1.1 a A Gm z.1.2 z.2.1 (fun j v h => by rw [e2]; exact h)) (fun _ _ h => ⟨h.1, h.2.1, h.2.2.1, trivial⟩) (fun _ _ _ _ _ h => h) z.2.2) (fun z av U oc t hp hq => ?_)) (fun av U hp => ?_) (fun _ _ _ _ _ h => h) (fun _ h => h)
  · obtain ⟨v, ho, ⟨r, hv, hpost⟩, hok, hz, hk⟩ := hq
    obtain ⟨gok, tpok, h0a, h0, h1, h2, h3, h4, h5, h6, h7, h8, h9, h10, h11, h12, h13, h14, h15, h16, h17, h18, h19, h20, h21, h22, h23⟩ := id z.2.1
    have hrd : rdw D t.heap A := rdw.on hp.2.2.2 hpost.2.1 (fun hz9 => by rcases hz9 with hz9 | hz9 | hz9 | hz9; (exact hp_ne_ao h1 h0a hz9); (exact hp_ne_len h1 h2 (by decide) hz9); (exact hp_ne_len h1 h5 (by decide) hz9); (exact hp_ne_len h1 h9 (by decide) hz9)) (fun hz9 => by rcases hz9 with hz9 | hz9 | hz9 | hz9; (exact hp_ne_ao h3 h0a hz9); (exact hp_ne_len h3 h2 (by decide) hz9); (exact hp_ne_len h3 h5 (by decide) hz9); (exact hp_ne_len h3 h9 (by decide) hz9)) (fun hz9 => by rcases hz9 with hz9 | hz9 | hz9 | hz9; (exact hp_ne_ao h4 h0a hz9); (exact hp_ne_len h4 h2 (by decide) hz9); (exact hp_ne_len h4 h5 (by decide) hz9); (exact hp_ne_len h4 h9 (by decide) hz9))
    obtain ⟨T1, Gm1, k1, k2, ⟨f1, f2, f3, f4⟩, k4⟩ := mo_from hok z.2.1 hrd
    exact ⟨v, T1, ho, ⟨⟨r, hv⟩, Gm1, k2, f1.trans e1, f2.trans e2, fun j => by rw [f3]; exact e3 j, fun j => by rw [f4]; exact e4 j⟩, k1, fun q hq => z.2.2 q (k4 q hq), hz, fun q h1 h3 => hk q h1 (fun w => h3 (z.2.2 q w))⟩
  · obtain ⟨h1, hok, hG, -⟩ := hp
    obtain ⟨T', Tp, k1, k2, k3, k4⟩ := mo_to hok i
    exact ⟨⟨(T', Tp), k2, k4⟩, h1, k1, hG.nar k4, k3⟩
theorem lX12_shook (l : Launch) (D : hp_D) (T : hp_T) (a : Nat) (A : Nat → Nat) (x : Int32) (X M : Nat → Int32) (w : mW T a A x X M) (hAB : A 15 ≠ A 16) (x1 x2 : Int32) : Met l yX12_shook wsX12_shook ({ frames := 5, cells := 0, slots := 0, locals := 111 }) (hp_Pc D T [.ref a, .int x1, .int x2] (fun _ => True)) (lm_q D T (lm_r a A x X M)) 0 0 (hp_F T) := by
  obtain ⟨Gm, i, e1, e2, e3, e4⟩ := id w
  refine met_mono (met_ex (ι := {z : hp_T × (Nat → Value) × (Nat → Int32) // isMp z.1 a A Gm z.2.1 ∧ ∀ q, hp_F z.1 q → hp_F T q}) (Pc := fun z => hp_Pc D z.1.1 [.ref a, .int x1, .int x2] (fun H => rdw D H A ∧ hp_c D H (A 9) 211 z.1.2.2)) (Qd := lm_q D T (lm_r a A x X M)) (fun z => met_mono (Pd := hp_Pc D z.1.1 [.ref a, .int x1, .int x2] (fun H => rdw D H A ∧ hp_c D H (A 9) 211 z.1.2.2)) (sX12_shook_q l D z.1.1 a x1 x2 A Gm z.1.2.1 z.2.1 z.1.2.2 hAB) (fun _ _ h => ⟨h.1, h.2.1, h.2.2.1, h.2.2.2.2⟩) (fun _ _ _ _ _ h => h) z.2.2) (fun z av U oc t hp hq => ?_)) (fun av U hp => ?_) (fun _ _ _ _ _ h => h) (fun _ h => h)
  · obtain ⟨v, ho, ⟨r, hv, hpost⟩, hok, hz, hk⟩ := hq
    obtain ⟨gok, tpok, h0a, h0, h1, h2, h3, h4, h5, h6, h7, h8, h9, h10, h11, h12, h13, h14, h15, h16, h17, h18, h19, h20, h21, h22, h23⟩ := id z.2.1
    have hrd : rdw D t.heap A := rdw.on hp.2.2.2.1 hpost.2.1 (fun hz9 => by rcases hz9 with hz9 | hz9 | hz9; (exact hp_ne_ao h1 h0a hz9); (exact hp_ne_len h1 h15 (by decide) hz9); (exact hp_ne_len h1 h16 (by decide) hz9)) (fun hz9 => by rcases hz9 with hz9 | hz9 | hz9; (exact hp_ne_ao h3 h0a hz9); (exact hp_ne_len h3 h15 (by decide) hz9); (exact hp_ne_len h3 h16 (by decide) hz9)) (fun hz9 => by rcases hz9 with hz9 | hz9 | hz9; (exact hp_ne_ao h4 h0a hz9); (exact hp_ne_len h4 h15 (by decide) hz9); (exact hp_ne_len h4 h16 (by decide) hz9))
    obtain ⟨T1, Gm1, k1, k2, ⟨f1, f2, f3, f4⟩, k4⟩ := mo_from hok z.2.1 hrd
    exact ⟨v, T1, ho, ⟨⟨r, hv⟩, Gm1, k2, f1.trans e1, f2.trans e2, fun j => by rw [f3]; exact e3 j, fun j => by rw [f4]; exact e4 j⟩, k1, fun q hq => z.2.2 q (k4 q hq), hz, fun q h1 h3 => hk q h1 (fun w => h3 (z.2.2 q w))⟩
  · obtain ⟨h1, hok, hG, -⟩ := hp
    obtain ⟨T', Tp, k1, k2, k3, k4⟩ := mo_to hok i
    obtain ⟨gok, tpok, h0a, j0, j1, j2, j3, j4, j5, j6, j7, j8, j9, j10, j11, j12, j13, j14, j15, j16, j17, j18, j19, j20, j21, j22, j23⟩ := id k2
    obtain ⟨gF, hF⟩ := hp_c.ex k1 j9 (fun j v h => sP_any (gok.2.2.2.2 j v h))
    exact ⟨⟨(T', Tp, gF), k2, k4⟩, h1, k1, hG.nar k4, k3, hF⟩
