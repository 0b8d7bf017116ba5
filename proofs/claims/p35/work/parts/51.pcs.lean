/-! THE WHOLE: the class's one object, all that it reaches, its x and its images' x -/
def imV (g : Option (Nat × Int32)) : Value := match g with
  | none => .null
  | some q => .ref q.1
def imU (G : Nat → Option (Nat × Int32)) (k : Nat) (q : Nat × Int32) : Nat → Option (Nat × Int32) := fun j => if j = k then some q else G j
theorem imU_s {G : Nat → Option (Nat × Int32)} {k : Nat} {q : Nat × Int32} : imU G k q k = some q := if_pos rfl
theorem imU_n {G : Nat → Option (Nat × Int32)} {k j : Nat} {q : Nat × Int32} (h : ¬ j = k) : imU G k q j = G j := if_neg h
def pcS (T : hp_T) (Ru : Nat → Prop) (a tp tr rr rl nw im tl sk iq pa sn be : Nat) (px : Value → Prop) (G : Nat → Option (Nat × Int32)) : Prop := T a = some (.inr (11, [(rR tp), (rR tr), (rR rr), (rR rl), (rI 0 6), (rR nw), (rR im), (rR tl), (rR sk), (rR iq), (rR pa), (rR sn), (rR be)])) ∧ isTape T tp ∧ isTownReader T tr ∧ isRuleReader T rr ∧ T rl = some (.inl (5, 6, fun _ => rN Ru)) ∧ isMemory T nw px ∧ T im = some (.inl (4, 4, fun j => rV (imV (G j)))) ∧ isTown T tl ∧ isShaker T Ru sk ∧ isWorlds T iq ∧ isParity T pa ∧ isShuns T sn ∧ isBest T be ∧ (∀ b, Ru b → isRule T b) ∧ (∀ j b x, j < 4 → G j = some (b, x) → isMemory T b (rV (.int x)) ∧ b ≠ nw) ∧ (∀ i j b x y, i < 4 → j < 4 → G i = some (b, x) → G j = some (b, y) → i = j)
theorem pcS.nw {T : hp_T} {Ru : Nat → Prop} {a tp tr rr rl nw im tl sk iq pa sn be : Nat} {px : Value → Prop} {G : Nat → Option (Nat × Int32)} (h : pcS T Ru a tp tr rr rl nw im tl sk iq pa sn be px G) : ∃ Ps : List (Value → Prop), T nw = some (.inr (1, Ps)) ∧ Ps[2]? = some px ∧ ∀ py : Value → Prop, pcS (hp_up T nw (.inr (1, Ps.set 2 py))) Ru a tp tr rr rl nw im tl sk iq pa sn be py G := by
  obtain ⟨h0, jtp, jtr, jrr, jrl, jnw, jim, jtl, jsk, jiq, jpa, jsn, jbe, jRu, jG, jI⟩ := h
  obtain ⟨Ps, k1, k2, k3⟩ := jnw.self
  refine ⟨Ps, k1, k2, fun py => ?_⟩
  have g : hp_sc 4 1 T (hp_up T nw (.inr (1, Ps.set 2 py))) := hp_sc.upO k1
  have hne : ∀ (q n : Nat) (P : Nat → Value → Prop), T q = some (.inl (4, n, P)) → hp_up T nw (.inr (1, Ps.set 2 py)) q = some (.inl (4, n, P)) := fun q n P hq => by
    by_cases e : q = nw
    · rw [e, k1] at hq
      cases hq
    · rw [hp_up_n e]
      exact hq
  exact ⟨g _ _ h0 rfl, isTape.sM g jtp, isTownReader.sM g jtr, isRuleReader.sM g jrr, g _ _ jrl rfl, k3 _, hne _ _ _ jim, isTown.sM g jtl, isShaker.sM g jsk, isWorlds.sM g jiq, isParity.sM g jpa, isShuns.sM g jsn, isBest.sM g jbe, fun b hb => isRule.sM g (jRu b hb), fun j b y hj hb => ⟨isMemory.other k1 (jG j b y hj hb).2 (jG j b y hj hb).1, (jG j b y hj hb).2⟩, jI⟩
theorem pcS.img {T : hp_T} {Ru : Nat → Prop} {a tp tr rr rl nw im tl sk iq pa sn be : Nat} {px : Value → Prop} {G : Nat → Option (Nat × Int32)} (h : pcS T Ru a tp tr rr rl nw im tl sk iq pa sn be px G) {k b : Nat} {x0 : Int32} (hk : k < 4) (hb : G k = some (b, x0)) : ∃ Ps : List (Value → Prop), T b = some (.inr (1, Ps)) ∧ Ps[2]? = some (rV (.int x0)) ∧ ∀ x : Int32, pcS (hp_up T b (.inr (1, Ps.set 2 (rV (.int x))))) Ru a tp tr rr rl nw im tl sk iq pa sn be px (imU G k (b, x)) := by
  obtain ⟨h0, jtp, jtr, jrr, jrl, jnw, jim, jtl, jsk, jiq, jpa, jsn, jbe, jRu, jG, jI⟩ := h
  obtain ⟨hbm, hbn⟩ := jG k b x0 hk hb
  obtain ⟨Ps, k1, k2, k3⟩ := hbm.self
  refine ⟨Ps, k1, k2, fun x => ?_⟩
  have g : hp_sc 4 1 T (hp_up T b (.inr (1, Ps.set 2 (rV (.int x))))) := hp_sc.upO k1
  have him : (fun j => rV (imV (imU G k (b, x) j))) = (fun j => rV (imV (G j))) := by
    funext j
    by_cases e : j = k
    · subst e
      simp [imU, imV, hb]
    · simp [imU, e]
  have hne : hp_up T b (.inr (1, Ps.set 2 (rV (.int x)))) im = some (.inl (4, 4, fun j => rV (imV (imU G k (b, x) j)))) := by
    rw [him]
    by_cases e : im = b
    · rw [e, k1] at jim
      cases jim
    · rw [hp_up_n e]
      exact jim
  refine ⟨g _ _ h0 rfl, isTape.sM g jtp, isTownReader.sM g jtr, isRuleReader.sM g jrr, g _ _ jrl rfl, isMemory.other k1 (fun z => hbn z.symm) jnw, hne, isTown.sM g jtl, isShaker.sM g jsk, isWorlds.sM g jiq, isParity.sM g jpa, isShuns.sM g jsn, isBest.sM g jbe, fun d hd => isRule.sM g (jRu d hd), fun j c y hj hc => ?_, fun i j c y z hi hj hc hd => ?_⟩
  · by_cases e : j = k
    · subst e
      rw [imU_s] at hc
      cases hc
      exact ⟨k3 _, hbn⟩
    · rw [imU_n e] at hc
      obtain ⟨m1, m2⟩ := jG j c y hj hc
      exact ⟨isMemory.other k1 (fun z => e (jI j k b y x0 hj hk (z ▸ hc) hb)) m1, m2⟩
  · have u : ∀ (i : Nat) (y : Int32), imU G k (b, x) i = some (c, y) → ∃ y' : Int32, G i = some (c, y') := fun i y hi => by
      by_cases e : i = k
      · subst e
        rw [imU_s] at hi
        cases hi
        exact ⟨x0, hb⟩
      · rw [imU_n e] at hi
        exact ⟨y, hi⟩
    obtain ⟨y1, u1⟩ := u i y hc
    obtain ⟨y2, u2⟩ := u j z hd
    exact jI i j c y1 y2 hi hj u1 u2
theorem pcS.new {T T1 : hp_T} {Ru : Nat → Prop} {a tp tr rr rl nw im tl sk iq pa sn be : Nat} {px : Value → Prop} {G : Nat → Option (Nat × Int32)} (h : pcS T Ru a tp tr rr rl nw im tl sk iq pa sn be px G) (hs : hp_sub T T1) {k b : Nat} (hk : k < 4) (hbt : T b = none) (hbm : isMemory T1 b (rV (.int 0))) : T1 im = some (.inl (4, 4, fun j => rV (imV (G j)))) ∧ pcS (hp_up T1 im (.inl (4, 4, fun j => rV (imV (imU G k (b, 0) j))))) Ru a tp tr rr rl nw im tl sk iq pa sn be px (imU G k (b, 0)) := by
  obtain ⟨h0, jtp, jtr, jrr, jrl, jnw, jim, jtl, jsk, jiq, jpa, jsn, jbe, jRu, jG, jI⟩ := h
  have jim1 := hs _ _ jim
  refine ⟨jim1, ?_⟩
  have g : hp_sc 4 1 T (hp_up T1 im (.inl (4, 4, fun j => rV (imV (imU G k (b, 0) j))))) := (hp_sub.sc hs).trans (hp_sc.upA jim1)
  have hTm : ∀ (q : Nat) (px : Value → Prop), isMemory T q px → q ≠ b := fun q px hq e => by
    obtain ⟨Ps, k1, -⟩ := hq.self
    rw [e, hbt] at k1
    cases k1
  refine ⟨g _ _ h0 rfl, isTape.sM g jtp, isTownReader.sM g jtr, isRuleReader.sM g jrr, g _ _ jrl rfl, isMemory.im jim1 (jnw.mono hs), hp_up_s _ _ _, isTown.sM g jtl, isShaker.sM g jsk, isWorlds.sM g jiq, isParity.sM g jpa, isShuns.sM g jsn, isBest.sM g jbe, fun d hd => isRule.sM g (jRu d hd), fun j c y hj hc => ?_, fun i j c y z hi hj hc hd => ?_⟩
  · by_cases e : j = k
    · subst e
      rw [imU_s] at hc
      cases hc
      exact ⟨isMemory.im jim1 hbm, fun z => hTm _ _ jnw z.symm⟩
    · rw [imU_n e] at hc
      obtain ⟨m1, m2⟩ := jG j c y hj hc
      exact ⟨isMemory.im jim1 (m1.mono hs), m2⟩
  · by_cases e : i = k
    · by_cases e2 : j = k
      · rw [e, e2]
      · subst e
        rw [imU_s] at hc
        rw [imU_n e2] at hd
        cases hc
        exact absurd rfl (hTm _ _ (jG j _ _ hj hd).1)
    · by_cases e2 : j = k
      · subst e2
        rw [imU_n e] at hc
        rw [imU_s] at hd
        cases hd
        exact absurd rfl (hTm _ _ (jG i _ _ hi hc).1)
      · rw [imU_n e] at hc
        rw [imU_n e2] at hd
        exact jI i j c y z hi hj hc hd
theorem pcS.rule {T T1 : hp_T} {Ru : Nat → Prop} {a tp tr rr rl nw im tl sk iq pa sn be : Nat} {px : Value → Prop} {G : Nat → Option (Nat × Int32)} (h : pcS T Ru a tp tr rr rl nw im tl sk iq pa sn be px G) (hs : hp_sub T T1) {b : Nat} (hbr : isRule T1 b) : T1 rl = some (.inl (5, 6, fun _ => rN Ru)) ∧ ∃ Ps Ps2 : List (Value → Prop), T1 sk = some (.inr (5, Ps)) ∧ (∀ (k : Nat) (P' : Value → Prop), Ps2[k]? = some P' → ∃ P : Value → Prop, Ps[k]? = some P ∧ ∀ v, P v → P' v) ∧ pcS (hp_up (hp_up T1 rl (.inl (5, 6, fun _ => rN (fun d => Ru d ∨ d = b)))) sk (.inr (5, Ps2))) (fun d => Ru d ∨ d = b) a tp tr rr rl nw im tl sk iq pa sn be px G := by
  obtain ⟨h0, jtp, jtr, jrr, jrl, jnw, jim, jtl, jsk, jiq, jpa, jsn, jbe, jRu, jG, jI⟩ := h
  have jrl1 := hs _ _ jrl
  refine ⟨jrl1, ?_⟩
  obtain ⟨zwd, zsk, zth, s0, szwd, szsk, szth⟩ := jsk
  have s1 := hs _ _ s0
  have hne : sk ≠ rl := fun z => by
    rw [z, jrl1] at s1
    cases s1
  refine ⟨[(rN Ru), (rR zwd), (rR zsk), (rR zth)], [(rN (fun d => Ru d ∨ d = b)), (rR zwd), (rR zsk), (rR zth)], s1, ?_, ?_⟩
  · intro k P' hk
    match k, hk with
    | 0, hk => cases hk; exact ⟨_, rfl, fun v hv => hv.imp id (fun hq => hq.imp (fun d hd => ⟨hd.1, Or.inl hd.2⟩))⟩
    | 1, hk => cases hk; exact ⟨_, rfl, fun v hv => hv⟩
    | 2, hk => cases hk; exact ⟨_, rfl, fun v hv => hv⟩
    | 3, hk => cases hk; exact ⟨_, rfl, fun v hv => hv⟩
    | k + 4, hk => simp at hk
  have g : hp_sc 5 5 T (hp_up (hp_up T1 rl (.inl (5, 6, fun _ => rN (fun d => Ru d ∨ d = b)))) sk (.inr (5, [(rN (fun d => Ru d ∨ d = b)), (rR zwd), (rR zsk), (rR zth)]))) := ((hp_sub.sc hs).trans (hp_sc.upA jrl1)).trans (hp_sc.upO (by rw [hp_up_n hne]; exact s1))
  have g1 : hp_sc 5 5 T1 (hp_up (hp_up T1 rl (.inl (5, 6, fun _ => rN (fun d => Ru d ∨ d = b)))) sk (.inr (5, [(rN (fun d => Ru d ∨ d = b)), (rR zwd), (rR zsk), (rR zth)]))) := (hp_sc.upA jrl1).trans (hp_sc.upO (by rw [hp_up_n hne]; exact s1))
  have hrl : hp_up (hp_up T1 rl (.inl (5, 6, fun _ => rN (fun d => Ru d ∨ d = b)))) sk (.inr (5, [(rN (fun d => Ru d ∨ d = b)), (rR zwd), (rR zsk), (rR zth)])) rl = some (.inl (5, 6, fun _ => rN (fun d => Ru d ∨ d = b))) := by
    rw [hp_up_n (fun z => hne z.symm), hp_up_s]
  exact ⟨g _ _ h0 rfl, isTape.sR g jtp, isTownReader.sR g jtr, isRuleReader.sR g jrr, hrl, isMemory.sR g jnw, g _ _ jim rfl, isTown.sR g jtl, ⟨zwd, zsk, zth, hp_up_s _ _ _, g _ _ szwd rfl, g _ _ szsk rfl, g _ _ szth rfl⟩, isWorlds.sR g jiq, isParity.sR g jpa, isShuns.sR g jsn, isBest.sR g jbe, fun d hd => by
    rcases hd with hd | hd
    · exact isRule.sR g (jRu d hd)
    · rw [hd]
      exact isRule.sR g1 hbr, fun j c y hj hc => ⟨isMemory.sR g (jG j c y hj hc).1, (jG j c y hj hc).2⟩, jI⟩
