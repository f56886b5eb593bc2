/-! heaps laid over one another; a contract beside a heap that it doesn't touch; less of a heap -/
def nk_o (H K : nk_AH) : nk_AH := fun a => match H a with
  | some e => some e
  | none => K a
def nk_dj (H K : nk_AH) : Prop := ∀ a, (H a).isSome = true → K a = none
theorem nk_o_l {H K : nk_AH} {a : Nat} {e : nk_AC} (h : H a = some e) : nk_o H K a = some e := by unfold nk_o; rw [h]
theorem nk_o_r {H K : nk_AH} {a : Nat} (h : H a = none) : nk_o H K a = K a := by unfold nk_o; rw [h]
theorem nk_o_cases {H K : nk_AH} {a : Nat} {e : nk_AC} (h : nk_o H K a = some e) : H a = some e ∨ (H a = none ∧ K a = some e) := by
  cases q : H a with
  | some x => rw [nk_o_l q] at h; exact Or.inl h
  | none => rw [nk_o_r q] at h; exact Or.inr ⟨rfl, h⟩
theorem nk_dj.symm {H K : nk_AH} (h : nk_dj H K) : nk_dj K H := fun a ha => by
  cases q : H a with
  | none => rfl
  | some x =>
    have := h a (by rw [q]; rfl)
    rw [this] at ha; cases ha
theorem nk_o_comm {H K : nk_AH} (h : nk_dj H K) : nk_o H K = nk_o K H := by
  funext a
  cases q : H a with
  | some x =>
    have := h a (by rw [q]; rfl)
    rw [nk_o_l q, nk_o_r this, q]
  | none =>
    rw [nk_o_r q]
    cases z : K a with
    | some x => rw [nk_o_l z]
    | none => rw [nk_o_r z, q]
def nk_le (H K : nk_AH) : Prop := ∀ a e, H a = some e → K a = some e
theorem nk_J.sub {G : nk_EG} {μ : nk_MI} {d : Nat} {Φ : Option Value → nk_AH → Prop} {bc bs pc : Nat} {L : List (Option Value)} {st : List Value} {H H2 : nk_AH} (hs : nk_le H2 H) (h : nk_J G μ d Φ bc bs pc L st H2) : nk_J G μ d Φ bc bs pc L st H := by
  intro p l e R s m args below meth c mc ms A Q C Hc locs cells slots ls hl hP hA hS h1 h2
  exact h _ _ _ _ _ _ _ _ _ _ _ _ _ _ C _ _ _ _ _ hl (fun a e q => hP a e (hs a e q)) (fun a q => by
    obtain ⟨e, he⟩ := Option.isSome_iff_exists.mp q
    exact hA a (by rw [hs a e he]; rfl)) hS h1 h2
theorem nk_A_o {H K : nk_AH} {sz q : Nat} (h : nk_A H sz q) : nk_A (nk_o H K) sz q := h.elim (fun z => by
  obtain ⟨e, he⟩ := Option.isSome_iff_exists.mp z
  exact Or.inl (by rw [nk_o_l he]; rfl)) Or.inr
theorem nk_S.frame {G : nk_EG} {μ : nk_MI} {d mc ms : Nat} {av : List Value} {H K : nk_AH} {Φ : Option Value → nk_AH → Prop} (h : nk_S G μ d mc ms av H Φ) (hd : nk_dj H K) : nk_S G μ d mc ms av (nk_o H K) (fun r H2 => ∃ H', Φ r H' ∧ nk_dj H' K ∧ H2 = nk_o H' K) := by
  intro l sz p e ha hc hk s m args below hf happ hpre htr
  obtain ⟨p1, p2, p3, p4, p5, p6⟩ := hpre
  have hin : ∀ a x, K a = some x → a < sz := fun a x q => by
    rw [← p2]
    cases z : H a with
    | some y =>
      have := hd a (by rw [z]; rfl)
      rw [this] at q; cases q
    | none => exact (p3 a x (by rw [nk_o_r z]; exact q)).lt
  obtain ⟨t, o, h1, h2, h3, ⟨r, H', g1, g2, g3, g4, g5⟩, L, h6, h7⟩ := h l sz p e ha hc hk s m args below hf happ ⟨p1, p2, fun a x q => p3 a x (nk_o_l q), p4, ⟨fun t n f q => (p5.1 t n f q).narrow (fun _ z => nk_A_o z), fun k q z => (p5.2 k q z).narrow (fun _ z => nk_A_o z)⟩, p6⟩ htr
  have hdj : nk_dj H' K := fun a q => by
    rcases g4 a q with z | z
    · exact hd a z
    · cases y : K a with
      | none => rfl
      | some x => exact absurd (hin a x y) (Nat.not_lt.mpr z)
  refine ⟨t, o, h1, h2, h3, ⟨r, nk_o H' K, g1, ⟨H', g2, hdj, rfl⟩, fun a x q => ?_, fun a q => ?_, ⟨g5.1, fun q k1 k2 => g5.2 q k1 (fun z => k2 (nk_A_o z))⟩⟩, L, h6, fun q hq => nk_A_o (h7 q hq)⟩
  · rcases nk_o_cases q with z | ⟨z1, z2⟩
    · exact g3 a x z
    · have hH : H a = none := by
        cases y : H a with
        | none => rfl
        | some w =>
          have := hd a (by rw [y]; rfl)
          rw [this] at z2; cases z2
      have hl := hin a x z2
      refine (p3 a x (by rw [nk_o_r hH]; exact z2)).kept (g5.2 a (by rw [p2]; exact hl) (fun y => ?_))
      rcases y with y | y
      · rw [hH] at y; cases y
      · exact absurd hl (Nat.not_lt.mpr y)
  · obtain ⟨x, hx⟩ := Option.isSome_iff_exists.mp q
    rcases nk_o_cases hx with z | ⟨z1, z2⟩
    · exact nk_A_o (g4 a (by rw [z]; rfl))
    · refine Or.inl ?_
      cases y : H a with
      | some w => rw [nk_o_l y]; rfl
      | none => rw [nk_o_r y, z2]; rfl
theorem nk_u_u (H : nk_AH) (a : Nat) (e e' : nk_AC) : nk_u (nk_u H a e) a e' = nk_u H a e' := by
  funext b
  by_cases q : b = a
  · subst q; rw [nk_u_self, nk_u_self]
  · rw [nk_u_ne q, nk_u_ne q, nk_u_ne q]
theorem nk_u_swap {H : nk_AH} {a b : Nat} {e e' : nk_AC} (h : a ≠ b) : nk_u (nk_u H a e) b e' = nk_u (nk_u H b e') a e := by
  funext c
  by_cases q : c = a
  · subst q; rw [nk_u_ne h, nk_u_self, nk_u_self]
  · rw [nk_u_ne q]
    by_cases z : c = b
    · subst z; rw [nk_u_self, nk_u_self]
    · rw [nk_u_ne z, nk_u_ne z, nk_u_ne q]
theorem nk_u_push {H : nk_AH} {a b : Nat} {e e' e2 : nk_AC} (h : a ≠ b) : nk_u (nk_u (nk_u H a e) b e2) a e' = nk_u (nk_u H b e2) a e' := by
  rw [nk_u_swap (H := H) h, nk_u_u]
theorem nk_ne {H : nk_AH} {a b : Nat} {e : nk_AC} (h : H a = some e) (hb : H b = none) : a ≠ b := fun q => by rw [q, hb] at h; cases h
def nk_E : nk_AH := fun _ => none
/-- what lies where: the heap K bears the cells C, each at its address -/
def cR (K : nk_AH) (ad : Nat → Nat) (C : Nat → Option nk_AC) : Prop := (∀ l c, C l = some c → K (ad l) = some c) ∧ ∀ l l', (C l).isSome = true → (C l').isSome = true → ad l = ad l' → l = l'
theorem cR.set {K : nk_AH} {ad : Nat → Nat} {C : Nat → Option nk_AC} {l : Nat} {c c' : nk_AC} (h : cR K ad C) (hl : C l = some c) : cR (nk_u K (ad l) c') ad (va_up C l (some c')) := by
  have hs : ∀ k, (va_up C l (some c') k).isSome = true → (C k).isSome = true := fun k q => by
    by_cases e : k = l
    · rw [e, hl]; rfl
    · simpa [va_up, e] using q
  refine ⟨fun k x q => ?_, fun k k' q q' => h.2 k k' (hs k q) (hs k' q')⟩
  by_cases e : k = l
  · subst e
    have : x = c' := by simpa [va_up] using q.symm
    rw [this, nk_u_self]
  · have hk : C k = some x := by simpa [va_up, e] using q
    rw [nk_u_ne (fun z => e (h.2 k l (by rw [hk]; rfl) (by rw [hl]; rfl) z))]
    exact h.1 k x hk
theorem cR.new {K : nk_AH} {ad : Nat → Nat} {C : Nat → Option nk_AC} {l q : Nat} {c : nk_AC} (h : cR K ad C) (hq : K q = none) (hl : C l = none) : cR (nk_u K q c) (va_up ad l q) (va_up C l (some c)) := by
  have hne : ∀ k, (C k).isSome = true → ad k ≠ q := fun k z e => by
    obtain ⟨x, hx⟩ := Option.isSome_iff_exists.mp z
    have := h.1 k x hx
    rw [e, hq] at this; cases this
  refine ⟨fun k x z => ?_, fun k k' z z' e => ?_⟩
  · by_cases e : k = l
    · subst e
      have e1 : x = c := by simpa [va_up] using z.symm
      have e2 : va_up ad k q k = q := by simp [va_up]
      rw [e1, e2, nk_u_self]
    · have hk : C k = some x := by simpa [va_up, e] using z
      have e2 : va_up ad l q k = ad k := by simp [va_up, e]
      rw [e2, nk_u_ne (hne k (by rw [hk]; rfl))]
      exact h.1 k x hk
  · by_cases e1 : k = l
    · by_cases e2 : k' = l
      · rw [e1, e2]
      · have hk : (C k').isSome = true := by simpa [va_up, e2] using z'
        exact absurd (by simpa [va_up, e1, e2] using e.symm) (hne k' hk)
    · have hk : (C k).isSome = true := by simpa [va_up, e1] using z
      by_cases e2 : k' = l
      · exact absurd (by simpa [va_up, e1, e2] using e) (hne k hk)
      · have hk' : (C k').isSome = true := by simpa [va_up, e2] using z'
        exact h.2 k k' hk hk' (by simpa [va_up, e1, e2] using e)
theorem cR.drop {K : nk_AH} {ad : Nat → Nat} {C : Nat → Option nk_AC} (h : cR K ad C) (l : Nat) : cR K ad (va_up C l none) := by
  have hs : ∀ k x, va_up C l none k = some x → C k = some x := fun k x q => by
    by_cases e : k = l
    · simp [va_up, e] at q
    · simpa [va_up, e] using q
  refine ⟨fun k x q => h.1 k x (hs k x q), fun k k' q q' => ?_⟩
  obtain ⟨x, hx⟩ := Option.isSome_iff_exists.mp q
  obtain ⟨y, hy⟩ := Option.isSome_iff_exists.mp q'
  exact h.2 k k' (by rw [hs k x hx]; rfl) (by rw [hs k' y hy]; rfl)
theorem nk_S.to {G : nk_EG} {μ : nk_MI} {d mc ms : Nat} {av : List Value} {H H2 : nk_AH} {Φ : Option Value → nk_AH → Prop} (h : nk_S G μ d mc ms av H Φ) (e : H2 = H) : nk_S G μ d mc ms av H2 Φ := by subst e; exact h
