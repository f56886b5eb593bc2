/-! sets whose words are told up to their number; shelves -/
theorem nk_S.x {G : nk_EG} {μ : nk_MI} {d mc ms : Nat} {av : List Value} {H H2 : nk_AH} {Φ Ψ : Option Value → nk_AH → Prop} (hs : ∀ a, (H a).isSome = (H2 a).isSome) (hp : ∀ Hc, nk_P G H Hc → nk_P G H2 Hc) (h : nk_S G μ d mc ms av H2 Φ) (hq : ∀ r H', Φ r H' → ∃ H'', Ψ r H'' ∧ (∀ a, (H'' a).isSome = (H' a).isSome) ∧ ∀ Hc, nk_P G H' Hc → nk_P G H'' Hc) : nk_S G μ d mc ms av H Ψ := by
  have eA : ∀ sz, nk_A H sz = nk_A H2 sz := fun sz => funext fun q => by unfold nk_A; rw [hs q]
  intro l sz p e ha hc hk s m args below hf happ hpre htr
  obtain ⟨p1, p2, p3, p4, p5, p6⟩ := hpre
  rw [eA sz] at p5
  obtain ⟨t, o, h1, h2, h3, ⟨r, H', g1, g2, g3, g4, g5⟩, L, h6, h7⟩ := h l sz p e ha hc hk s m args below hf happ ⟨p1, p2, hp _ p3, p4, p5, p6⟩ htr
  obtain ⟨H'', f1, f2, f3⟩ := hq r H' g2
  refine ⟨t, o, h1, h2, h3, ⟨r, H'', g1, f1, f3 _ g3, fun a q => ?_, ?_⟩, L, h6, ?_⟩
  · rw [eA sz]; exact g4 a (by rw [← f2 a]; exact q)
  · rw [eA sz]; exact g5
  · rw [eA sz]; exact h7
theorem nk_u_at {H : nk_AH} {a : Nat} {e : nk_AC} (h : H a = some e) : nk_u H a e = H := by
  funext b
  by_cases q : b = a
  · rw [q, nk_u_self, h]
  · rw [nk_u_ne q]
theorem nk_u_some {H : nk_AH} {a : Nat} {e e' : nk_AC} (b : Nat) : (nk_u H a e b).isSome = (nk_u H a e' b).isSome := by
  by_cases q : b = a
  · rw [q, nk_u_self, nk_u_self]; rfl
  · rw [nk_u_ne q, nk_u_ne q]
/-- a set, its words told up to their number -/
def cX (H : nk_AH) (q w j : Nat) (κ : Int32) (b : Nat) (F : Nat → Int32) : Prop := ∃ f, cK H q w j κ b f ∧ ∀ v, v < nk_wm b → f v = F v
theorem cX.o {H : nk_AH} {q w j b : Nat} {κ : Int32} {F : Nat → Int32} (h : cX H q w j κ b F) : H q = some (.inr (2, [.int (nI j), .int κ, .int (nI (nk_tp b)), .int (nI (b / 2)), .int (nI (b - b / 2)), .ref w])) := by
  obtain ⟨f, h1, -⟩ := h
  exact h1.1
theorem cX.i {G : nk_EG} {μ : nk_MI} {d : Nat} {av : List Value} {v : Int32} {H : nk_AH} {q w j b : Nat} {κ : Int32} {F : Nat → Int32} (hk : cX H q w j κ b F) (h : ∀ H', cK H' q w j κ b F → nk_Si G μ d av H' v H') : nk_Si G μ d av H v H := by
  obtain ⟨f, h1, e⟩ := hk
  have h2 := nk_u_at h1.2
  have h3 : cK (nk_u H w (.inl (.int, nk_wm b, .inl F))) q w j κ b F := h1.u
  refine nk_S.x (H2 := nk_u H w (.inl (.int, nk_wm b, .inl F))) (fun a => ?_) (fun Hc hp => ?_) (h _ h3) (fun r H' hr => ⟨H, ⟨hr.1, rfl⟩, fun a => ?_, fun Hc hp => ?_⟩)
  · conv => lhs; rw [← h2]
    exact nk_u_some a
  · rw [← h2] at hp
    exact hp.x e
  · rw [hr.2]
    conv => lhs; rw [← h2]
    exact nk_u_some a
  · rw [hr.2] at hp
    rw [← h2]
    exact hp.x (fun j hj => (e j hj).symm)
theorem cX.le {H H' : nk_AH} {q w j b : Nat} {κ : Int32} {F : Nat → Int32} (h : cX H q w j κ b F) (hl : nk_le H H') : cX H' q w j κ b F := by
  obtain ⟨f, h1, h2⟩ := h
  exact ⟨f, ⟨hl _ _ h1.1, hl _ _ h1.2⟩, h2⟩
theorem cX.at {H H' : nk_AH} {q w j b : Nat} {κ : Int32} {F : Nat → Int32} (h : cX H q w j κ b F) (h1 : H' q = H q) (h2 : H' w = H w) : cX H' q w j κ b F := by
  obtain ⟨f, k1, k2⟩ := h
  exact ⟨f, ⟨by rw [h1]; exact k1.1, by rw [h2]; exact k1.2⟩, k2⟩
/-- the references of a shelf's sets -/
def zq (m : Nat) (qs : Nat → Nat) : Nat → Option Nat := fun s => if s < m then some (qs s) else none
theorem zq_at {m s : Nat} {qs : Nat → Nat} (h : s < m) : va_rf (zq m qs s) = .ref (qs s) := by unfold zq; rw [if_pos h]; rfl
theorem zq_up {m x : Nat} {qs : Nat → Nat} : va_up (zq m qs) m (some x) = zq (m + 1) (va_up qs m x) := by
  funext s
  by_cases e : s = m
  · subst e; simp [va_up, zq]
  · by_cases h : s < m
    · simp [va_up, zq, e, h, Nat.lt_succ_of_lt h]
    · simp [va_up, zq, e, h, show ¬ s < m + 1 by omega]
abbrev shc (b a m : Nat) : nk_AC := .inr (4, [.int (nI b), .int (nI (nk_tp b)), .ref a, .int (nI m)])
abbrev stc (m : Nat) (qs : Nat → Nat) : nk_AC := .inl (.object RX2, 4, .inr (.inr (.inr (.inr (zq m qs)))))
abbrev kyc (j : Nat) (κ : Int32) (b w : Nat) : nk_AC := .inr (2, [.int (nI j), .int κ, .int (nI (nk_tp b)), .int (nI (b / 2)), .int (nI (b - b / 2)), .ref w])
abbrev inc (n : Nat) (f : Nat → Int32) : nk_AC := .inl (.int, n, .inl f)
/-- a shelf -/
def cS (H : nk_AH) (q a m b : Nat) (qs ws : Nat → Nat) (κ : Nat → Int32) (F : Nat → Nat → Int32) : Prop := H q = some (shc b a m) ∧ H a = some (stc m qs) ∧ ∀ s, s < m → cX H (qs s) (ws s) s (κ s) b (F s)
theorem cS.le {H H' : nk_AH} {q a m b : Nat} {qs ws : Nat → Nat} {κ : Nat → Int32} {F : Nat → Nat → Int32} (h : cS H q a m b qs ws κ F) (hl : nk_le H H') : cS H' q a m b qs ws κ F := ⟨hl _ _ h.1, hl _ _ h.2.1, fun s hs => (h.2.2 s hs).le hl⟩
/-- the keys that all of the first s sets have, in word v, of a span -/
def cmn (p : Nat → Nat → Bool) (v : Nat) (a c : Int) (s : Nat) : Int32 := wd (fun i => sp_all p (32 * v + i) s && decide (a ≤ ((32 * v + i : Nat) : Int) ∧ ((32 * v + i : Nat) : Int) ≤ c))
theorem cmn_0 {p : Nat → Nat → Bool} {v : Nat} {a c : Int} : cmn p v a c 0 = sw v a c := b_ext (fun i hi => by
  unfold cmn
  rw [bt_wd hi, bt_sw hi, sp_all, Bool.true_and])
theorem cmn_s {F : Nat → Nat → Int32} {v : Nat} {a c : Int} {s : Nat} : cmn (fun s => gm (F s)) v a c s &&& F s v = cmn (fun s => gm (F s)) v a c (s + 1) := b_ext (fun i hi => by
  unfold cmn
  rw [b_and, bt_wd hi, bt_wd hi, sp_all, gm_w hi]
  cases sp_all (fun s => gm (F s)) (32 * v + i) s <;> simp [Bool.and_comm])
def gal (p : Nat → Nat → Bool) (m : Nat) : Nat → Int32 := fun v => wd (fun i => sp_all p (32 * v + i) m)
theorem gal_gm {p : Nat → Nat → Bool} {m : Nat} : gm (gal p m) = fun j => sp_all p j m := by
  funext k
  have e : k = 32 * (k / 32) + k % 32 := by omega
  show bt (gal p m (k / 32)) (k % 32) = _
  unfold gal
  rw [bt_wd (Nat.mod_lt _ (by omega)), ← e]
theorem cmn_m {p : Nat → Nat → Bool} {v m : Nat} {a c : Int} : cmn p v a c m = gal p m v &&& sw v a c := b_ext (fun i hi => by
  unfold cmn gal
  rw [b_and, bt_wd hi, bt_wd hi, bt_sw hi])
theorem sp_all_0 {p : Nat → Nat → Bool} {k : Nat} (h : p 0 k = false) : ∀ m, 1 ≤ m → sp_all p k m = false
  | 0, h1 => by omega
  | 1, _ => by rw [sp_all, sp_all, h]; rfl
  | m + 2, _ => by rw [sp_all, sp_all_0 h (m + 1) (by omega)]; rfl
theorem gal_gz {F : Nat → Nat → Int32} {m b : Nat} (h1 : 1 ≤ m) (hz : ∀ s, s < m → gz (F s) b) : gz (gal (fun s => gm (F s)) m) b := fun k k1 k2 => by
  rw [gal_gm]
  exact sp_all_0 (hz 0 h1 k k1 k2) m h1
/-- the keys of a span in word v that none of the sets of x among the first s has -/
def bar (p : Nat → Nat → Bool) (x : Int32) (v : Nat) (a c : Int) (s : Nat) : Int32 := wd (fun i => !sp_any p x (32 * v + i) s && decide (a ≤ ((32 * v + i : Nat) : Int) ∧ ((32 * v + i : Nat) : Int) ≤ c))
theorem bar_0 {p : Nat → Nat → Bool} {x : Int32} {v : Nat} {a c : Int} : bar p x v a c 0 = sw v a c := b_ext (fun i hi => by
  unfold bar
  rw [bt_wd hi, bt_sw hi, sp_any]; simp)
theorem bar_y {F : Nat → Nat → Int32} {x : Int32} {v : Nat} {a c : Int} {s : Nat} (h : bt x s = true) : bar (fun s => gm (F s)) x v a c s &&& (F s v ^^^ -1) = bar (fun s => gm (F s)) x v a c (s + 1) := b_ext (fun i hi => by
  unfold bar
  rw [b_and, bt_wd hi, bt_wd hi, sp_any, gm_w hi, h, b_xor, b_m1 i hi]
  cases sp_any (fun s => gm (F s)) x (32 * v + i) s <;> simp [Bool.and_comm])
theorem bar_n {p : Nat → Nat → Bool} {x : Int32} {v : Nat} {a c : Int} {s : Nat} (h : ¬ bt x s = true) : bar p x v a c s = bar p x v a c (s + 1) := b_ext (fun i hi => by
  unfold bar
  rw [bt_wd hi, bt_wd hi, sp_any, Bool.eq_false_iff.mpr h]
  simp)
theorem bar_m {p : Nat → Nat → Bool} {x : Int32} {v m a c : Nat} : bar p x v (a : Int) (c : Int) m = 0 ↔ ∀ k, 32 * v ≤ k → k < 32 * (v + 1) → a ≤ k → k ≤ c → sp_any p x k m = true := by
  constructor
  · intro h k k1 k2 k3 k4
    have e : bt (bar p x v (a : Int) (c : Int) m) (k - 32 * v) = false := by rw [h]; exact b_0 _
    unfold bar at e
    rw [bt_wd (by omega), show 32 * v + (k - 32 * v) = k by omega] at e
    cases z : sp_any p x k m with
    | true => rfl
    | false => rw [z] at e; simp at e; omega
  · intro h
    refine b_ext (fun i hi => ?_)
    unfold bar
    rw [bt_wd hi, b_0]
    cases z : sp_any p x (32 * v + i) m with
    | true => rfl
    | false =>
      simp
      intro z1
      by_cases z2 : 32 * v + i ≤ c
      · have := h (32 * v + i) (by omega) (by omega) (by omega) z2
        rw [z] at this; cases this
      · omega
theorem sp_cov_iff {p : Nat → Nat → Bool} {m : Nat} {x : Int32} : ∀ {n a : Nat}, sp_cov p m x a n = true ↔ ∀ k, a ≤ k → k < a + n → sp_any p x k m = true
  | 0, a => by rw [sp_cov]; exact ⟨fun _ k h1 h2 => by omega, fun _ => rfl⟩
  | n + 1, a => by
    rw [sp_cov, Bool.and_eq_true, sp_cov_iff]
    constructor
    · rintro ⟨h1, h2⟩ k k1 k2
      by_cases e : k = a
      · rw [e]; exact h1
      · exact h2 k (by omega) (by omega)
    · intro h
      exact ⟨h a (Nat.le_refl _) (by omega), fun k k1 k2 => h k (by omega) (by omega)⟩
def fo (r : Option Nat) : Int32 := match r with
  | none => 0
  | some x => nI x
theorem nk_pw4 : ∀ m, m ≤ 4 → (1 : Int32) <<< (nI m &&& 31) = nI (2 ^ m) ∧ 2 ^ m ≤ 16 ∧ 1 ≤ 2 ^ m := by decide +kernel
theorem fo_n {r : Option Nat} {j : Nat} (h : ∀ q, r = some q → 1 ≤ q ∧ q ≤ j) (hj : j < 2 ^ 31) : fo r = 0 ↔ r = none := by
  cases r with
  | none => exact ⟨fun _ => rfl, fun _ => rfl⟩
  | some x =>
    obtain ⟨h1, h2⟩ := h x rfl
    refine ⟨fun z => ?_, fun z => by cases z⟩
    have : nI x = nI 0 := z
    have := nk_eqI this (by omega) (by omega)
    omega
theorem cv_n1 {cov : Nat → Bool} {j : Nat} (h : ¬ cov (j + 1) = true) : fo (sp_cv cov (j + 1)) = fo (sp_cv cov j) := by rw [sp_cv, if_neg (fun z => h z.1)]
theorem cv_n2 {cov : Nat → Bool} {j : Nat} (hl : ∀ q, sp_cv cov j = some q → 1 ≤ q ∧ q ≤ j) (h0 : ¬ fo (sp_cv cov j) = 0) (h : ¬ fb_ct (bt (nI (j + 1))) 32 < fb_ct (bt (fo (sp_cv cov j))) 32) : fo (sp_cv cov (j + 1)) = fo (sp_cv cov j) := by
  cases z : sp_cv cov j with
  | none => rw [z] at h0; exact absurd rfl h0
  | some x =>
    rw [z] at h
    rw [sp_cv, if_neg (fun y => h (y.2 x z)), z]
theorem cv_y {cov : Nat → Bool} {j : Nat} (hl : ∀ q, sp_cv cov j = some q → 1 ≤ q ∧ q ≤ j) (h : cov (j + 1) = true) (hf : fo (sp_cv cov j) = 0 ∨ fb_ct (bt (nI (j + 1))) 32 < fb_ct (bt (fo (sp_cv cov j))) 32) (hj : j < 16) : fo (sp_cv cov (j + 1)) = nI (j + 1) := by
  have e : cov (j + 1) = true ∧ ∀ q, sp_cv cov j = some q → fb_ct (bt (nI (j + 1))) 32 < fb_ct (bt (nI q)) 32 := ⟨h, fun x z => by
    rw [z] at hf
    rcases hf with y | y
    · obtain ⟨z1, z2⟩ := hl x z
      have := nk_eqI (b := 0) y (by omega) (by omega)
      omega
    · exact y⟩
  rw [sp_cv, if_pos e]
  rfl
