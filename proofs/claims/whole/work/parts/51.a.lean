/-! the tape of the class: tokens -/
abbrev tpc (y l : Nat) (at_ bh t w fl : Int32) : nk_AC := .inr (5, [.ref y, .int (nI l), .int at_, .int bh, .int t, .int w, .int fl])
abbrev lx_let (x : Int32) : Prop := (97 ≤ x.toInt ∧ x.toInt ≤ 122) ∨ x = 44 ∨ x = 59
/-- the token at a: what it is, its worth, the place behind it -/
def lxr (T : Nat → Int32) (l a : Nat) (t w bh : Int32) : Prop :=
  (l ≤ a → t = 257) ∧ (tp_one T l a → t = 256 ∧ w = nI (tp_num T l a) ∧ bh = nI (tp_end T l a)) ∧ (tp_fig T l a = true → ¬ tp_one T l a → t = 258) ∧
  (a < l → ¬ tp_fig T l a = true → bh = nI (a + 1) ∧ t = if lx_let (T a) then T a else 258)
theorem lx_t (x : Int32) : ¬ (x = 257 ∧ lx_let x) ∧ ¬ (x = 256 ∧ lx_let x) := by
  constructor <;> (rintro ⟨rfl, h⟩; revert h; decide)
theorem lx_nofig {x c : Int32} (hc : c = 117 ∨ c = 44 ∨ c = 59) (h : x = c) : lx_let x ∧ ¬ (48 ≤ x.toInt ∧ x.toInt ≤ 57) := by
  subst h
  rcases hc with rfl | rfl | rfl <;> decide
theorem lxr.is {T : Nat → Int32} {l a : Nat} {t w bh c : Int32} (h : lxr T l a t w bh) (hc : c = 117 ∨ c = 44 ∨ c = 59) : (t = c ↔ tp_is T l a c) ∧ (tp_is T l a c → bh = nI (a + 1)) := by
  have hcn : c ≠ 257 ∧ c ≠ 256 ∧ c ≠ 258 := by rcases hc with rfl | rfl | rfl <;> decide
  obtain ⟨h1, h2, h3, h4⟩ := h
  have nf : tp_is T l a c → ¬ tp_fig T l a = true := fun z y => (lx_nofig hc z.2).2 (tp_fig_iff.mp y).2
  refine ⟨⟨fun z => ?_, fun z => ?_⟩, fun z => (h4 z.1 (nf z)).1⟩
  · by_cases q : a < l
    · by_cases y : tp_fig T l a = true
      · by_cases x : tp_one T l a
        · exact absurd (z.symm.trans (h2 x).1) hcn.2.1
        · exact absurd (z.symm.trans (h3 y x)) hcn.2.2
      · have e := (h4 q y).2
        by_cases x : lx_let (T a)
        · rw [if_pos x] at e; exact ⟨q, e.symm.trans z⟩
        · rw [if_neg x] at e; exact absurd (z.symm.trans e) hcn.2.2
    · exact absurd (z.symm.trans (h1 (by omega))) hcn.1
  · have e := (h4 z.1 (nf z)).2
    have x := (lx_nofig hc z.2).1
    rw [if_pos x] at e
    exact e.trans z.2
theorem lxr.num {T : Nat → Int32} {l a : Nat} {t w bh : Int32} (h : lxr T l a t w bh) : t = 256 ↔ tp_one T l a := by
  obtain ⟨h1, h2, h3, h4⟩ := h
  refine ⟨fun z => ?_, fun z => (h2 z).1⟩
  subst z
  by_cases x : tp_one T l a
  · exact x
  · exfalso
    by_cases y : tp_fig T l a = true
    · exact absurd (h3 y x) (by decide)
    · by_cases q : a < l
      · have e := (h4 q y).2
        by_cases u : lx_let (T a)
        · rw [if_pos u] at e
          exact (lx_t (T a)).2 ⟨e.symm, u⟩
        · rw [if_neg u] at e; exact absurd e (by decide)
      · exact absurd (h1 (by omega)) (by decide)
theorem lxr.fin {T : Nat → Int32} {l a : Nat} {t w bh : Int32} (h : lxr T l a t w bh) : t = 257 ↔ l ≤ a := by
  obtain ⟨h1, h2, h3, h4⟩ := h
  refine ⟨fun z => ?_, h1⟩
  subst z
  by_cases q : a < l
  · exfalso
    by_cases x : tp_one T l a
    · exact absurd (h2 x).1 (by decide)
    · by_cases y : tp_fig T l a = true
      · exact absurd (h3 y x) (by decide)
      · have e := (h4 q y).2
        by_cases u : lx_let (T a)
        · rw [if_pos u] at e
          exact (lx_t (T a)).1 ⟨e.symm, u⟩
        · rw [if_neg u] at e; exact absurd e (by decide)
  · omega
theorem tp_kind_nlet {x : Int32} (h : ¬ lx_let x) : tp_kind x = 0 := by
  unfold tp_kind
  rw [if_neg, if_neg, if_neg, if_neg, if_neg]
  all_goals (rintro rfl; exact h (by decide))
theorem tp_kind_fig {x : Int32} (h : 48 ≤ x.toInt ∧ x.toInt ≤ 57) : tp_kind x = 0 := by
  unfold tp_kind
  rw [if_neg, if_neg, if_neg, if_neg, if_neg]
  all_goals (rintro rfl; revert h; decide)
theorem lxr.kind {T : Nat → Int32} {l a : Nat} {t w bh : Int32} (h : lxr T l a t w bh) : tp_kind t = (if a < l then tp_kind (T a) else 0) ∧ (¬ tp_kind t = 0 → a < l ∧ bh = nI (a + 1)) := by
  obtain ⟨h1, h2, h3, h4⟩ := h
  by_cases q : a < l
  · rw [if_pos q]
    by_cases y : tp_fig T l a = true
    · have z := tp_kind_fig (tp_fig_iff.mp y).2
      have k : tp_kind t = 0 := by
        by_cases x : tp_one T l a
        · rw [(h2 x).1]; rfl
        · rw [h3 y x]; rfl
      exact ⟨k.trans z.symm, fun x => absurd k x⟩
    · have e := (h4 q y).2
      by_cases u : lx_let (T a)
      · rw [if_pos u] at e
        exact ⟨by rw [e], fun _ => ⟨q, (h4 q y).1⟩⟩
      · rw [if_neg u] at e
        exact ⟨by rw [e, tp_kind_nlet u]; rfl, fun x => absurd (by rw [e]; rfl) x⟩
  · rw [if_neg q, h1 (by omega)]
    exact ⟨rfl, fun x => absurd rfl x⟩
/-- a run of figures, read up to e -/
def lx_w (T : Nat → Int32) (a e : Nat) (w : Int32) : Prop := (e = a → w = 0) ∧ (e = a + 1 → w = nI ((T a).toInt - 48).toNat) ∧ (e = a + 2 → w = nI (10 * ((T a).toInt - 48).toNat + ((T (a + 1)).toInt - 48).toNat))
theorem lx_w_s {T : Nat → Int32} {l a e : Nat} {w : Int32} (h : lx_w T a e w) (hae : a ≤ e) (hf : ∀ j, a ≤ j → j ≤ e → tp_fig T l j = true) : lx_w T a (e + 1) (w * 10 - w * 10 / 1000 * 1000 + T e - 48) := by
  have g0 := (tp_fig_iff.mp (hf a (Nat.le_refl _) hae)).2
  refine ⟨fun z => by omega, fun z => ?_, fun z => ?_⟩
  · have e1 : e = a := by omega
    rw [h.1 e1, e1, ← nk_fg g0]
    show (0 : Int32) + T a - 48 = _
    rw [Int32.zero_add]
  · have e1 : e = a + 1 := by omega
    have g1 := (tp_fig_iff.mp (hf (a + 1) (by omega) (by omega))).2
    rw [h.2.1 e1, e1]
    rw [show nI ((T a).toInt - 48).toNat * 10 = nI (((T a).toInt - 48).toNat * 10) from pk_mul _ 10]
    rw [show nI (((T a).toInt - 48).toNat * 10) - nI (((T a).toInt - 48).toNat * 10) / 1000 * 1000 = nI (((T a).toInt - 48).toNat * 10 % 1000) from pk_rem (d := 1000) (by omega) (by omega) (by omega)]
    rw [Nat.mod_eq_of_lt (by omega), Int32.sub_eq_add_neg, Int32.add_assoc, ← Int32.sub_eq_add_neg, nk_fg g1, nI_add]
    exact congrArg nI (by omega)
theorem lx_figs {T : Nat → Int32} {l a e : Nat} {w : Int32} (hae : a < e) (hf : ∀ j, a ≤ j → j < e → tp_fig T l j = true) (hn : ¬ tp_fig T l e = true) (hw : lx_w T a e w) : lxr T l a (if e - a ≤ 2 then 256 else 258) w (nI e) := by
  have f0 := hf a (Nat.le_refl _) hae
  have l0 := (tp_fig_iff.mp f0).1
  have ho : tp_one T l a ↔ e - a ≤ 2 := by
    constructor
    · intro ⟨_, z⟩
      by_cases q : e - a ≤ 2
      · exact q
      · exact absurd ⟨hf (a + 1) (by omega) (by omega), hf (a + 2) (by omega) (by omega)⟩ z
    · intro q
      refine ⟨f0, fun ⟨z1, z2⟩ => ?_⟩
      by_cases y : e = a + 1
      · rw [y] at hn; exact hn z1
      · rw [show e = a + 2 by omega] at hn; exact hn z2
  refine ⟨fun z => by omega, fun z => ?_, fun _ z => by rw [if_neg (fun y => z (ho.mpr y))], fun _ z => absurd f0 z⟩
  have q := ho.mp z
  rw [if_pos q]
  refine ⟨rfl, ?_, ?_⟩
  · unfold tp_num
    by_cases y : e = a + 1
    · rw [y] at hn
      rw [if_neg hn]
      exact hw.2.1 y
    · rw [if_pos (hf (a + 1) (by omega) (by omega))]
      exact hw.2.2 (by omega)
  · unfold tp_end
    by_cases y : e = a + 1
    · rw [y] at hn
      rw [if_neg hn, y]
    · rw [if_pos (hf (a + 1) (by omega) (by omega))]
      exact congrArg nI (by omega)
theorem nk_lo5 {x : Int32} (h1 : ¬ x = 97) (h2 : ¬ x = 98) (h3 : ¬ x = 99) (h4 : ¬ x = 100) (h5 : ¬ x = 114) : Op.lookupswitch.offset [((97 : Int), (51 : Int)), (98, 57), (99, 55), (100, 59), (114, 53)] 61 x.toInt = 61 := by
  have n : ∀ {c : Int32}, ¬ x = c → ¬ c.toInt = x.toInt := fun h z => h ((fa_eq _ _).mpr z.symm)
  have a1 : ¬ (97 : Int) = x.toInt := n h1
  have a2 : ¬ (98 : Int) = x.toInt := n h2
  have a3 : ¬ (99 : Int) = x.toInt := n h3
  have a4 : ¬ (100 : Int) = x.toInt := n h4
  have a5 : ¬ (114 : Int) = x.toInt := n h5
  rw [Op.lookupswitch.offset_cons, if_neg a1, Op.lookupswitch.offset_cons, if_neg a2, Op.lookupswitch.offset_cons, if_neg a3, Op.lookupswitch.offset_cons, if_neg a4, Op.lookupswitch.offset_cons, if_neg a5]
  rfl
/-- the state of the tape: fault k at a, or the token at a is at hand -/
def tS (T : Nat → Int32) (y l k a : Nat) (e : nk_AC) : Prop := ∃ bh t w, e = tpc y l (nI a) bh t w (nI k) ∧ (k = 0 → a ≤ l ∧ lxr T l a t w bh)
/-- a heap with a tape in it -/
def cTp (H : nk_AH) (T : Nat → Int32) (q y l k a : Nat) : Prop := (∃ e, H q = some e ∧ tS T y l k a e) ∧ (∃ f, H y = some (inc 110 f) ∧ ∀ j, j < 110 → f j = T j)
theorem tS.q {T : Nat → Int32} {y l k a : Nat} {e : nk_AC} (h : tS T y l k a e) {n : Nat} {f : Nat → Int32} : e ≠ inc n f := by
  obtain ⟨bh, t, w, rfl, -⟩ := h
  intro z; cases z
theorem cTp.ne {H : nk_AH} {T : Nat → Int32} {q y l k a : Nat} (h : cTp H T q y l k a) : q ≠ y := by
  obtain ⟨⟨e, h1, h2⟩, f, h3, -⟩ := h
  exact nk_cdif h1 h3 h2.q
theorem cTp.u {H : nk_AH} {T : Nat → Int32} {q y l k a k' a' : Nat} {e : nk_AC} (h : cTp H T q y l k a) (he : tS T y l k' a' e) : cTp (nk_u H q e) T q y l k' a' := by
  have hn := h.ne
  obtain ⟨-, f, h3, h4⟩ := h
  exact ⟨⟨e, nk_u_self _ _ _, he⟩, f, by rw [nk_u_ne hn.symm]; exact h3, h4⟩
