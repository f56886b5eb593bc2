/-! pure: what a set tells by its words -/
theorem nk_up_k {p : Nat → Bool} {t k : Nat} (h : k < t) : nk_up p k (t - k) = if p k = true then some k else sp_abv p t k := by
  unfold sp_abv
  rw [show t - k = (t - (k + 1)) + 1 by omega, nk_up]
theorem nk_dn_k {p : Nat → Bool} {k : Nat} : nk_dn p (k + 1) = if p k = true then some k else nk_dn p k := by rw [nk_dn]
theorem sp_it_of {p : Nat → Bool} {t : Nat} : ∀ {k x : Nat}, sp_it p t k = some x → p x = true ∧ x < t ∧ fb_ct p x = k
  | 0, x, h => by
    obtain ⟨h1, h2, h3, h4⟩ := nk_up_lt (p := p) (a := 0) (n := t) h
    exact ⟨h3, by omega, fb_ct_zero.mpr (fun j hj => h4 j (by omega) hj)⟩
  | k + 1, x, h => by
    rw [sp_it] at h
    cases q : sp_it p t k with
    | none => rw [q] at h; cases h
    | some y =>
      rw [q] at h
      obtain ⟨g1, g2, g3⟩ := sp_it_of q
      have h : nk_up p (y + 1) (t - (y + 1)) = some x := h
      obtain ⟨h1, h2, h3, h4⟩ := nk_up_lt h
      refine ⟨h3, by omega, ?_⟩
      rw [← fb_ct_more (p := p) (m := y + 1) (n := x) h1 (fun j j1 j2 => h4 j j1 j2), fb_ct_succ, if_pos g1, g3]
theorem sp_it_eq {p : Nat → Bool} {t : Nat} : ∀ {k x : Nat}, p x = true → x < t → fb_ct p x = k → sp_it p t k = some x
  | 0, x, h1, h2, h3 => nk_up_eq (by omega) (by omega) h1 (fun j _ hj => fb_ct_zero.mp h3 j hj)
  | k + 1, x, h1, h2, h3 => by
    obtain ⟨y, y1, y2, y3⟩ := fb_ct_kth (p := p) (k := k) (n := x) (by omega)
    rw [sp_it, sp_it_eq y2 (by omega) y3]
    show nk_up p (y + 1) (t - (y + 1)) = some x
    refine nk_up_eq (by omega) (by omega) h1 (fun j j1 j2 => ?_)
    have e := fb_ct_split p (y + 1) (x - (y + 1))
    rw [show y + 1 + (x - (y + 1)) = x by omega, h3, fb_ct_succ, if_pos y2, y3] at e
    have z : fb_ct (fun k => p (y + 1 + k)) (x - (y + 1)) = 0 := by omega
    have := fb_ct_zero.mp z (j - (y + 1)) (by omega)
    rw [show y + 1 + (j - (y + 1)) = j by omega] at this
    exact this
theorem sp_it_no {p : Nat → Bool} {t k : Nat} (h : fb_ct p t ≤ k) : sp_it p t k = none := by
  cases q : sp_it p t k with
  | none => rfl
  | some x =>
    obtain ⟨g1, g2, g3⟩ := sp_it_of q
    have := fb_ct_mono p (m := x + 1) (n := t) (by omega)
    rw [fb_ct_succ, if_pos g1] at this
    omega
def it_r (x : Int32) : Nat → Int32
  | 0 => x
  | i + 1 => pf_rest (it_r x i)
theorem it_r_bt {x : Int32} : ∀ {i : Nat}, i ≤ fb_ct (bt x) 32 → ∀ j, j < 32 → bt (it_r x i) j = (bt x j && decide (i ≤ fb_ct (bt x) j))
  | 0, _, j, _ => by rw [it_r, decide_eq_true (Nat.zero_le _), Bool.and_true]
  | i + 1, h, j, hj => by
    obtain ⟨t, t1, t2, t3⟩ := fb_ct_kth (p := bt x) (k := i) (n := 32) (by omega)
    have a1 : bt (it_r x i) t = true := by rw [it_r_bt (by omega) t t1, t2, decide_eq_true (by omega)]; rfl
    have a2 : ∀ k, k < t → bt (it_r x i) k = false := fun k hk => by
      rw [it_r_bt (by omega) k (by omega)]
      cases q : bt x k with
      | false => rfl
      | true =>
        have := fb_ct_mono (bt x) (m := k + 1) (n := t) (by omega)
        rw [fb_ct_succ, if_pos q] at this
        rw [decide_eq_false (by omega)]; rfl
    rw [it_r, bt_rest a1 a2 hj, it_r_bt (by omega) j hj]
    cases q : bt x j with
    | false => rfl
    | true =>
      by_cases e : j = t
      · subst e
        rw [decide_eq_true rfl, decide_eq_false (p := i + 1 ≤ _) (by omega)]; simp
      · have hne : fb_ct (bt x) j ≠ i := fun z => e (fb_ct_kth_one q t2 (by rw [z, t3]))
        rw [decide_eq_false e]
        by_cases z : i ≤ fb_ct (bt x) j
        · rw [decide_eq_true z, decide_eq_true (by omega)]; rfl
        · rw [decide_eq_false z, decide_eq_false (by omega)]; rfl
theorem it_r_lo {x : Int32} {i : Nat} (h : i < fb_ct (bt x) 32) : ∃ t, t < 32 ∧ bt x t = true ∧ fb_ct (bt x) t = i ∧ sp_lo (it_r x i) = nI t := by
  obtain ⟨t, t1, t2, t3⟩ := fb_ct_kth h
  refine ⟨t, t1, t2, t3, ?_⟩
  unfold sp_lo
  rw [nk_up_eq (p := bt (it_r x i)) (a := 0) (n := 32) (k := t) (by omega) (by omega) (by rw [it_r_bt (by omega) t t1, t2, decide_eq_true (by omega)]; rfl) (fun k _ hk => by
    rw [it_r_bt (by omega) k (by omega)]
    cases q : bt x k with
    | false => rfl
    | true =>
      have := fb_ct_mono (bt x) (m := k + 1) (n := t) (by omega)
      rw [fb_ct_succ, if_pos q] at this
      rw [decide_eq_false (by omega)]; rfl)]
  rfl
theorem gm_ct (f : Nat → Int32) (w : Nat) {t : Nat} (ht : t ≤ 32) : fb_ct (gm f) (32 * w + t) = fb_ct (gm f) (32 * w) + fb_ct (bt (f w)) t := by
  rw [fb_ct_split]
  congr 1
  exact fb_ct_cong (fun k hk => gm_w (by omega))
theorem gz_ct {f : Nat → Int32} {b n : Nat} (hz : gz f b) (h1 : nk_tp b ≤ n) (h2 : n ≤ 1024) : fb_ct (gm f) (nk_tp b) = fb_ct (gm f) n := fb_ct_more h1 (fun k k1 k2 => hz k k1 (by omega))
theorem sp_gp_inv {p : Nat → Bool} {t : Nat} : ∀ {n most key : Nat} {l : Option Nat}, (∀ x, l = some x → ∃ u, sp_abv p t x = some u ∧ most = u - x) → ∀ x, (sp_gp p t n most l key).2 = some x → ∃ u, sp_abv p t x = some u ∧ (sp_gp p t n most l key).1 = u - x
  | 0, most, key, l, h => h
  | n + 1, most, key, l, h => by
    rw [sp_gp]
    cases q : sp_abv p t key with
    | none => exact h
    | some u =>
      show ∀ x, (if most < u - key then sp_gp p t n (u - key) (some key) u else sp_gp p t n most l u).2 = some x → ∃ v, sp_abv p t x = some v ∧ (if most < u - key then sp_gp p t n (u - key) (some key) u else sp_gp p t n most l u).1 = v - x
      by_cases c : most < u - key
      · rw [if_pos c]
        exact sp_gp_inv (fun x hx => by cases hx; exact ⟨u, q, rfl⟩)
      · rw [if_neg c]
        exact sp_gp_inv h
theorem sp_gp0_inv {p : Nat → Bool} {t x : Nat} (h : (sp_gp0 p t).2 = some x) : ∃ u, sp_abv p t x = some u ∧ (sp_gp0 p t).1 = u - x := by
  unfold sp_gp0 at h ⊢
  cases q : nk_up p 0 t with
  | none => rw [q] at h; cases h
  | some k =>
    rw [q] at h
    exact sp_gp_inv (fun x hx => by cases hx) x h
/-- clusters -/
theorem sp_cl_bt {p : Nat → Bool} {t l x i : Nat} (hi : i < 32) : ∀ N, N ≤ 32 → bt (sp_cl p t l x N) i = decide (i < N ∧ p (x * 2 ^ l + i) = true ∧ ¬ nk_up p 0 t = some (x * 2 ^ l + i))
  | 0, _ => by rw [sp_cl, b_0]; exact (decide_eq_false (by omega)).symm
  | N + 1, h => by
    rw [sp_cl, b_or, sp_cl_bt hi N (by omega)]
    by_cases q : i = N
    · subst q
      rw [decide_eq_false (p := i < i ∧ _) (by omega), Bool.false_or]
      by_cases z : p (x * 2 ^ l + i) = true ∧ ¬ nk_up p 0 t = some (x * 2 ^ l + i)
      · rw [if_pos z, pf_b1_bt (by omega) hi, decide_eq_true rfl]; exact (decide_eq_true ⟨by omega, z⟩).symm
      · rw [if_neg z, b_0]; exact (decide_eq_false (fun w => z w.2)).symm
    · have e : bt (if p (x * 2 ^ l + N) = true ∧ ¬ nk_up p 0 t = some (x * 2 ^ l + N) then pf_b1 N else 0) i = false := by
        by_cases z : p (x * 2 ^ l + N) = true ∧ ¬ nk_up p 0 t = some (x * 2 ^ l + N)
        · rw [if_pos z, pf_b1_bt (by omega) hi, decide_eq_false q]
        · rw [if_neg z, b_0]
      rw [e, Bool.or_false]
      by_cases z : i < N ∧ p (x * 2 ^ l + i) = true ∧ ¬ nk_up p 0 t = some (x * 2 ^ l + i)
      · rw [decide_eq_true z]; exact (decide_eq_true ⟨by omega, z.2⟩).symm
      · rw [decide_eq_false z]; exact (decide_eq_false (fun w => z ⟨by omega, w.2⟩)).symm
theorem cl_r {l x : Nat} (hl : l ≤ 5) : x * 2 ^ l % 32 + 2 ^ l ≤ 32 := by
  have c : l = 0 ∨ l = 1 ∨ l = 2 ∨ l = 3 ∨ l = 4 ∨ l = 5 := by omega
  rcases c with rfl | rfl | rfl | rfl | rfl | rfl <;> omega
theorem cl_eq {f : Nat → Int32} {t l x : Nat} {h : Int32} (hl : l ≤ 5) (hh : ∀ i, i < 32 → bt h i = (gm f (32 * (x * 2 ^ l / 32) + i) && !decide (nk_up (gm f) 0 t = some (32 * (x * 2 ^ l / 32) + i)))) : cl_in h l x = sp_cl (gm f) t l x (2 ^ l) := by
  have h2 := nk_2l5 hl
  have hr := cl_r (x := x) hl
  apply b_ext
  intro i hi
  rw [cl_bits hl hi, sp_cl_bt hi _ h2.1]
  by_cases q : i < 2 ^ l
  · have e : 32 * (x * 2 ^ l / 32) + (x * 2 ^ l % 32 + i) = x * 2 ^ l + i := by omega
    rw [decide_eq_true q, Bool.true_and, hh _ (by omega), e]
    cases z : gm f (x * 2 ^ l + i) with
    | false => rw [Bool.false_and]; exact (decide_eq_false (fun w => by cases w.2.1)).symm
    | true =>
      rw [Bool.true_and]
      by_cases y : nk_up (gm f) 0 t = some (x * 2 ^ l + i)
      · rw [decide_eq_true y]; exact (decide_eq_false (fun w => w.2.2 y)).symm
      · rw [decide_eq_false y]; exact (decide_eq_true ⟨q, rfl, y⟩).symm
  · rw [decide_eq_false q, Bool.false_and]; exact (decide_eq_false (fun w => q w.1)).symm
theorem cl_none {f : Nat → Int32} {t v : Nat} (h : ∀ k, nk_up (gm f) 0 t = some k → ¬ k / 32 = v) : ∀ i, i < 32 → bt (f v) i = (gm f (32 * v + i) && !decide (nk_up (gm f) 0 t = some (32 * v + i))) := fun i hi => by
  rw [decide_eq_false (fun q => h _ q (by omega)), gm_w hi]; simp
theorem cl_rest {f : Nat → Int32} {t v k : Nat} (h : nk_up (gm f) 0 t = some k) (hv : k / 32 = v) : ∀ i, i < 32 → bt (pf_rest (f v)) i = (gm f (32 * v + i) && !decide (nk_up (gm f) 0 t = some (32 * v + i))) := fun i hi => by
  obtain ⟨h1, h2, h3, h4⟩ := nk_up_lt h
  have a1 : bt (f v) (k % 32) = true := by rw [← hv]; exact h3
  have a2 : ∀ j, j < k % 32 → bt (f v) j = false := fun j hj => by
    have := h4 (32 * v + j) (by omega) (by omega)
    rw [gm_w (by omega)] at this; exact this
  rw [bt_rest a1 a2 hi, gm_w hi, h]
  congr 2
  by_cases q : i = k % 32
  · rw [decide_eq_true q]; exact (decide_eq_true (by congr 1; omega)).symm
  · rw [decide_eq_false q]; exact (decide_eq_false (fun z => q (by have := Option.some.inj z; omega))).symm
theorem sp_none {f : Nat → Int32} {b : Nat} (hz : gz f b) (ht : nk_tp b ≤ 1024) : nk_up (gm f) 0 (nk_tp b) = none ↔ fb_ct (gm f) 1024 = 0 := by
  constructor
  · intro h
    refine fb_ct_zero.mpr (fun k hk => ?_)
    rcases Nat.lt_or_ge k (nk_tp b) with q | q
    · exact nk_up_none h k (by omega) (by omega)
    · exact hz k q hk
  · intro h
    exact nk_up_no (fun j _ hj => fb_ct_zero.mp h j (by omega))
theorem bsm_c {p : Nat → Bool} {b x : Nat} (h10 : b ≤ 10) : bsm (b / 2) (sp_c p b x) := fun i h1 h2 => by
  have := nk_2l h10
  rw [sp_cl_bt h2 _ this]; exact decide_eq_false (by omega)
theorem sp_sm_bt {p : Nat → Bool} {b i : Nat} (hi : i < 32) : ∀ N, N ≤ 32 → bt (sp_sm p b N) i = decide (i < N ∧ ¬ sp_c p b i = 0)
  | 0, _ => by rw [sp_sm, b_0]; exact (decide_eq_false (by omega)).symm
  | N + 1, h => by
    rw [sp_sm, b_or, sp_sm_bt hi N (by omega)]
    by_cases q : i = N
    · subst q
      rw [decide_eq_false (p := i < i ∧ _) (by omega), Bool.false_or]
      by_cases z : sp_c p b i = 0
      · rw [if_pos z, b_0]; exact (decide_eq_false (fun w => w.2 z)).symm
      · rw [if_neg z, pf_b1_bt (by omega) hi, decide_eq_true rfl]; exact (decide_eq_true ⟨by omega, z⟩).symm
    · have e : bt (if sp_c p b N = 0 then 0 else pf_b1 N) i = false := by
        by_cases z : sp_c p b N = 0
        · rw [if_pos z, b_0]
        · rw [if_neg z, pf_b1_bt (by omega) hi, decide_eq_false q]
      rw [e, Bool.or_false]
      by_cases z : i < N ∧ ¬ sp_c p b i = 0
      · rw [decide_eq_true z]; exact (decide_eq_true ⟨by omega, z.2⟩).symm
      · rw [decide_eq_false z]; exact (decide_eq_false (fun w => z ⟨by omega, w.2⟩)).symm
theorem bsm_s {p : Nat → Bool} {b : Nat} (h10 : b ≤ 10) : bsm (b - b / 2) (sp_s p b) := fun i h1 h2 => by
  have := nk_2h h10
  rw [sp_sm_bt h2 _ this]; exact decide_eq_false (by omega)
theorem nk_up_lt2 {p : Nat → Bool} {t k : Nat} (h : nk_up p 0 t = some k) : k < t := by have := nk_up_lt h; omega
theorem nk_either {r s : Option Nat} (hr : ∀ k, r = some k → k < 2 ^ 31) : (if nk_rN r = -1000000 then nk_rN s else nk_rN r) = nk_rN (if r = none then s else r) := by
  by_cases q : r = none
  · rw [if_pos q, if_pos ((nk_rN_none hr).mpr q)]
  · rw [if_neg q, if_neg (fun z => q ((nk_rN_none hr).mp z))]
theorem nk_neN {k : Nat} (h : k < 2 ^ 31) : ¬ nI k = -1000000 := fun z => by
  have := (fa_eq _ _).mp z
  rw [nI_toInt h, show (-1000000 : Int32).toInt = -1000000 from rfl] at this
  omega
