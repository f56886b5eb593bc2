/-! pure: words of a set, spans of keys -/
def wdn (p : Nat → Bool) : Nat → Int32
  | 0 => 0
  | n + 1 => wdn p n ||| (if p n = true then pf_b1 n else 0)
def wd (p : Nat → Bool) : Int32 := wdn p 32
theorem bt_wdn {p : Nat → Bool} {i : Nat} (hi : i < 32) : ∀ n, n ≤ 32 → bt (wdn p n) i = (decide (i < n) && p i)
  | 0, _ => by rw [wdn, b_0]; rfl
  | n + 1, h => by
    rw [wdn, b_or, bt_wdn hi n (by omega)]
    by_cases q : i = n
    · subst q
      rw [decide_eq_false (Nat.lt_irrefl i), Bool.false_and, Bool.false_or, decide_eq_true (Nat.lt_succ_self i), Bool.true_and]
      cases z : p i with
      | true => rw [if_pos rfl, pf_b1_bt (by omega) hi, decide_eq_true rfl]
      | false => rw [if_neg (by decide), b_0]
    · have e : bt (if p n = true then pf_b1 n else 0) i = false := by
        by_cases z : p n = true
        · rw [if_pos z, pf_b1_bt (by omega) hi, decide_eq_false q]
        · rw [if_neg z, b_0]
      rw [e, Bool.or_false]
      congr 1
      by_cases z : i < n
      · rw [decide_eq_true z, decide_eq_true (by omega)]
      · rw [decide_eq_false z, decide_eq_false (by omega)]
theorem bt_wd {p : Nat → Bool} {i : Nat} (hi : i < 32) : bt (wd p) i = p i := by
  unfold wd; rw [bt_wdn hi 32 (Nat.le_refl _), decide_eq_true hi, Bool.true_and]
def gm (g : Nat → Int32) (k : Nat) : Bool := bt (g (k / 32)) (k % 32)
theorem gm_w {g : Nat → Int32} {w i : Nat} (hi : i < 32) : gm g (32 * w + i) = bt (g w) i := by
  unfold gm; rw [show (32 * w + i) / 32 = w by omega, show (32 * w + i) % 32 = i by omega]
def sw (w : Nat) (a b : Int) : Int32 := wd (fun i => decide (a ≤ ((32 * w + i : Nat) : Int) ∧ ((32 * w + i : Nat) : Int) ≤ b))
theorem bt_sw {w i : Nat} {a b : Int} (hi : i < 32) : bt (sw w a b) i = decide (a ≤ ((32 * w + i : Nat) : Int) ∧ ((32 * w + i : Nat) : Int) ≤ b) := bt_wd hi
theorem sw_d {w : Nat} {a : Int32} (hw : w ≤ 32) (ha : -2000 ≤ a.toInt ∧ a.toInt ≤ 2000) : (a - nI (w * 32)).toInt = a.toInt - 32 * (w : Int) := by
  have e : (nI (w * 32)).toInt = ((w * 32 : Nat) : Int) := nI_toInt (by omega)
  rw [fb_subI (by omega) (by omega), e]; omega
theorem sw_no {w : Nat} {a b : Int} (h : ¬ max (a - 32 * (w : Int)) 0 ≤ min (b - 32 * (w : Int)) 31) : (0 : Int32) = sw w a b := by
  apply b_ext
  intro i hi
  rw [b_0, bt_sw hi]
  exact (decide_eq_false (by omega)).symm
theorem sw_yes {w L U : Nat} {a b : Int} (hL : (L : Int) = max (a - 32 * (w : Int)) 0) (hU : (U : Int) = min (b - 32 * (w : Int)) 31) (h : L ≤ U) : ((-1 : Int32) <<< (nI L &&& 31)) &&& ju (-1) (31 - U) = sw w a b := by
  apply b_ext
  intro i hi
  have hU31 : U ≤ 31 := by omega
  rw [b_and, b_shl L (by omega) _ hi, b_ushr _ (by omega), bt_sw hi]
  by_cases q : L ≤ i
  · by_cases z : i ≤ U
    · rw [decide_eq_true q, b_m1 _ (by omega), b_m1 _ (by omega)]
      exact (decide_eq_true (by omega)).symm
    · rw [b_big (x := -1) (i := 31 - U + i) (by omega), Bool.and_false]
      exact (decide_eq_false (by omega)).symm
  · rw [decide_eq_false q, Bool.false_and, Bool.false_and]
    exact (decide_eq_false (by omega)).symm
theorem sw_low {x : Int32} : (pf_mx x 0).toInt = max x.toInt 0 := by
  unfold pf_mx
  by_cases q : x ≤ 0
  · rw [if_pos q]; have := (fa_le _ _).mp q; show (0 : Int) = _; have e : (0 : Int32).toInt = 0 := rfl; omega
  · rw [if_neg q]; have := (fa_lt _ _).mp (Int32.not_le.mp q); have e : (0 : Int32).toInt = 0 := rfl; omega
theorem sw_high {x : Int32} : (if 31 < x then 31 else x : Int32).toInt = min x.toInt 31 := by
  have e : (31 : Int32).toInt = 31 := rfl
  by_cases q : 31 < x
  · rw [if_pos q]; have := (fa_lt _ _).mp q; omega
  · rw [if_neg q]; have := (fa_le _ _).mp (Int32.not_lt.mp q); omega
theorem nI_ofI {x : Int32} (h : 0 ≤ x.toInt) : x = nI x.toInt.toNat := by
  rw [fa_eq, nI_toInt (by have := fb_rng x; omega)]
  omega
def cwp (g : Nat → Int32) (a b : Int) (k : Nat) : Bool := gm g k && decide (a ≤ (k : Int) ∧ (k : Int) ≤ b)
theorem cw_bt {g : Nat → Int32} {a b : Int} {w i : Nat} (hi : i < 32) : bt (g w &&& sw w a b) i = cwp g a b (32 * w + i) := by
  unfold cwp; rw [b_and, bt_sw hi, gm_w hi]
theorem cw_step (g : Nat → Int32) (a b : Int) (w : Nat) : fb_ct (cwp g a b) (32 * w) + fb_ct (bt (g w &&& sw w a b)) 32 = fb_ct (cwp g a b) (32 * (w + 1)) := by
  rw [show 32 * (w + 1) = 32 * w + 32 by omega, fb_ct_split]
  congr 1
  exact fb_ct_cong (fun k hk => cw_bt hk)
theorem fb_ct_more {p : Nat → Bool} {m n : Nat} (h : m ≤ n) (hz : ∀ k, m ≤ k → k < n → p k = false) : fb_ct p m = fb_ct p n := by
  rw [show n = m + (n - m) by omega, fb_ct_split, (fb_ct_zero (p := fun k => p (m + k)) (n := n - m)).mpr (fun k hk => hz _ (by omega) (by omega)), Nat.add_zero]
theorem wm_f : ∀ b, b ≤ 10 → 2 ≤ b → 1 ≤ nk_wm b ∧ nk_wm b ≤ 32 ∧ nk_tp b ≤ 32 * nk_wm b ∧ (5 ≤ b → nk_tp b = 32 * nk_wm b) ∧ (b < 5 → nk_wm b = 1) ∧ nk_tp b = 2 ^ b ∧ nk_tp b ≤ 1024 ∧ 4 ≤ nk_tp b := by decide +kernel
def gz (g : Nat → Int32) (b : Nat) : Prop := ∀ k, nk_tp b ≤ k → k < 1024 → gm g k = false
theorem cw_end {g : Nat → Int32} {a c : Int} {b : Nat} (h2 : 2 ≤ b) (h10 : b ≤ 10) (hz : gz g b) : fb_ct (cwp g a c) (32 * nk_wm b) = fb_ct (cwp g a c) 1024 := by
  have hw := wm_f b h10 h2
  exact fb_ct_more (by omega) (fun k k1 k2 => by unfold cwp; rw [hz k (by omega) k2, Bool.false_and])
theorem cw_all {g : Nat → Int32} {b : Nat} (hz : gz g b) : fb_ct (cwp g 0 ((nk_tp b : Int) - 1)) 1024 = fb_ct (gm g) 1024 := fb_ct_cong (fun k hk => by
  unfold cwp
  by_cases q : k < nk_tp b
  · rw [decide_eq_true (by omega), Bool.and_true]
  · rw [hz k (by omega) hk, Bool.false_and])
theorem cw_rank {g : Nat → Int32} {k : Nat} (hk : k ≤ 1024) : fb_ct (cwp g 0 ((k : Int) - 1)) 1024 = fb_ct (gm g) k := by
  rw [← fb_ct_more (p := cwp g 0 ((k : Int) - 1)) hk (fun j j1 j2 => by unfold cwp; rw [decide_eq_false (by omega), Bool.and_false])]
  exact fb_ct_cong (fun j hj => by unfold cwp; rw [decide_eq_true (by omega), Bool.and_true])
theorem cw_lk {g : Nat → Int32} {k o : Nat} (ho : o ≤ 1024) : fb_ct (cwp g ((k : Int) + 1) ((o : Int) - 1)) 1024 = lk_n (gm g) k o := by
  unfold lk_n
  rcases Nat.lt_or_ge (k + 1) o with q | q
  · rw [← fb_ct_more (p := cwp g ((k : Int) + 1) ((o : Int) - 1)) ho (fun j j1 j2 => by unfold cwp; rw [decide_eq_false (by omega), Bool.and_false])]
    rw [show fb_ct (cwp g ((k : Int) + 1) ((o : Int) - 1)) o = fb_ct (cwp g ((k : Int) + 1) ((o : Int) - 1)) ((k + 1) + (o - (k + 1))) by rw [show (k + 1) + (o - (k + 1)) = o by omega], fb_ct_split]
    rw [(fb_ct_zero (p := cwp g ((k : Int) + 1) ((o : Int) - 1)) (n := k + 1)).mpr (fun j hj => by unfold cwp; rw [decide_eq_false (by omega), Bool.and_false]), Nat.zero_add]
    exact fb_ct_cong (fun j hj => by unfold cwp; rw [decide_eq_true (by omega), Bool.and_true])
  · rw [show o - (k + 1) = 0 by omega]
    exact fb_ct_zero.mpr (fun j hj => by unfold cwp; rw [decide_eq_false (by omega), Bool.and_false])
/-- the least one from k on -/
theorem fr_hit {g : Nat → Int32} {b k w t : Nat} (hI : ∀ j, k ≤ j → j < 32 * w → gm g j = false) (ht : t < 32) (h1 : bt (g w &&& sw w (k : Int) ((nk_tp b : Int) - 1)) t = true) (h2 : ∀ j, j < t → bt (g w &&& sw w (k : Int) ((nk_tp b : Int) - 1)) j = false) : nk_up (gm g) k (nk_tp b - k) = some (32 * w + t) := by
  rw [cw_bt ht] at h1
  unfold cwp at h1
  rw [Bool.and_eq_true, decide_eq_true_iff] at h1
  refine nk_up_eq (by omega) (by omega) h1.1 (fun j j1 j2 => ?_)
  rcases Nat.lt_or_ge j (32 * w) with q | q
  · exact hI j j1 q
  · have h3 := h2 (j - 32 * w) (by omega)
    rw [cw_bt (by omega), show 32 * w + (j - 32 * w) = j by omega] at h3
    unfold cwp at h3
    rw [decide_eq_true (by omega), Bool.and_true] at h3
    exact h3
theorem fr_miss {g : Nat → Int32} {b k w : Nat} (hz : gz g b) (hw : w < 32) (hI : ∀ j, k ≤ j → j < 32 * w → gm g j = false) (h0 : g w &&& sw w (k : Int) ((nk_tp b : Int) - 1) = 0) : ∀ j, k ≤ j → j < 32 * (w + 1) → gm g j = false := by
  intro j j1 j2
  rcases Nat.lt_or_ge j (32 * w) with q | q
  · exact hI j j1 q
  · rcases Nat.lt_or_ge j (nk_tp b) with z | z
    · have h3 : bt (g w &&& sw w (k : Int) ((nk_tp b : Int) - 1)) (j - 32 * w) = false := by rw [h0, b_0]
      rw [cw_bt (by omega), show 32 * w + (j - 32 * w) = j by omega] at h3
      unfold cwp at h3
      rw [decide_eq_true (by omega), Bool.and_true] at h3
      exact h3
    · exact hz j z (by omega)
theorem up_hit {g : Nat → Int32} {a w t : Nat} (hI : ∀ j, 32 * (w + 1) ≤ j → j < a → gm g j = false) (ht : t < 32) (h1 : bt (g w &&& sw w 0 ((a : Int) - 1)) t = true) (h2 : ∀ j, t < j → j < 32 → bt (g w &&& sw w 0 ((a : Int) - 1)) j = false) : nk_dn (gm g) a = some (32 * w + t) := by
  rw [cw_bt ht] at h1
  unfold cwp at h1
  rw [Bool.and_eq_true, decide_eq_true_iff] at h1
  refine nk_dn_eq (by omega) h1.1 (fun j j1 j2 => ?_)
  rcases Nat.lt_or_ge j (32 * (w + 1)) with q | q
  · have h3 := h2 (j - 32 * w) (by omega) (by omega)
    rw [cw_bt (by omega), show 32 * w + (j - 32 * w) = j by omega] at h3
    unfold cwp at h3
    rw [decide_eq_true (by omega), Bool.and_true] at h3
    exact h3
  · exact hI j q j2
theorem up_miss {g : Nat → Int32} {a w : Nat} (hI : ∀ j, 32 * (w + 1) ≤ j → j < a → gm g j = false) (h0 : g w &&& sw w 0 ((a : Int) - 1) = 0) : ∀ j, 32 * w ≤ j → j < a → gm g j = false := by
  intro j j1 j2
  rcases Nat.lt_or_ge j (32 * (w + 1)) with q | q
  · have h3 : bt (g w &&& sw w 0 ((a : Int) - 1)) (j - 32 * w) = false := by rw [h0, b_0]
    rw [cw_bt (by omega), show 32 * w + (j - 32 * w) = j by omega] at h3
    unfold cwp at h3
    rw [decide_eq_true (by omega), Bool.and_true] at h3
    exact h3
  · exact hI j q j2
/-- a set in the heap: its number, its kind, its bits, its words -/
def cK (H : nk_AH) (q w j : Nat) (κ : Int32) (b : Nat) (f : Nat → Int32) : Prop := H q = some (.inr (2, [.int (nI j), .int κ, .int (nI (nk_tp b)), .int (nI (b / 2)), .int (nI (b - b / 2)), .ref w])) ∧ H w = some (.inl (.int, nk_wm b, .inl f))
