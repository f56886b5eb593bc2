/-! what acts do to the words of a set -/
theorem shF_kp {r : Nat → Int32} {u s v : Nat} (hs : s < 4) (hv : v < 32) : shF (a_kp r u) 0 s v = shF r 0 s v := a_kp_lo (by omega)
theorem gz_kp {r : Nat → Int32} {u s b : Nat} (hs : s < 4) (h : gz (shF r 0 s) b) : gz (shF (a_kp r u) 0 s) b := gz_cg h (fun v hv => (shF_kp hs hv).symm)
/-- r' is r but for the words of set s below n -/
def ofs (r r' : Nat → Int32) (s n : Nat) : Prop := ∀ i, i < 3618 → ¬ (6 + 32 * s ≤ i ∧ i < 6 + 32 * s + n) → r' i = r i
theorem ofs.tk {r : Nat → Int32} {s k n : Nat} (h : k / 32 < n) : ofs r (a_tk r s k) s n := fun i _ hi => by unfold a_tk upd; rw [if_neg (by omega)]
theorem ofs.tr {r r' r2 : Nat → Int32} {s n : Nat} (h1 : ofs r r' s n) (h2 : ofs r' r2 s n) : ofs r r2 s n := fun i a hi => (h2 i a hi).trans (h1 i a hi)
theorem ofs.hr2 {r r' : Nat → Int32} {u s n : Nat} (h : ofs (a_kp r u) r' s n) : ∀ i, i < 134 → ¬ (6 + 32 * s ≤ i ∧ i < 6 + 32 * s + n) → r' i = r i := fun i hi hn => (h i (by omega) hn).trans (a_kp_lo hi)
theorem ofs.hr3 {r r' : Nat → Int32} {u s n : Nat} (h : ofs (a_kp r u) r' s n) (hs : s < 4) (hn : n ≤ 32) : ∀ i, 134 ≤ i → i < 3618 → r' i = a_kp r u i := fun i h1 h2 => h i h2 (by omega)
theorem sw_no_ {v : Nat} {a : Int} : sw v a (a - 1) = 0 := sw_0 (fun i hi => by omega)
theorem sw_more {v a n : Nat} : sw v (a : Int) ((a + n : Nat) : Int) = sw v (a : Int) ((a + n : Nat) - 1 : Int) ^^^ sw v ((a + n : Nat) : Int) ((a + n : Nat) : Int) := b_ext (fun i hi => by
  rw [b_xor, bt_sw hi, bt_sw hi, bt_sw hi]
  by_cases z : 32 * v + i = a + n
  · rw [decide_eq_true (by omega), decide_eq_false (by omega), decide_eq_true (by omega)]; rfl
  · rw [decide_eq_false (p := (((a + n : Nat) : Int) ≤ _ ∧ _)) (by omega)]
    by_cases y : a ≤ 32 * v + i ∧ 32 * v + i < a + n
    · rw [decide_eq_true (by omega), decide_eq_true (by omega)]; rfl
    · rw [decide_eq_false (by omega), decide_eq_false (by omega)]; rfl)
theorem a_fl_w {r : Nat → Int32} {s a v : Nat} : ∀ n, shF (a_fl r s a n) 0 s v = shF r 0 s v ^^^ sw v (a : Int) (((a + n : Nat) : Int) - 1)
  | 0 => by
    show r _ = r _ ^^^ _
    rw [show (((a + 0 : Nat) : Int) - 1) = (a : Int) - 1 by omega, sw_no_, b_x0]
  | n + 1 => by
    show a_tk (a_fl r s a n) s (a + n) (0 + 6 + 32 * s + v) = _
    rw [← tnf_one]
    unfold tnf
    rw [a_fl_w n, show (((a + (n + 1) : Nat) : Int) - 1) = ((a + n : Nat) : Int) by omega, sw_more]
    exact Int32.xor_assoc _ _ _
theorem a_fl_ofs {r : Nat → Int32} {s a m : Nat} : ∀ n, (∀ t, t < n → (a + t) / 32 < m) → ofs r (a_fl r s a n) s m
  | 0, _ => fun _ _ _ => rfl
  | n + 1, h => (a_fl_ofs n (fun t ht => h t (by omega))).tr (ofs.tk (h n (by omega)))
theorem a_fl_gz {r : Nat → Int32} {s a b : Nat} (hs : s < 4) (hb : b ≤ 10) (hz : gz (shF r 0 s) b) : ∀ n, (∀ t, t < n → a + t < nk_tp b) → gz (shF (a_fl r s a n) 0 s) b
  | 0, _ => hz
  | n + 1, h => gz_tk hs hs (h n (by omega)) hb (a_fl_gz hs hb hz n (fun t ht => h t (by omega)))
theorem jn_op (how x y : Int32) : jn how x y = pf_op how x y := rfl
theorem a_jn_w {r : Nat → Int32} {how : Int32} {a b c : Nat} : ∀ n, n ≤ 32 → (∀ v, v < 32 → a_jn r how a b c n (6 + 32 * c + v) = if v < n then pf_op how (r (6 + 32 * a + v)) (r (6 + 32 * b + v)) else r (6 + 32 * c + v)) ∧ ∀ i, ¬ (6 + 32 * c ≤ i ∧ i < 6 + 32 * c + n) → a_jn r how a b c n i = r i
  | 0, _ => ⟨fun v _ => by rw [if_neg (by omega)]; rfl, fun _ _ => rfl⟩
  | n + 1, hn => by
    obtain ⟨h1, h2⟩ := a_jn_w (r := r) (how := how) (a := a) (b := b) (c := c) n (by omega)
    have ha : a_jn r how a b c n (6 + 32 * a + n) = r (6 + 32 * a + n) := h2 _ (by omega)
    have hb : a_jn r how a b c n (6 + 32 * b + n) = r (6 + 32 * b + n) := h2 _ (by omega)
    refine ⟨fun v hv => ?_, fun i hi => ?_⟩
    · rw [a_jn, ha, hb]
      unfold upd
      by_cases e : v = n
      · subst e
        rw [if_pos rfl, if_pos (by omega)]
      · rw [if_neg (by omega), h1 v hv]
        by_cases y : v < n
        · rw [if_pos y, if_pos (by omega)]
        · rw [if_neg y, if_neg (by omega)]
    · rw [a_jn]
      unfold upd
      rw [if_neg (by omega)]
      exact h2 i (by omega)
theorem op_bt {how x y : Int32} {i : Nat} (hi : i < 32) (hx : bt x i = false) (hy : bt y i = false) : bt (pf_op how x y) i = false := by
  unfold pf_op
  split
  · rw [b_and, hx]; rfl
  · split
    · rw [b_or, hx, hy]; rfl
    · split
      · rw [b_xor, hx, hy]; rfl
      · rw [b_and, hx]; rfl
theorem a_jn_gz {r : Nat → Int32} {how : Int32} {a b c d : Nat} (h1 : gz (shF r 0 a) d) (h2 : gz (shF r 0 b) d) : gz (shF (a_jn r how a b c 32) 0 c) d := fun k k1 k2 => by
  have z1 := h1 k k1 k2
  have z2 := h2 k k1 k2
  unfold gm at z1 z2 ⊢
  show bt (a_jn r how a b c 32 (0 + 6 + 32 * c + k / 32)) (k % 32) = false
  rw [show 0 + 6 + 32 * c + k / 32 = 6 + 32 * c + k / 32 by omega, (a_jn_w 32 (Nat.le_refl _)).1 _ (by omega), if_pos (by omega)]
  refine op_bt (Nat.mod_lt _ (by omega)) ?_ ?_
  · rw [show 6 + 32 * a + k / 32 = 0 + 6 + 32 * a + k / 32 by omega]; exact z1
  · rw [show 6 + 32 * b + k / 32 = 0 + 6 + 32 * b + k / 32 by omega]; exact z2
/-- words beyond the top are 0 -/
theorem gz_word {f : Nat → Int32} {b v : Nat} (h : gz f b) (hb2 : 2 ≤ b) (hb : b ≤ 10) (h1 : nk_wm b ≤ v) (h2 : v < 32) : f v = 0 := b_ext (fun i hi => by
  have hwm := wm_f b hb hb2
  rw [b_0, ← gm_w (g := f) (w := v) hi]
  exact h _ (by omega) (by omega))
theorem a_tk_mem {r : Nat → Int32} {s k x : Nat} : nk_mem (a_tk r s k) 0 s x = (nk_mem r 0 s x ^^ decide (x = k)) := by
  unfold nk_mem a_tk upd
  by_cases e : x / 32 = k / 32
  · rw [if_pos (by omega), b_xor, ← e, pf_b1_bt (Nat.mod_lt _ (by omega)) (Nat.mod_lt _ (by omega))]
    by_cases z : x = k
    · rw [decide_eq_true z, decide_eq_true (by omega)]
    · rw [decide_eq_false z, decide_eq_false (by omega)]
  · rw [if_neg (by omega), decide_eq_false (by omega), Bool.xor_false]
theorem a_tk_far {r : Nat → Int32} {s k x : Nat} (hs : s < 4) (hk : k < 1024) : nk_mem (a_tk r s k) 3618 s x = nk_mem r 3618 s x := by
  unfold nk_mem
  rw [a_tk_hi hs hk (by omega)]
theorem a_sf_mem {F : Nat → Int32} {s t : Nat} {v : Int} (hs : s < 4) (ht : t ≤ 1024) (h0 : ∀ x, x < 1024 → nk_mem F 0 s x = false) : ∀ n, n ≤ 1024 → (∀ x, nk_mem (a_sf F s t v n) 3618 s x = nk_mem F 3618 s x) ∧ ∀ x : Nat, x < 1024 → nk_mem (a_sf F s t v n) 0 s x = (decide (0 ≤ (x : Int) - v ∧ (x : Int) - v < n ∧ x < t) && nk_mem F 3618 s ((x : Int) - v).toNat)
  | 0, _ => ⟨fun _ => rfl, fun x hx => by
    rw [decide_eq_false (by omega), Bool.false_and]; exact h0 x hx⟩
  | n + 1, hn => by
    obtain ⟨h1, h2⟩ := a_sf_mem (v := v) hs ht h0 n (by omega)
    rw [a_sf]
    by_cases c : nk_mem (a_sf F s t v n) 3618 s n = true ∧ 0 ≤ (n : Int) + v ∧ (n : Int) + v < t
    · rw [if_pos c]
      have hk : ((n : Int) + v).toNat < 1024 := by omega
      refine ⟨fun x => by rw [a_tk_far hs hk, h1], fun x hx => ?_⟩
      rw [a_tk_mem, h2 x hx]
      by_cases e : x = ((n : Int) + v).toNat
      · have e2 : ((x : Int) - v).toNat = n := by omega
        have e3 : nk_mem F 3618 s n = true := by rw [← h1]; exact c.1
        rw [decide_eq_true e, e2, e3, decide_eq_false (by omega), decide_eq_true (by omega)]; rfl
      · rw [decide_eq_false e, Bool.xor_false]
        by_cases y : 0 ≤ (x : Int) - v ∧ (x : Int) - v < n ∧ x < t
        · rw [decide_eq_true y, decide_eq_true (by omega)]
        · rw [decide_eq_false y, decide_eq_false (by omega)]
    · rw [if_neg c]
      refine ⟨h1, fun x hx => ?_⟩
      rw [h2 x hx]
      by_cases e : (x : Int) - v = n
      · rw [decide_eq_false (by omega), Bool.false_and]
        by_cases y : x < t
        · have e3 : nk_mem F 3618 s n = false := by
            cases q : nk_mem F 3618 s n with
            | false => rfl
            | true => exact absurd ⟨by rw [h1]; exact q, by omega, by omega⟩ c
          rw [show ((x : Int) - v).toNat = n by omega, e3, Bool.and_false]
        · rw [decide_eq_false (by omega), Bool.false_and]
      · by_cases y : 0 ≤ (x : Int) - v ∧ (x : Int) - v < n ∧ x < t
        · rw [decide_eq_true y, decide_eq_true (by omega)]
        · rw [decide_eq_false y, decide_eq_false (by omega)]
theorem a_sf_ofs {F : Nat → Int32} {s t m : Nat} {v : Int} (hm : ∀ x, x < t → x / 32 < m) : ∀ n, ofs F (a_sf F s t v n) s m
  | 0 => fun _ _ _ => rfl
  | n + 1 => by
    rw [a_sf]
    by_cases c : nk_mem (a_sf F s t v n) 3618 s n = true ∧ 0 ≤ (n : Int) + v ∧ (n : Int) + v < t
    · rw [if_pos c]; exact (a_sf_ofs hm n).tr (ofs.tk (hm _ (by omega)))
    · rw [if_neg c]; exact a_sf_ofs hm n
section SFT
variable {r : Nat → Int32} {s b : Nat} {v : Int}
theorem a_sft_mem (hs : s < 4) (hb2 : 2 ≤ b) (hb : b ≤ 10) : ∀ x : Nat, x < 1024 → nk_mem (a_sft r s (nk_tp b) v) 0 s x = (decide (0 ≤ (x : Int) - v ∧ (x : Int) - v < nk_tp b ∧ x < nk_tp b) && nk_mem r 0 s ((x : Int) - v).toNat) := fun x hx => by
  have hwm := wm_f b hb hb2
  unfold a_sft
  rw [(a_sf_mem hs (by omega) (fun y hy => ?_) (nk_tp b) (by omega)).2 x hx]
  · by_cases c : 0 ≤ (x : Int) - v ∧ (x : Int) - v < nk_tp b ∧ x < nk_tp b
    · rw [decide_eq_true c, Bool.true_and, Bool.true_and]
      have hX : ((x : Int) - v).toNat < 1024 := by omega
      generalize ((x : Int) - v).toNat = X at hX
      have e : 0 + (3618 + 6 + 32 * s + X / 32 - 3618) = 0 + 6 + 32 * s + X / 32 := by omega
      unfold nk_mem pf_zf va_cpy
      rw [if_neg (by omega), if_pos (by omega), e]
    · rw [decide_eq_false c]; rfl
  · unfold nk_mem pf_zf
    rw [if_pos (by omega)]; exact b_0 _
theorem a_sft_ofs (hs : s < 4) (hb2 : 2 ≤ b) (hb : b ≤ 10) (hz : gz (shF r 0 s) b) : ofs r (a_sft r s (nk_tp b) v) s (nk_wm b) := by
  have hwm := wm_f b hb hb2
  intro i hi hni
  unfold a_sft
  have hm : ∀ x, x < nk_tp b → x / 32 < nk_wm b := fun x hx => by omega
  rw [a_sf_ofs hm _ i hi hni]
  unfold pf_zf
  by_cases c : 6 + 32 * s ≤ i ∧ i < 6 + 32 * s + 32
  · rw [if_pos c]
    have := gz_word hz hb2 hb (v := i - (6 + 32 * s)) (by omega) (by omega)
    have e : shF r 0 s (i - (6 + 32 * s)) = r i := congrArg r (by omega)
    rw [← e, this]
  · rw [if_neg c]
    unfold va_cpy
    rw [if_neg (by omega)]
theorem a_sft_gz (hs : s < 4) (hb2 : 2 ≤ b) (hb : b ≤ 10) : gz (shF (a_sft r s (nk_tp b) v) 0 s) b := fun k k1 k2 => by
  show nk_mem (a_sft r s (nk_tp b) v) 0 s k = false
  rw [a_sft_mem hs hb2 hb k k2, decide_eq_false (by omega), Bool.false_and]
theorem a_sft_w (hs : s < 4) (hb2 : 2 ≤ b) (hb : b ≤ 10) {f : Nat → Int32} (hz : gz (shF r 0 s) b) (hf : ∀ w, w < nk_wm b → f w = shF r 0 s w) : ∀ w, w < nk_wm b → (co f (nk_wm b) (32 * (w : Int) - v) &&& sw w 0 ((nk_tp b : Int) - 1)) = shF (a_sft r s (nk_tp b) v) 0 s w := fun w hw => b_ext (fun i hi => by
  have hwm := wm_f b hb hb2
  have e1 : bt (shF (a_sft r s (nk_tp b) v) 0 s w) i = nk_mem (a_sft r s (nk_tp b) v) 0 s (32 * w + i) := (gm_w (g := shF (a_sft r s (nk_tp b) v) 0 s) hi).symm
  rw [e1, a_sft_mem hs hb2 hb _ (by omega), b_and, bt_sw hi]
  unfold co
  rw [bt_wd hi]
  by_cases c : 0 ≤ ((32 * w + i : Nat) : Int) - v ∧ ((32 * w + i : Nat) : Int) - v < nk_tp b ∧ 32 * w + i < nk_tp b
  · rw [decide_eq_true c, decide_eq_true (by omega), decide_eq_true (by omega), Bool.true_and, Bool.true_and, Bool.and_true]
    have e2 : (32 * (w : Int) - v + i).toNat = (((32 * w + i : Nat) : Int) - v).toNat := by omega
    rw [e2]
    generalize hX : (((32 * w + i : Nat) : Int) - v).toNat = X
    have hX2 : X < nk_tp b := by omega
    unfold gm
    rw [hf _ (by omega)]; rfl
  · rw [decide_eq_false c, Bool.false_and]
    by_cases y : 32 * w + i < nk_tp b
    · by_cases x : 0 ≤ 32 * (w : Int) - v + i ∧ 32 * (w : Int) - v + i < 32 * nk_wm b
      · rw [decide_eq_true x, Bool.true_and]
        generalize hX : (32 * (w : Int) - v + i).toNat = X
        have hX1 : nk_tp b ≤ X := by omega
        have hX2 : X < 1024 := by omega
        have e3 : gm f X = false := by
          have := hz X hX1 hX2
          unfold gm at this ⊢
          rw [hf _ (by omega)]; exact this
        rw [e3, Bool.false_and]
      · rw [decide_eq_false x, Bool.false_and, Bool.false_and]
    · rw [decide_eq_false (p := ((0 : Int) ≤ ((32 * w + i : Nat) : Int) ∧ _)) (by omega), Bool.and_false])
end SFT
theorem x_or {x : Int32} {i : Nat} (hi : i < 32) (h : bt x i = true) : x ||| pf_b1 i = x := b_ext (fun j hj => by
  rw [b_or, pf_b1_bt hi hj]
  by_cases z : j = i
  · rw [z, h]; rfl
  · rw [decide_eq_false z, Bool.or_false])
theorem x_xr {x : Int32} {i : Nat} (hi : i < 32) (h : ¬ bt x i = true) : x ||| pf_b1 i = x ^^^ pf_b1 i := b_ext (fun j hj => by
  rw [b_or, b_xor, pf_b1_bt hi hj]
  by_cases z : j = i
  · rw [z, Bool.eq_false_iff.mpr h, Bool.false_or, Bool.false_xor]
  · rw [decide_eq_false z, Bool.or_false, Bool.xor_false])
/-- one key more gathered -/
theorem a_gt_s {R f : Nat → Int32} {s k n : Nat} (hf : ∀ v, v < n → f v = shF R 0 s v) (hk : k / 32 < n) : ∀ v, v < n → upd f (k / 32) (f (k / 32) ||| pf_b1 (k % 32)) v = shF (if nk_mem R 0 s k = true then R else a_tk R s k) 0 s v := fun v hv => by
  have hi : k % 32 < 32 := Nat.mod_lt _ (by omega)
  unfold upd
  by_cases c : nk_mem R 0 s k = true
  · rw [if_pos c]
    have c2 : bt (shF R 0 s (k / 32)) (k % 32) = true := c
    by_cases e : v = k / 32
    · rw [if_pos e, hf _ hk, x_or hi c2, e]
    · rw [if_neg e, hf v hv]
  · rw [if_neg c]
    have c2 : ¬ bt (shF R 0 s (k / 32)) (k % 32) = true := c
    show _ = a_tk R s k (0 + 6 + 32 * s + v)
    unfold a_tk upd
    by_cases e : v = k / 32
    · rw [if_pos e, if_pos (by omega), hf _ hk, x_xr hi c2]
    · rw [if_neg e, if_neg (by omega), hf v hv]
theorem a_gt_ofs {R G : Nat → Int32} {s a n m : Nat} (h : ∀ t, t < n → sp_n (G (a + t)) / 32 < m) : ofs R (a_gt R s G a n) s m := by
  induction n with
  | zero => exact fun _ _ _ => rfl
  | succ n ih =>
    rw [a_gt]
    split
    · exact ih (fun t ht => h t (by omega))
    · exact (ih (fun t ht => h t (by omega))).tr (ofs.tk (h n (by omega)))
theorem a_gt_gz {R G : Nat → Int32} {s a n b : Nat} (hs : s < 4) (hb : b ≤ 10) (hz : gz (shF R 0 s) b) (h : ∀ t, t < n → sp_n (G (a + t)) < nk_tp b) : gz (shF (a_gt R s G a n) 0 s) b := by
  induction n with
  | zero => exact hz
  | succ n ih =>
    rw [a_gt]
    split
    · exact ih (fun t ht => h t (by omega))
    · exact gz_tk hs hs (h n (by omega)) hb (ih (fun t ht => h t (by omega)))
theorem sp_ak_all {g : Nat → Int32} {b a : Nat} : ∀ {n : Nat}, sp_ak g b a n = true → ∀ t, t < n → sp_K b (g (a + t))
  | 0, _, t, ht => by omega
  | n + 1, h, t, ht => by
    rw [sp_ak, Bool.and_eq_true] at h
    by_cases e : t = n
    · rw [e]; exact of_decide_eq_true h.2
    · exact sp_ak_all h.1 t (by omega)
