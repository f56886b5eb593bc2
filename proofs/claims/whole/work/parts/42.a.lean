/-! pure: nodes of one word, as the class tells them -/
theorem bt_ne0 {x : Int32} (h : ¬ x = 0) : ∃ i, i < 32 ∧ bt x i = true := by
  refine Classical.byContradiction (fun q => h (b_ext (fun i hi => ?_)))
  rw [b_0]
  cases z : bt x i with
  | false => rfl
  | true => exact absurd ⟨i, hi, z⟩ q
theorem sp_lo_of {x : Int32} (h : ¬ x = 0) : ∃ t, t < 32 ∧ sp_lo x = nI t ∧ bt x t = true ∧ ∀ j, j < t → bt x j = false := by
  unfold sp_lo
  cases q : nk_up (bt x) 0 32 with
  | none =>
    obtain ⟨i, hi, z⟩ := bt_ne0 h
    rw [nk_up_none q i (by omega) (by omega)] at z; cases z
  | some t =>
    obtain ⟨h1, h2, h3, h4⟩ := nk_up_lt q
    exact ⟨t, by omega, rfl, h3, fun j hj => h4 j (by omega) hj⟩
theorem sp_hi_of {x : Int32} (h : ¬ x = 0) : ∃ t, t < 32 ∧ sp_hi x = nI t ∧ bt x t = true ∧ ∀ j, t < j → j < 32 → bt x j = false := by
  unfold sp_hi
  cases q : nk_dn (bt x) 32 with
  | none =>
    obtain ⟨i, hi, z⟩ := bt_ne0 h
    rw [nk_dn_none q i hi] at z; cases z
  | some t =>
    obtain ⟨h1, h2, h3⟩ := nk_dn_lt q
    exact ⟨t, h1, rfl, h2, h3⟩
theorem sp_lo_0 : sp_lo 0 = -1000000 := by decide +kernel
theorem sp_hi_0 : sp_hi 0 = -1000000 := by decide +kernel
def cl_in (h : Int32) (l x : Nat) : Int32 := ju h (x * 2 ^ l % 32) &&& ju (-1) (32 - 2 ^ l)
theorem nk_2l5 {l : Nat} (h : l ≤ 5) : 2 ^ l ≤ 32 ∧ 1 ≤ 2 ^ l := ⟨Nat.pow_le_pow_right (n := 2) (j := 5) (by omega) h, Nat.one_le_two_pow⟩
theorem cl_bits {h : Int32} {l x i : Nat} (hl : l ≤ 5) (hi : i < 32) : bt (cl_in h l x) i = (decide (i < 2 ^ l) && bt h (x * 2 ^ l % 32 + i)) := by
  have h2 := nk_2l5 hl
  unfold cl_in
  rw [b_and, b_ushr _ (Nat.mod_lt _ (by omega)), b_ushr _ (by omega)]
  by_cases q : i < 2 ^ l
  · rw [decide_eq_true q, b_m1 _ (by omega), Bool.and_true, Bool.true_and]
  · rw [decide_eq_false q, b_big (x := -1) (i := 32 - 2 ^ l + i) (by omega), Bool.and_false, Bool.false_and]
theorem pf_part_bits {h : Int32} {l x i : Nat} (hl : l ≤ 2) (hx : x * 2 ^ l < 32) (hx2 : x * 2 ^ l + 2 ^ l ≤ 32) (hi : i < 32) : bt (pf_part h (nI x) (nI l)) i = (decide (i < 2 ^ l) && bt h (x * 2 ^ l + i)) := by
  have h4 : 2 ^ l ≤ 4 := Nat.pow_le_pow_right (n := 2) (j := 2) (by omega) hl
  have h1 : 1 ≤ 2 ^ (2 ^ l) := Nat.one_le_two_pow
  unfold pf_part
  rw [nk_sh1 (by omega), pk_mul, nk_sh1 (b := 2 ^ l) (by omega), show nI (2 ^ 2 ^ l) - 1 = nI (2 ^ 2 ^ l - 1) from pk_sub h1, b_and, b_sshr _ (by rw [Nat.mul_comm]; exact hx) _ hi, bt_nI, decide_eq_true hi, Bool.true_and, Nat.testBit_two_pow_sub_one, Nat.mul_comm (2 ^ l) x]
  by_cases q : i < 2 ^ l
  · rw [decide_eq_true q, if_pos (by omega), Bool.and_true, Bool.true_and]
  · rw [decide_eq_false q, Bool.and_false, Bool.false_and]
theorem cl_part {h : Int32} {l x : Nat} (hl : l ≤ 2) (hx2 : x * 2 ^ l + 2 ^ l ≤ 32) : cl_in h l x = pf_part h (nI x) (nI l) := by
  have h1 : 1 ≤ 2 ^ l := Nat.one_le_two_pow
  apply b_ext
  intro i hi
  rw [cl_bits (by omega) hi, pf_part_bits hl (by omega) hx2 hi, Nat.mod_eq_of_lt (show x * 2 ^ l < 32 by omega)]
theorem cl_hl {b x : Nat} (hb : b ≤ 5) (hx : x < 2 ^ (b - b / 2)) : x * 2 ^ (b / 2) + 2 ^ (b / 2) ≤ 32 := by
  have e : 2 ^ (b - b / 2) * 2 ^ (b / 2) = 2 ^ b := by rw [← Nat.pow_add]; congr 1; omega
  have h1 : (x + 1) * 2 ^ (b / 2) ≤ 2 ^ (b - b / 2) * 2 ^ (b / 2) := Nat.mul_le_mul_right _ hx
  have h2 : 2 ^ b ≤ 32 := Nat.pow_le_pow_right (n := 2) (j := 5) (by omega) hb
  rw [Nat.add_mul, Nat.one_mul] at h1
  omega
theorem pf_st_k : ∀ (f : Nat) (node : Int32) (b : Nat) (x : Int32) (k : Nat), pf_st f node b x (k + 1) = pf_st f node b x k + 1
  | 0, _, _, _, _ => rfl
  | f + 1, node, b, x, k => by
    rw [pf_st, pf_st]
    by_cases h : ¬ node = 0 ∧ 1 < b ∧ sp_lo node ≤ x
    · rw [if_pos h, if_pos h]
      by_cases h2 : pf_in node (b / 2) x
      · rw [if_pos h2, if_pos h2, pf_st_k]
      · rw [if_neg h2, if_neg h2, pf_st_k]
    · rw [if_neg h, if_neg h]
theorem pf_st_f : ∀ (f g : Nat) (node : Int32) (b : Nat) (x : Int32) (k : Nat), 1 ≤ b → b ≤ f → b ≤ g → pf_st f node b x k = pf_st g node b x k
  | 0, _, _, _, _, _, h1, h2, _ => by omega
  | f + 1, 0, _, _, _, _, h1, _, h3 => by omega
  | f + 1, g + 1, node, b, x, k, h1, h2, h3 => by
    rw [pf_st, pf_st]
    by_cases h : ¬ node = 0 ∧ 1 < b ∧ sp_lo node ≤ x
    · rw [if_pos h, if_pos h]
      have := h.2.1
      by_cases q : pf_in node (b / 2) x
      · rw [if_pos q, if_pos q]; exact pf_st_f f g _ _ _ _ (by omega) (by omega) (by omega)
      · rw [if_neg q, if_neg q]; exact pf_st_f f g _ _ _ _ (by omega) (by omega) (by omega)
    · rw [if_neg h, if_neg h]
def pf_sa (node : Int32) (b : Nat) (x : Int32) : Nat := pf_st (b + 1) node b x 1
theorem pf_sa_1 {node : Int32} {b : Nat} {x : Int32} (h : ¬ (¬ node = 0 ∧ 1 < b ∧ sp_lo node ≤ x)) : pf_sa node b x = 1 := by
  unfold pf_sa; rw [pf_st, if_neg h]
theorem pf_sa_in {node : Int32} {b : Nat} {x : Int32} (h : ¬ node = 0 ∧ 1 < b ∧ sp_lo node ≤ x) (h2 : pf_in node (b / 2) x) : pf_sa node b x = 1 + pf_sa (pf_part (pf_rest node) (x >>> (nI (b / 2) &&& 31)) (nI (b / 2))) (b / 2) (pf_lw (b / 2) x) := by
  have := h.2.1
  unfold pf_sa; rw [pf_st, if_pos h, if_pos h2, pf_st_k, Nat.add_comm, pf_st_f b (b / 2 + 1) _ _ _ _ (by omega) (by omega) (by omega)]
theorem pf_sa_hi {node : Int32} {b : Nat} {x : Int32} (h : ¬ node = 0 ∧ 1 < b ∧ sp_lo node ≤ x) (h2 : ¬ pf_in node (b / 2) x) : pf_sa node b x = 1 + pf_sa (pf_highs (pf_rest node) (nI (b / 2)) (2 ^ (b - b / 2))) (b - b / 2) (x >>> (nI (b / 2) &&& 31)) := by
  have := h.2.1
  unfold pf_sa; rw [pf_st, if_pos h, if_neg h2, pf_st_k, Nat.add_comm, pf_st_f b (b - b / 2 + 1) _ _ _ _ (by omega) (by omega) (by omega)]
theorem pf_sa_le {b : Nat} : ∀ (node : Int32) (x : Int32) (f : Nat), pf_st f node b x 1 ≤ f + 1 := by
  have h : ∀ (f : Nat) (node : Int32) (b : Nat) (x : Int32) (k : Nat), pf_st f node b x k ≤ f + k := by
    intro f
    induction f with
    | zero => intro node b x k; rw [pf_st]; omega
    | succ f ih =>
      intro node b x k
      rw [pf_st]
      split
      · split
        · exact Nat.le_trans (ih _ _ _ _) (by omega)
        · exact Nat.le_trans (ih _ _ _ _) (by omega)
      · omega
  exact fun node x f => h f node b x 1
theorem pf_acc_eq (c c' : Int32) {f g : Nat → Int32} (hc : c = c') : ∀ n, (∀ k, k < n → f k = g k) → pf_acc c f n = pf_acc c' g n
  | 0, _ => hc
  | n + 1, h => by rw [pf_acc, pf_acc, pf_acc_eq c c' hc n (fun k hk => h k (by omega)), h n (by omega)]
theorem pf_mxa_eq (c c' : Int32) {f g : Nat → Int32} (hc : c = c') : ∀ n, (∀ k, k < n → f k = g k) → pf_mxa c f n = pf_mxa c' g n
  | 0, _ => hc
  | n + 1, h => by rw [pf_mxa, pf_mxa, pf_mxa_eq c c' hc n (fun k hk => h k (by omega)), h n (by omega)]
/-- the count of nodes, by bits, as the class reckons it -/
theorem pf_nd_1 (x : Int32) : pf_nd x (nI 1) = pf_n1 x := rfl
theorem pf_nd_b (x : Int32) {b : Nat} (h2 : 2 ≤ b) (h5 : b ≤ 5) : pf_nd x (nI b) = if x = 0 then 0 else pf_acc (1 + pf_nd (pf_highs (pf_rest x) (nI (b / 2)) (2 ^ (b - b / 2))) (nI (b - b / 2))) (fun y => pf_nd (pf_part (pf_rest x) (nI y) (nI (b / 2))) (nI (b / 2))) (2 ^ (b - b / 2)) := by
  have z1 : ∀ (n : Nat) (f : Nat → Int32), (∀ k, f k = 0) → pf_acc 0 f n = 0 := by
    intro n f hf
    induction n with
    | zero => rfl
    | succ n ih => rw [pf_acc, ih, hf]; rfl
  have hr : pf_rest 0 = 0 := rfl
  have hp : ∀ y l, pf_part 0 y l = 0 := fun y l => by
    unfold pf_part
    apply b_ext
    intro i hi
    rw [b_and, b_0]
    have : ∀ y : Int32, (0 : Int32) >>> (y &&& 31) = 0 := fun y => by
      apply Int32.toBitVec_inj.mp
      show (0 : BitVec 32).sshiftRight' _ = 0
      simp [BitVec.sshiftRight']
    rw [this, b_0, Bool.false_and]
  have c : b = 2 ∨ b = 3 ∨ b = 4 ∨ b = 5 := by omega
  rcases c with rfl | rfl | rfl | rfl
  · show pf_n2 x = _
    unfold pf_n2
    by_cases q : x = 0
    · rw [if_pos q, if_pos q]
    · rw [if_neg q, if_neg q]; rfl
  · show pf_n3 x = _
    unfold pf_n3
    by_cases q : x = 0
    · rw [if_pos q, if_pos q]
      subst q
      exact z1 4 _ (fun k => by rw [hr, hp]; rfl)
    · rw [if_neg q, if_neg q]; rfl
  · show pf_n4 x = _
    unfold pf_n4
    by_cases q : x = 0
    · rw [if_pos q, if_pos q]
      subst q
      exact z1 4 _ (fun k => by rw [hr, hp]; rfl)
    · rw [if_neg q, if_neg q]; rfl
  · show pf_n5 x = _
    unfold pf_n5
    by_cases q : x = 0
    · rw [if_pos q, if_pos q]
      subst q
      exact z1 8 _ (fun k => by rw [hr, hp]; rfl)
    · rw [if_neg q, if_neg q]; rfl
theorem pf_dp_1 (x : Int32) : pf_dp x (nI 1) = pf_n1 x := rfl
