/-! pure: how deep a node is, as the class reckons it -/
def bsm (b : Nat) (x : Int32) : Prop := ∀ i, 2 ^ b ≤ i → i < 32 → bt x i = false
theorem bsm_rest {b : Nat} {x : Int32} (h : bsm b x) : bsm b (pf_rest x) := fun i h1 h2 => by
  unfold pf_rest; rw [b_and, h i h1 h2, Bool.false_and]
theorem pf_b1_bt {n i : Nat} (hn : n < 32) (hi : i < 32) : bt (pf_b1 n) i = decide (i = n) := by
  unfold pf_b1
  rw [b_shl n hn _ hi, show (1 : Int32) = nI 1 from rfl, bt_nI]
  by_cases q : i = n
  · subst q
    rw [decide_eq_true (Nat.le_refl i), Nat.sub_self, decide_eq_true rfl]; rfl
  · rw [decide_eq_false q]
    by_cases z : n ≤ i
    · rw [decide_eq_true z]
      have : Nat.testBit 1 (i - n) = false := by rw [show (1 : Nat) = 2 ^ 0 from rfl, Nat.testBit_two_pow]; exact decide_eq_false (by omega)
      rw [this, Bool.and_false, Bool.and_false]
    · rw [decide_eq_false z, Bool.false_and]
theorem pf_highs_bt {x l : Int32} {i : Nat} (hi : i < 32) : ∀ N, N ≤ 32 → bt (pf_highs x l N) i = decide (i < N ∧ ¬ pf_part x (nI i) l = 0)
  | 0, _ => by rw [pf_highs, b_0]; exact (decide_eq_false (by omega)).symm
  | N + 1, h => by
    rw [pf_highs, b_or, pf_highs_bt hi N (by omega)]
    by_cases q : i = N
    · subst q
      rw [decide_eq_false (p := i < i ∧ _) (by omega), Bool.false_or]
      by_cases z : pf_part x (nI i) l = 0
      · rw [if_pos z, b_0]; exact (decide_eq_false (fun w => w.2 z)).symm
      · rw [if_neg z, pf_b1_bt (by omega) hi, decide_eq_true rfl]; exact (decide_eq_true ⟨by omega, z⟩).symm
    · have e : bt (if pf_part x (nI N) l = 0 then 0 else pf_b1 N) i = false := by
        by_cases z : pf_part x (nI N) l = 0
        · rw [if_pos z, b_0]
        · rw [if_neg z, pf_b1_bt (by omega) hi, decide_eq_false q]
      rw [e, Bool.or_false]
      by_cases z : i < N ∧ ¬ pf_part x (nI i) l = 0
      · rw [decide_eq_true z]; exact (decide_eq_true ⟨by omega, z.2⟩).symm
      · rw [decide_eq_false z]; exact (decide_eq_false (fun w => z ⟨by omega, w.2⟩)).symm
theorem bsm_highs {x l : Int32} {h : Nat} (h5 : 2 ^ h ≤ 32) : bsm h (pf_highs x l (2 ^ h)) := fun i h1 h2 => by
  rw [pf_highs_bt h2 _ h5]; exact decide_eq_false (by omega)
theorem bsm_part {x : Int32} {l y : Nat} (hl : l ≤ 2) (hx2 : y * 2 ^ l + 2 ^ l ≤ 32) : bsm l (pf_part x (nI y) (nI l)) := fun i h1 h2 => by
  have h1' : 1 ≤ 2 ^ l := Nat.one_le_two_pow
  rw [pf_part_bits hl (by omega) hx2 h2, decide_eq_false (by omega), Bool.false_and]
theorem pf_parts_0 {r : Int32} {b : Nat} (h2 : 2 ≤ b) (h3 : b ≤ 3) (hs : bsm b r) : (∀ y, y < 2 ^ (b - b / 2) → pf_part r (nI y) (nI 1) = 0) → r = 0 := by
  intro h
  have hb : b / 2 = 1 := by omega
  have e : 2 ^ b = 2 * 2 ^ (b - b / 2) := by rw [← Nat.pow_succ']; congr 1; omega
  have h8 : 2 ^ b ≤ 8 := Nat.pow_le_pow_right (n := 2) (j := 3) (by omega) h3
  apply b_ext
  intro i hi
  rw [b_0]
  rcases Nat.lt_or_ge i (2 ^ b) with q | q
  · have h4 := h (i / 2) (by omega)
    have h5 : bt (pf_part r (nI (i / 2)) (nI 1)) (i % 2) = false := by rw [h4, b_0]
    rw [pf_part_bits (by omega) (by omega) (by omega) (by omega), decide_eq_true (by omega), Bool.true_and] at h5
    rw [show i = i / 2 * 2 ^ 1 + i % 2 by omega]
    exact h5
  · exact hs i q hi
theorem pf_part_z {y l : Int32} : pf_part 0 y l = 0 := by
  unfold pf_part
  apply b_ext
  intro i hi
  rw [b_and, b_0]
  have : ∀ y : Int32, (0 : Int32) >>> (y &&& 31) = 0 := fun y => by
    apply Int32.toBitVec_inj.mp
    show (0 : BitVec 32).sshiftRight' _ = 0
    simp [BitVec.sshiftRight']
  rw [this, b_0, Bool.false_and]
theorem pf_mxa_n1 {c : Int32} (hc : 0 ≤ c) {P : Nat → Int32} : ∀ N, pf_mxa c (fun y => pf_n1 (P y)) N = if (∀ y, y < N → P y = 0) then c else pf_mx c 1
  | 0 => by rw [pf_mxa, if_pos (fun y hy => by omega)]
  | N + 1 => by
    have hmm : pf_mx (pf_mx c 1) 1 = pf_mx c 1 := by
      unfold pf_mx
      by_cases q : c ≤ 1
      · rw [if_pos q]; rfl
      · rw [if_neg q, if_neg q]
    have hm0 : pf_mx (pf_mx c 1) 0 = pf_mx c 1 := by
      unfold pf_mx
      by_cases q : c ≤ 1
      · rw [if_pos q]; rfl
      · rw [if_neg q]
        by_cases z : c ≤ 0
        · exact absurd (Int32.le_trans z (by decide)) q
        · rw [if_neg z]
    have hc0 : pf_mx c 0 = c := by
      unfold pf_mx
      by_cases q : c ≤ 0
      · rw [if_pos q]; exact Int32.le_antisymm hc q
      · rw [if_neg q]
    rw [pf_mxa, pf_mxa_n1 hc N]
    by_cases z : P N = 0
    · rw [show pf_n1 (P N) = 0 by unfold pf_n1; exact if_pos z]
      by_cases q : ∀ y, y < N → P y = 0
      · rw [if_pos q, hc0, if_pos (fun y hy => by rcases Nat.eq_or_lt_of_le (Nat.le_of_lt_succ hy) with e | e; (· rw [e]; exact z); exact q y e)]
      · rw [if_neg q, hm0, if_neg (fun w => q (fun y hy => w y (by omega)))]
    · have a : ¬ ∀ y, y < N + 1 → P y = 0 := fun w => z (w N (by omega))
      rw [show pf_n1 (P N) = 1 by unfold pf_n1; exact if_neg z, if_neg a]
      by_cases q : ∀ y, y < N → P y = 0
      · rw [if_pos q]
      · rw [if_neg q, hmm]
theorem pf_n1_0 (x : Int32) : 0 ≤ pf_n1 x ∧ (pf_n1 x = 0 ↔ x = 0) := by
  unfold pf_n1
  by_cases q : x = 0
  · rw [if_pos q]; exact ⟨by decide, ⟨fun _ => q, fun _ => rfl⟩⟩
  · rw [if_neg q]; exact ⟨by decide, ⟨fun z => absurd z (by decide), fun z => absurd z q⟩⟩
theorem pf_d2_0 (x : Int32) : 0 ≤ pf_d2 x := by
  unfold pf_d2
  split
  · decide
  · split <;> decide
theorem pf_highs_0 {x l : Int32} : ∀ {N : Nat}, N ≤ 32 → (pf_highs x l N = 0 ↔ ∀ y, y < N → pf_part x (nI y) l = 0) := by
  intro N hN
  constructor
  · intro h y hy
    refine Classical.byContradiction (fun q => ?_)
    have := pf_highs_bt (x := x) (l := l) (i := y) (by omega) N hN
    rw [h, b_0, decide_eq_true ⟨hy, q⟩] at this
    cases this
  · intro h
    apply b_ext
    intro i hi
    rw [pf_highs_bt hi N hN, b_0]
    exact decide_eq_false (fun w => w.2 (h i w.1))
theorem pf_mx_0 {c : Int32} (hc : 0 ≤ c) : pf_mx c 0 = c := by
  unfold pf_mx
  by_cases q : c ≤ 0
  · rw [if_pos q]; exact Int32.le_antisymm hc q
  · rw [if_neg q]
theorem pf_dp_b2 {x : Int32} (hs : bsm 2 x) : pf_d2 x = if x = 0 then 0 else 1 + pf_mxa (pf_n1 (pf_highs (pf_rest x) (nI 1) 2)) (fun y => pf_n1 (pf_part (pf_rest x) (nI y) (nI 1))) 2 := by
  have hr := bsm_rest hs
  unfold pf_d2
  by_cases q : x = 0
  · rw [if_pos q, if_pos q]
  · rw [if_neg q, if_neg q, pf_mxa_n1 (pf_n1_0 _).1]
    by_cases z : pf_rest x = 0
    · have a : ∀ y, y < 2 → pf_part (pf_rest x) (nI y) (nI 1) = 0 := fun y _ => by rw [z]; exact pf_part_z
      rw [if_pos z, if_pos a, ((pf_n1_0 _).2).mpr ((pf_highs_0 (by omega)).mpr a)]; rfl
    · have a : ¬ ∀ y, y < 2 → pf_part (pf_rest x) (nI y) (nI 1) = 0 := fun w => z (pf_parts_0 (b := 2) (by omega) (by omega) hr w)
      have d : pf_n1 (pf_highs (pf_rest x) (nI 1) 2) = 1 := by
        unfold pf_n1
        exact if_neg (fun w => a ((pf_highs_0 (by omega)).mp w))
      rw [if_neg z, if_neg a, d]; rfl
theorem pf_dp_b3 {x : Int32} (hs : bsm 3 x) : pf_d3 x = if x = 0 then 0 else 1 + pf_mxa (pf_d2 (pf_highs (pf_rest x) (nI 1) 4)) (fun y => pf_n1 (pf_part (pf_rest x) (nI y) (nI 1))) 4 := by
  have hr := bsm_rest hs
  unfold pf_d3
  by_cases q : x = 0
  · rw [if_pos q, if_pos q]
  · rw [if_neg q, if_neg q, pf_mxa_n1 (pf_d2_0 _)]
    by_cases z : pf_rest x = 0
    · have a : ∀ y, y < 4 → pf_part (pf_rest x) (nI y) (nI 1) = 0 := fun y _ => by rw [z]; exact pf_part_z
      rw [if_pos a, z, show pf_n1 0 = 0 from rfl, pf_mx_0 (pf_d2_0 _)]; rfl
    · have a : ¬ ∀ y, y < 4 → pf_part (pf_rest x) (nI y) (nI 1) = 0 := fun w => z (pf_parts_0 (b := 3) (by omega) (by omega) hr w)
      rw [if_neg a, show pf_n1 (pf_rest x) = 1 from if_neg z]; rfl
theorem pf_dp_n1 (z : Int32) : pf_dp z (nI 1) = pf_n1 z := by unfold pf_dp; rw [if_pos (by decide)]
theorem pf_dp_n2 (z : Int32) : pf_dp z (nI 2) = pf_d2 z := by unfold pf_dp; rw [if_neg (by decide), if_pos (by decide)]
theorem pf_dp_n3 (z : Int32) : pf_dp z (nI 3) = pf_d3 z := by unfold pf_dp; rw [if_neg (by decide), if_neg (by decide), if_pos (by decide)]
theorem pf_dp_n4 (z : Int32) : pf_dp z (nI 4) = pf_d4 z := rfl
theorem pf_dp_n5 (z : Int32) : pf_dp z (nI 5) = pf_d5 z := rfl
def pf_dpr (x : Int32) (b l h : Nat) : Int32 := if x = 0 then 0 else 1 + pf_mxa (pf_dp (pf_highs (pf_rest x) (nI l) (2 ^ h)) (nI h)) (fun y => pf_dp (pf_part (pf_rest x) (nI y) (nI l)) (nI l)) (2 ^ h)
theorem pf_dp_c2 {x : Int32} (hs : bsm 2 x) : pf_dp x (nI 2) = pf_dpr x 2 1 1 := by
  rw [pf_dp_n2, pf_dp_b2 hs]
  unfold pf_dpr
  simp only [pf_dp_n1, Nat.pow_one]
theorem pf_dp_c3 {x : Int32} (hs : bsm 3 x) : pf_dp x (nI 3) = pf_dpr x 3 1 2 := by
  rw [pf_dp_n3, pf_dp_b3 hs]
  unfold pf_dpr
  simp only [pf_dp_n1, pf_dp_n2, Nat.reducePow]
theorem pf_dp_c4 {x : Int32} : pf_dp x (nI 4) = pf_dpr x 4 2 2 := by
  rw [pf_dp_n4]
  unfold pf_dpr pf_d4
  simp only [pf_dp_n2, Nat.reducePow]
  rw [show nI 2 = (2 : Int32) from rfl]
theorem pf_dp_c5 {x : Int32} : pf_dp x (nI 5) = pf_dpr x 5 2 3 := by
  rw [pf_dp_n5]
  unfold pf_dpr pf_d5
  simp only [pf_dp_n2, pf_dp_n3, Nat.reducePow]
  rw [show nI 2 = (2 : Int32) from rfl]
theorem pf_dp_b {x : Int32} {b : Nat} (h2 : 2 ≤ b) (h5 : b ≤ 5) (hs : bsm b x) : pf_dp x (nI b) = pf_dpr x b (b / 2) (b - b / 2) := by
  have c : b = 2 ∨ b = 3 ∨ b = 4 ∨ b = 5 := by omega
  rcases c with rfl | rfl | rfl | rfl
  · exact pf_dp_c2 hs
  · exact pf_dp_c3 hs
  · exact pf_dp_c4
  · exact pf_dp_c5
theorem pf_lw_n {l k : Nat} (hl : l ≤ 10) : pf_lw l (nI k) = nI (k % 2 ^ l) := by
  have h1 : 1 ≤ 2 ^ l := Nat.one_le_two_pow
  unfold pf_lw
  rw [nk_sh1 (by omega), show nI (2 ^ l) - 1 = nI (2 ^ l - 1) from pk_sub h1, fa_mask]
theorem nk_kmod {l k : Nat} : nI k - nI (k / 2 ^ l * 2 ^ l) = nI (k % 2 ^ l) := by
  have h := Nat.div_add_mod k (2 ^ l)
  have e : k / 2 ^ l * 2 ^ l ≤ k := Nat.div_mul_le_self k (2 ^ l)
  rw [show nI k - nI (k / 2 ^ l * 2 ^ l) = nI (k - k / 2 ^ l * 2 ^ l) from pk_sub e]
  congr 1
  rw [Nat.mul_comm] at h
  omega
theorem pf_nd_z {b : Nat} (h1 : 1 ≤ b) (h5 : b ≤ 5) : pf_nd 0 (nI b) = 0 := by
  rcases Nat.eq_or_lt_of_le h1 with q | q
  · subst q; rfl
  · rw [pf_nd_b 0 (by omega) h5, if_pos rfl]
theorem pf_dp_z {b : Nat} (h1 : 1 ≤ b) (h5 : b ≤ 5) : pf_dp 0 (nI b) = 0 := by
  rcases Nat.eq_or_lt_of_le h1 with q | q
  · subst q; rfl
  · rw [pf_dp_b (by omega) h5 (fun i _ _ => b_0 i), pf_dpr, if_pos rfl]
theorem cl_lt {b x : Nat} (hb : b ≤ 5) (hx : x < 2 ^ (b - b / 2)) : x * 2 ^ (b / 2) < 2 ^ 31 := Nat.lt_of_le_of_lt (Nat.le_trans (Nat.le_add_right _ _) (cl_hl hb hx)) (by omega)
