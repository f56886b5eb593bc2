/-! pure: words as numbers -/
abbrev ju (x : Int32) (n : Nat) : Int32 := (x.toUInt32 >>> ((nI n).toUInt32 &&& Int32.toUInt32 31)).toInt32
def nU (x : Int32) : Nat := x.toBitVec.toNat
theorem nU_lt (x : Int32) : nU x < 4294967296 := x.toBitVec.isLt
theorem nI_nU (x : Int32) : nI (nU x) = x := by
  apply Int32.toBitVec_inj.mp
  show BitVec.ofNat 32 x.toBitVec.toNat = x.toBitVec
  simp
theorem bt_nI (v i : Nat) : bt (nI v) i = (decide (i < 32) && v.testBit i) := by
  show (BitVec.ofNat 32 v).getLsbD i = _
  rw [BitVec.getLsbD_ofNat]
theorem bt_nU (x : Int32) (i : Nat) : bt x i = (nU x).testBit i := rfl
theorem nI_mod (a : Nat) : nI (a % 4294967296) = nI a := by
  apply Int32.toBitVec_inj.mp
  show BitVec.ofNat 32 (a % 4294967296) = BitVec.ofNat 32 a
  apply BitVec.eq_of_toNat_eq
  rw [BitVec.toNat_ofNat, BitVec.toNat_ofNat]
  omega
theorem nI_subm {a b : Nat} (h : b ≤ 4294967296) : nI a - nI b = nI ((a + 4294967296 - b) % 4294967296) := by
  rw [nI_mod]
  apply Int32.toBitVec_inj.mp
  show BitVec.ofNat 32 a - BitVec.ofNat 32 b = BitVec.ofNat 32 (a + 4294967296 - b)
  apply BitVec.eq_of_toNat_eq
  rw [BitVec.toNat_sub, BitVec.toNat_ofNat, BitVec.toNat_ofNat, BitVec.toNat_ofNat]
  omega
theorem nI_addm (a b : Nat) : nI a + nI b = nI ((a + b) % 4294967296) := by rw [nI_mod, nI_add]
theorem nI_ju {v n : Nat} (hv : v < 4294967296) (hn : n < 32) : ju (nI v) n = nI (v / 2 ^ n) := by
  apply b_ext
  intro i hi
  rw [b_ushr n hn, bt_nI, bt_nI, Nat.testBit_div_two_pow]
  by_cases q : n + i < 32
  · rw [decide_eq_true q, decide_eq_true hi, Nat.add_comm i n]
  · have h1 : v.testBit (n + i) = false := Nat.testBit_lt_two_pow (Nat.lt_of_lt_of_le hv (show 2 ^ 32 ≤ 2 ^ (n + i) from Nat.pow_le_pow_right (by omega) (by omega)))
    rw [Nat.add_comm i n, h1, Bool.and_false, Bool.and_false]
theorem nU_nI {v : Nat} (h : v < 4294967296) : nU (nI v) = v := by
  show (BitVec.ofNat 32 v).toNat = v
  rw [BitVec.toNat_ofNat]
  exact Nat.mod_eq_of_lt h
theorem jd_ct (v : Nat) : fb_ct (bt (nI v)) 32 = fb_ct (fun i => (v % 256).testBit i) 8 + fb_ct (fun i => (v / 256 % 256).testBit i) 8 + fb_ct (fun i => (v / 65536 % 256).testBit i) 8 + fb_ct (fun i => (v / 16777216 % 256).testBit i) 8 := by
  have h1 : fb_ct (bt (nI v)) 32 = fb_ct (bt (nI v)) 24 + fb_ct (fun k => bt (nI v) (24 + k)) 8 := fb_ct_split _ 24 8
  have h2 : fb_ct (bt (nI v)) 24 = fb_ct (bt (nI v)) 16 + fb_ct (fun k => bt (nI v) (16 + k)) 8 := fb_ct_split _ 16 8
  have h3 : fb_ct (bt (nI v)) 16 = fb_ct (bt (nI v)) 8 + fb_ct (fun k => bt (nI v) (8 + k)) 8 := fb_ct_split _ 8 8
  have key : ∀ s k, k < 8 → s + k < 32 → bt (nI v) (s + k) = (v / 2 ^ s % 256).testBit k := fun s k hk hs => by
    rw [bt_nI, decide_eq_true hs, Bool.true_and, show 256 = 2 ^ 8 from rfl, Nat.testBit_mod_two_pow, decide_eq_true hk, Bool.true_and, Nat.testBit_div_two_pow, Nat.add_comm]
  rw [h1, h2, h3]
  have e0 : fb_ct (bt (nI v)) 8 = fb_ct (fun i => (v % 256).testBit i) 8 := fb_ct_cong (fun k hk => by
    have := key 0 k hk (by omega)
    rw [Nat.zero_add, Nat.pow_zero, Nat.div_one] at this; exact this)
  have e1 : fb_ct (fun k => bt (nI v) (8 + k)) 8 = fb_ct (fun i => (v / 256 % 256).testBit i) 8 := fb_ct_cong (fun k hk => key 8 k hk (by omega))
  have e2 : fb_ct (fun k => bt (nI v) (16 + k)) 8 = fb_ct (fun i => (v / 65536 % 256).testBit i) 8 := fb_ct_cong (fun k hk => key 16 k hk (by omega))
  have e3 : fb_ct (fun k => bt (nI v) (24 + k)) 8 = fb_ct (fun i => (v / 16777216 % 256).testBit i) 8 := fb_ct_cong (fun k hk => key 24 k hk (by omega))
  rw [e0, e1, e2, e3]
theorem jd_bc_ct {v : Nat} (hv : v < 4294967296) : jd_bc v = fb_ct (bt (nI v)) 32 := by
  have e : v = v % 256 + 256 * (v / 256 % 256 + 256 * (v / 65536 % 256 + 256 * (v / 16777216 % 256))) := by omega
  have h := jd_bc_eq (d0 := v % 256) (d1 := v / 256 % 256) (d2 := v / 65536 % 256) (d3 := v / 16777216 % 256) (by omega) (by omega) (by omega) (by omega)
  rw [← e] at h
  rw [h, jd_ct, (jd_3b (v % 256) (by omega)).2, (jd_3b (v / 256 % 256) (by omega)).2, (jd_3b (v / 65536 % 256) (by omega)).2, (jd_3b (v / 16777216 % 256) (by omega)).2]
/-- the lowest one: a number and the one less -/
theorem jd_low {x : Int32} {t : Nat} (h : bt x t = true) (h2 : ∀ j, j < t → bt x j = false) : t < 32 ∧ ∃ m, nU x = 2 ^ (t + 1) * m + 2 ^ t := by
  have ht : t < 32 := by
    rcases Nat.lt_or_ge t 32 with q | q
    · exact q
    · rw [b_big q] at h; cases h
  refine ⟨ht, nU x / 2 ^ (t + 1), ?_⟩
  have e1 : nU x % 2 ^ (t + 1) = 2 ^ t := by
    apply Nat.eq_of_testBit_eq
    intro i
    rw [Nat.testBit_mod_two_pow, Nat.testBit_two_pow]
    rcases Nat.lt_trichotomy i t with q | q | q
    · have := h2 i q
      rw [bt_nU] at this
      rw [this, Bool.and_false, decide_eq_false (by omega)]
    · subst q
      rw [bt_nU] at h
      rw [h, Bool.and_true, decide_eq_true (by omega), decide_eq_true rfl]
    · rw [decide_eq_false (by omega), Bool.false_and, decide_eq_false (by omega)]
  have e2 := Nat.div_add_mod (nU x) (2 ^ (t + 1))
  rw [e1] at e2
  exact e2.symm
theorem jd_lowN {t m : Nat} (i : Nat) : (2 ^ (t + 1) * m + 2 ^ t - 1).testBit i = if i < t then true else if i = t then false else (2 ^ (t + 1) * m + 2 ^ t).testBit i := by
  have hp : 0 < 2 ^ t := Nat.two_pow_pos t
  have hs : 2 ^ t < 2 ^ (t + 1) := Nat.pow_lt_pow_right (by omega) (by omega)
  have e : 2 ^ (t + 1) * m + 2 ^ t - 1 = 2 ^ (t + 1) * m + (2 ^ t - 1) := by omega
  rw [e, Nat.testBit_two_pow_mul_add m (show 2 ^ t - 1 < 2 ^ (t + 1) by omega), Nat.testBit_two_pow_mul_add m hs, Nat.testBit_two_pow_sub_one]
  rcases Nat.lt_trichotomy i t with q | q | q
  · rw [if_pos (by omega), if_pos q, decide_eq_true q]
  · rw [if_pos (by omega), if_neg (by omega), if_pos q, decide_eq_false (by omega)]
  · rw [if_neg (by omega), if_neg (by omega), if_neg (by omega), if_neg (by omega)]
theorem bt_pred {x : Int32} {t : Nat} (h : bt x t = true) (h2 : ∀ j, j < t → bt x j = false) {i : Nat} (hi : i < 32) : bt (x - 1) i = if i < t then true else if i = t then false else bt x i := by
  obtain ⟨ht, m, e⟩ := jd_low h h2
  have hl := nU_lt x
  have hp : 0 < 2 ^ t := Nat.two_pow_pos t
  have e1 : x - 1 = nI (2 ^ (t + 1) * m + 2 ^ t - 1) := by
    rw [← nI_nU x, e, show (1 : Int32) = nI 1 from rfl]
    exact pk_sub (by omega)
  rw [e1, bt_nI, decide_eq_true hi, Bool.true_and, jd_lowN, bt_nU, e]
theorem bt_rest {x : Int32} {t : Nat} (h : bt x t = true) (h2 : ∀ j, j < t → bt x j = false) {i : Nat} (hi : i < 32) : bt (pf_rest x) i = (bt x i && !decide (i = t)) := by
  unfold pf_rest
  rw [b_and, bt_pred h h2 hi]
  rcases Nat.lt_trichotomy i t with q | q | q
  · rw [if_pos q, h2 i q]; rfl
  · rw [if_neg (by omega), if_pos q, decide_eq_true q]; rfl
  · rw [if_neg (by omega), if_neg (by omega), decide_eq_false (by omega)]; simp
theorem bt_mask {x : Int32} {t : Nat} (h : bt x t = true) (h2 : ∀ j, j < t → bt x j = false) : (x ^^^ -1) &&& (x - 1) = nI (2 ^ t - 1) := by
  have ht := (jd_low h h2).1
  apply b_ext
  intro i hi
  rw [b_and, b_xor, b_m1 i hi, bt_pred h h2 hi, bt_nI, decide_eq_true hi, Bool.true_and, Nat.testBit_two_pow_sub_one]
  rcases Nat.lt_trichotomy i t with q | q | q
  · rw [if_pos q, h2 i q, decide_eq_true q]; rfl
  · rw [if_neg (by omega), if_pos q, decide_eq_false (by omega)]; simp
  · rw [if_neg (by omega), if_neg (by omega), decide_eq_false (by omega)]
    cases bt x i <;> rfl
def jt4 (n i : Int32) : Int32 := n + ju i 1
def jt3 (n i : Int32) : Int32 := if i ≤ 4 then jt4 n i else jt4 (n + Int32.ofInt 2) (ju i 2)
def jt2 (n i : Int32) : Int32 := if i ≤ 16 then jt3 n i else jt3 (n + Int32.ofInt 4) (ju i 4)
def jt1 (n i : Int32) : Int32 := if i ≤ 256 then jt2 n i else jt2 (n + Int32.ofInt 8) (ju i 8)
def jt0 (n i : Int32) : Int32 := if i ≤ 65536 then jt1 n i else jt1 (n + Int32.ofInt 16) (ju i 16)
theorem jt_eq : ∀ t, t < 32 → (0 < nI (2 ^ t - 1) → jt0 1 (nI (2 ^ t - 1)) = nI t) ∧ (¬ 0 < nI (2 ^ t - 1) → nI (2 ^ t - 1) &&& 32 = nI t) := by decide +kernel
def jl4 (n i : Int32) : Int32 := n - ju i 1
def jl3 (n i : Int32) : Int32 := if i < 4 then jl4 n i else jl4 (n + Int32.ofInt (-2)) (ju i 2)
def jl2 (n i : Int32) : Int32 := if i < 16 then jl3 n i else jl3 (n + Int32.ofInt (-4)) (ju i 4)
def jl1 (n i : Int32) : Int32 := if i < 256 then jl2 n i else jl2 (n + Int32.ofInt (-8)) (ju i 8)
def jl0 (n i : Int32) : Int32 := if i < 65536 then jl1 n i else jl1 (n + Int32.ofInt (-16)) (ju i 16)
theorem nI_subI {n k : Nat} (h : k ≤ n) : nI n + Int32.ofInt (-(k : Int)) = nI (n - k) := by
  have e : Int32.ofInt (-(k : Int)) = - nI k := by rw [Int32.ofInt_neg]; rfl
  rw [e, ← Int32.sub_eq_add_neg]
  exact pk_sub h
theorem jl4_eq {n v : Nat} (hn : 1 ≤ n) (h0 : 0 < v) (hv : v < 4) : ∃ t, t ≤ 1 ∧ 2 ^ t ≤ v ∧ v < 2 ^ (t + 1) ∧ jl4 (nI n) (nI v) = nI (n - t) := by
  have c : v = 1 ∨ v = 2 ∨ v = 3 := by omega
  unfold jl4
  rcases c with rfl | rfl | rfl
  · exact ⟨0, by omega, by omega, by omega, by rw [nI_ju (by omega) (by omega)]; exact pk_sub (by omega)⟩
  · exact ⟨1, by omega, by omega, by omega, by rw [nI_ju (by omega) (by omega)]; exact pk_sub (by omega)⟩
  · exact ⟨1, by omega, by omega, by omega, by rw [nI_ju (by omega) (by omega)]; exact pk_sub (by omega)⟩
theorem jl_up {v s t : Nat} (h1 : 2 ^ t ≤ v / 2 ^ s) (h2 : v / 2 ^ s < 2 ^ (t + 1)) : 2 ^ (t + s) ≤ v ∧ v < 2 ^ (t + s + 1) := by
  have hp : 0 < 2 ^ s := Nat.two_pow_pos s
  have a := (Nat.le_div_iff_mul_le hp).mp h1
  have b := (Nat.div_lt_iff_lt_mul hp).mp h2
  rw [← Nat.pow_add] at a b
  rw [show t + s + 1 = t + 1 + s by omega]
  exact ⟨a, b⟩
theorem jl3_eq {n v : Nat} (hn : 3 ≤ n) (h0 : 0 < v) (hv : v < 16) : ∃ t, t ≤ 3 ∧ 2 ^ t ≤ v ∧ v < 2 ^ (t + 1) ∧ jl3 (nI n) (nI v) = nI (n - t) := by
  unfold jl3
  by_cases c : v < 4
  · have c2 : nI v < 4 := (nI_ltI (b := 4) (by omega) (by omega)).mpr c
    obtain ⟨t, t1, t2, t3, t4⟩ := jl4_eq (n := n) (by omega) h0 c
    exact ⟨t, by omega, t2, t3, by rw [if_pos c2, t4]⟩
  · have c2 : ¬ nI v < 4 := fun q => c ((nI_ltI (b := 4) (by omega) (by omega)).mp q)
    obtain ⟨t, t1, t2, t3, t4⟩ := jl4_eq (n := n - 2) (v := v / 2 ^ 2) (by omega) (by omega) (by omega)
    obtain ⟨u1, u2⟩ := jl_up t2 t3
    exact ⟨t + 2, by omega, u1, u2, by rw [if_neg c2, nI_ju (by omega) (by omega), show (-2 : Int) = -((2 : Nat) : Int) from rfl, nI_subI (by omega), t4]; congr 1; omega⟩
theorem jl2_eq {n v : Nat} (hn : 7 ≤ n) (h0 : 0 < v) (hv : v < 256) : ∃ t, t ≤ 7 ∧ 2 ^ t ≤ v ∧ v < 2 ^ (t + 1) ∧ jl2 (nI n) (nI v) = nI (n - t) := by
  unfold jl2
  by_cases c : v < 16
  · have c2 : nI v < 16 := (nI_ltI (b := 16) (by omega) (by omega)).mpr c
    obtain ⟨t, t1, t2, t3, t4⟩ := jl3_eq (n := n) (by omega) h0 c
    exact ⟨t, by omega, t2, t3, by rw [if_pos c2, t4]⟩
  · have c2 : ¬ nI v < 16 := fun q => c ((nI_ltI (b := 16) (by omega) (by omega)).mp q)
    obtain ⟨t, t1, t2, t3, t4⟩ := jl3_eq (n := n - 4) (v := v / 2 ^ 4) (by omega) (by omega) (by omega)
    obtain ⟨u1, u2⟩ := jl_up t2 t3
    exact ⟨t + 4, by omega, u1, u2, by rw [if_neg c2, nI_ju (by omega) (by omega), show (-4 : Int) = -((4 : Nat) : Int) from rfl, nI_subI (by omega), t4]; congr 1; omega⟩
theorem jl1_eq {n v : Nat} (hn : 15 ≤ n) (h0 : 0 < v) (hv : v < 65536) : ∃ t, t ≤ 15 ∧ 2 ^ t ≤ v ∧ v < 2 ^ (t + 1) ∧ jl1 (nI n) (nI v) = nI (n - t) := by
  unfold jl1
  by_cases c : v < 256
  · have c2 : nI v < 256 := (nI_ltI (b := 256) (by omega) (by omega)).mpr c
    obtain ⟨t, t1, t2, t3, t4⟩ := jl2_eq (n := n) (by omega) h0 c
    exact ⟨t, by omega, t2, t3, by rw [if_pos c2, t4]⟩
  · have c2 : ¬ nI v < 256 := fun q => c ((nI_ltI (b := 256) (by omega) (by omega)).mp q)
    obtain ⟨t, t1, t2, t3, t4⟩ := jl2_eq (n := n - 8) (v := v / 2 ^ 8) (by omega) (by omega) (by omega)
    obtain ⟨u1, u2⟩ := jl_up t2 t3
    exact ⟨t + 8, by omega, u1, u2, by rw [if_neg c2, nI_ju (by omega) (by omega), show (-8 : Int) = -((8 : Nat) : Int) from rfl, nI_subI (by omega), t4]; congr 1; omega⟩
theorem jl0_eq {v : Nat} (h0 : 0 < v) (hv : v < 2147483648) : ∃ t, t ≤ 30 ∧ 2 ^ t ≤ v ∧ v < 2 ^ (t + 1) ∧ jl0 31 (nI v) = nI (31 - t) := by
  unfold jl0
  by_cases c : v < 65536
  · have c2 : nI v < 65536 := (nI_ltI (b := 65536) (by omega) (by omega)).mpr c
    obtain ⟨t, t1, t2, t3, t4⟩ := jl1_eq (n := 31) (by omega) h0 c
    exact ⟨t, by omega, t2, t3, by rw [if_pos c2]; exact t4⟩
  · have c2 : ¬ nI v < 65536 := fun q => c ((nI_ltI (b := 65536) (by omega) (by omega)).mp q)
    obtain ⟨t, t1, t2, t3, t4⟩ := jl1_eq (n := 15) (v := v / 2 ^ 16) (by omega) (by omega) (by omega)
    obtain ⟨u1, u2⟩ := jl_up t2 t3
    have u3 : t + 16 < 31 := (Nat.pow_lt_pow_iff_right (a := 2) (by omega)).mp (Nat.lt_of_le_of_lt u1 (show v < 2 ^ 31 from hv))
    exact ⟨t + 16, by omega, u1, u2, by rw [if_neg c2, nI_ju (by omega) (by omega), show (-16 : Int) = -((16 : Nat) : Int) from rfl, show (31 : Int32) = nI 31 from rfl, nI_subI (by omega), t4]; congr 1; omega⟩
theorem jl_top {v t : Nat} (h1 : 2 ^ t ≤ v) (h2 : v < 2 ^ (t + 1)) : v.testBit t = true ∧ ∀ j, t < j → v.testBit j = false := by
  refine ⟨?_, fun j hj => Nat.testBit_lt_two_pow (Nat.lt_of_lt_of_le h2 (Nat.pow_le_pow_right (by omega) hj))⟩
  have hs : 2 ^ (t + 1) = 2 ^ t + 2 ^ t := by rw [Nat.pow_succ]; omega
  have e : v = 2 ^ t * 1 + (v - 2 ^ t) := by omega
  rw [e, Nat.testBit_two_pow_mul_add 1 (show v - 2 ^ t < 2 ^ t by omega), if_neg (by omega), Nat.sub_self]
  rfl
theorem jd_neg {x : Int32} {t : Nat} (hn : x.toInt < 0) (h : bt x t = true) (h2 : ∀ j, t < j → j < 32 → bt x j = false) : t = 31 := by
  have ht : t < 32 := by
    rcases Nat.lt_or_ge t 32 with q | q
    · exact q
    · rw [b_big q] at h; cases h
  have hm : bt x 31 = true := by
    have e : x.toInt = x.toBitVec.toInt := rfl
    rw [e, BitVec.toInt_neg_iff] at hn
    rw [bt_nU]
    have h1 : 2 ^ 31 ≤ nU x := by
      show 2 ^ 31 ≤ x.toBitVec.toNat
      omega
    exact (jl_top h1 (nU_lt x)).1
  rcases Nat.lt_or_ge t 31 with q | q
  · have := h2 31 q (by omega)
    rw [hm] at this; cases this
  · omega
