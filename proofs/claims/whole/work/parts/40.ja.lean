/-! pure: what the library's functions of a word tell -/
theorem jd_and {k a b m n : Nat} (ha : a < 2 ^ k) (hm : m < 2 ^ k) : (a + 2 ^ k * b) &&& (m + 2 ^ k * n) = (a &&& m) + 2 ^ k * (b &&& n) := by
  have e1 : a + 2 ^ k * b = 2 ^ k * b + a := Nat.add_comm _ _
  have e2 : m + 2 ^ k * n = 2 ^ k * n + m := Nat.add_comm _ _
  have e3 : (a &&& m) + 2 ^ k * (b &&& n) = 2 ^ k * (b &&& n) + (a &&& m) := Nat.add_comm _ _
  have h3 : a &&& m < 2 ^ k := Nat.lt_of_le_of_lt Nat.and_le_left ha
  rw [e1, e2, e3, Nat.two_pow_add_eq_or_of_lt ha, Nat.two_pow_add_eq_or_of_lt hm, Nat.two_pow_add_eq_or_of_lt h3]
  apply Nat.eq_of_testBit_eq
  intro i
  simp only [Nat.testBit_and, Nat.testBit_or, Nat.testBit_two_pow_mul]
  by_cases q : k ≤ i
  · have h1 : a.testBit i = false := Nat.testBit_lt_two_pow (Nat.lt_of_lt_of_le ha (Nat.pow_le_pow_right (by omega) q))
    have h2 : m.testBit i = false := Nat.testBit_lt_two_pow (Nat.lt_of_lt_of_le hm (Nat.pow_le_pow_right (by omega) q))
    simp [h1, h2, q]
  · simp [q]
theorem jd_and4 {a0 a1 a2 a3 m : Nat} (h0 : a0 < 256) (h1 : a1 < 256) (h2 : a2 < 256) (h3 : a3 < 256) (hm : m < 256) : (a0 + 256 * (a1 + 256 * (a2 + 256 * a3))) &&& (m + 256 * (m + 256 * (m + 256 * m))) = (a0 &&& m) + 256 * ((a1 &&& m) + 256 * ((a2 &&& m) + 256 * (a3 &&& m))) := by
  have e := jd_and (k := 8) (a := a0) (b := a1 + 256 * (a2 + 256 * a3)) (m := m) (n := m + 256 * (m + 256 * m)) h0 hm
  have e2 := jd_and (k := 8) (a := a1) (b := a2 + 256 * a3) (m := m) (n := m + 256 * m) h1 hm
  have e3 := jd_and (k := 8) (a := a2) (b := a3) (m := m) (n := m) h2 hm
  rw [show (2 : Nat) ^ 8 = 256 from rfl] at e e2 e3
  rw [e, e2, e3]
def jd_p (d : Nat) : Nat := d - (d / 2 &&& 85)
def jd_q (d : Nat) : Nat := (jd_p d &&& 51) + (jd_p d / 4 &&& 51)
def jd_r (d : Nat) : Nat := (jd_q d + jd_q d / 16) &&& 15
theorem jd_1 : ∀ d, d < 256 → ∀ b, b < 2 → (d / 2 + 128 * b) &&& 85 = d / 2 &&& 85 := by decide +kernel
theorem jd_1b : ∀ d, d < 256 → (d / 2 &&& 85) ≤ d ∧ jd_p d < 256 := by decide +kernel
theorem jd_2 : ∀ d, d < 256 → ∀ b, b < 4 → (jd_p d / 4 + 64 * b) &&& 51 = jd_p d / 4 &&& 51 := by decide +kernel
theorem jd_2b : ∀ d, d < 256 → jd_q d ≤ 68 ∧ jd_q d % 16 ≤ 4 := by decide +kernel
theorem jd_3 : ∀ d, d < 256 → ∀ b, b < 16 → (jd_q d + (jd_q d / 16 + 16 * b)) &&& 15 = jd_r d := by decide +kernel
theorem jd_3b : ∀ d, d < 256 → jd_r d ≤ 8 ∧ jd_r d = fb_ct (fun i => d.testBit i) 8 := by decide +kernel
def jd_bc (x : Nat) : Nat :=
  let a := (x + 4294967296 - (x / 2 &&& 1431655765)) % 4294967296
  let b := ((a &&& 858993459) + (a / 4 &&& 858993459)) % 4294967296
  let c := (b + b / 16) % 4294967296 &&& 252645135
  let e := (c + c / 256) % 4294967296
  let g := (e + e / 65536) % 4294967296
  g &&& 63
theorem jd_last {r0 r1 r2 r3 : Nat} (h0 : r0 ≤ 8) (h1 : r1 ≤ 8) (h2 : r2 ≤ 8) (h3 : r3 ≤ 8) : ((r0 + 256 * (r1 + 256 * (r2 + 256 * r3)) + (r0 + 256 * (r1 + 256 * (r2 + 256 * r3))) / 256) % 4294967296 + (r0 + 256 * (r1 + 256 * (r2 + 256 * r3)) + (r0 + 256 * (r1 + 256 * (r2 + 256 * r3))) / 256) % 4294967296 / 65536) % 4294967296 &&& 63 = r0 + r1 + r2 + r3 := by
  have e1 : (r0 + 256 * (r1 + 256 * (r2 + 256 * r3)) + (r0 + 256 * (r1 + 256 * (r2 + 256 * r3))) / 256) % 4294967296 = (r0 + r1) + 256 * ((r1 + r2) + 256 * ((r2 + r3) + 256 * r3)) := by
    have z : (r0 + 256 * (r1 + 256 * (r2 + 256 * r3))) / 256 = r1 + 256 * (r2 + 256 * r3) := by omega
    rw [z]; omega
  have e2 : ((r0 + r1) + 256 * ((r1 + r2) + 256 * ((r2 + r3) + 256 * r3)) + ((r0 + r1) + 256 * ((r1 + r2) + 256 * ((r2 + r3) + 256 * r3))) / 65536) % 4294967296 = (r0 + r1 + r2 + r3) + 64 * (4 * ((r1 + r2 + r3) + 256 * ((r2 + r3) + 256 * r3))) := by
    have z : ((r0 + r1) + 256 * ((r1 + r2) + 256 * ((r2 + r3) + 256 * r3))) / 65536 = (r2 + r3) + 256 * r3 := by omega
    rw [z]; omega
  rw [e1, e2]
  have k := Nat.and_two_pow_sub_one_eq_mod ((r0 + r1 + r2 + r3) + 64 * (4 * ((r1 + r2 + r3) + 256 * ((r2 + r3) + 256 * r3)))) 6
  rw [show 2 ^ 6 - 1 = 63 from rfl] at k
  rw [k]
  omega
theorem jd_bc_eq {d0 d1 d2 d3 : Nat} (h0 : d0 < 256) (h1 : d1 < 256) (h2 : d2 < 256) (h3 : d3 < 256) : jd_bc (d0 + 256 * (d1 + 256 * (d2 + 256 * d3))) = jd_r d0 + jd_r d1 + jd_r d2 + jd_r d3 := by
  have a0 := jd_1b d0 h0; have a1 := jd_1b d1 h1; have a2 := jd_1b d2 h2; have a3 := jd_1b d3 h3
  have e1 : (d0 + 256 * (d1 + 256 * (d2 + 256 * d3))) / 2 = (d0 / 2 + 128 * (d1 % 2)) + 256 * ((d1 / 2 + 128 * (d2 % 2)) + 256 * ((d2 / 2 + 128 * (d3 % 2)) + 256 * (d3 / 2))) := by omega
  have e2 : (d0 + 256 * (d1 + 256 * (d2 + 256 * d3))) / 2 &&& 1431655765 = (d0 / 2 &&& 85) + 256 * ((d1 / 2 &&& 85) + 256 * ((d2 / 2 &&& 85) + 256 * (d3 / 2 &&& 85))) := by
    rw [e1, show (1431655765 : Nat) = 85 + 256 * (85 + 256 * (85 + 256 * 85)) from rfl, jd_and4 (by omega) (by omega) (by omega) (by omega) (by omega), jd_1 d0 h0 _ (by omega), jd_1 d1 h1 _ (by omega), jd_1 d2 h2 _ (by omega)]
  have e3 : (d0 + 256 * (d1 + 256 * (d2 + 256 * d3)) + 4294967296 - ((d0 + 256 * (d1 + 256 * (d2 + 256 * d3))) / 2 &&& 1431655765)) % 4294967296 = jd_p d0 + 256 * (jd_p d1 + 256 * (jd_p d2 + 256 * jd_p d3)) := by
    rw [e2]; unfold jd_p; omega
  have b0 := jd_2b d0 h0; have b1 := jd_2b d1 h1; have b2 := jd_2b d2 h2; have b3 := jd_2b d3 h3
  have f1 : (jd_p d0 + 256 * (jd_p d1 + 256 * (jd_p d2 + 256 * jd_p d3))) / 4 = (jd_p d0 / 4 + 64 * (jd_p d1 % 4)) + 256 * ((jd_p d1 / 4 + 64 * (jd_p d2 % 4)) + 256 * ((jd_p d2 / 4 + 64 * (jd_p d3 % 4)) + 256 * (jd_p d3 / 4))) := by omega
  have f2 : (jd_p d0 + 256 * (jd_p d1 + 256 * (jd_p d2 + 256 * jd_p d3))) / 4 &&& 858993459 = (jd_p d0 / 4 &&& 51) + 256 * ((jd_p d1 / 4 &&& 51) + 256 * ((jd_p d2 / 4 &&& 51) + 256 * (jd_p d3 / 4 &&& 51))) := by
    rw [f1, show (858993459 : Nat) = 51 + 256 * (51 + 256 * (51 + 256 * 51)) from rfl, jd_and4 (by omega) (by omega) (by omega) (by omega) (by omega), jd_2 d0 h0 _ (by omega), jd_2 d1 h1 _ (by omega), jd_2 d2 h2 _ (by omega)]
  have f3 : (jd_p d0 + 256 * (jd_p d1 + 256 * (jd_p d2 + 256 * jd_p d3))) &&& 858993459 = (jd_p d0 &&& 51) + 256 * ((jd_p d1 &&& 51) + 256 * ((jd_p d2 &&& 51) + 256 * (jd_p d3 &&& 51))) := by
    rw [show (858993459 : Nat) = 51 + 256 * (51 + 256 * (51 + 256 * 51)) from rfl, jd_and4 a0.2 a1.2 a2.2 a3.2 (by omega)]
  have f4 : (((jd_p d0 + 256 * (jd_p d1 + 256 * (jd_p d2 + 256 * jd_p d3))) &&& 858993459) + ((jd_p d0 + 256 * (jd_p d1 + 256 * (jd_p d2 + 256 * jd_p d3))) / 4 &&& 858993459)) % 4294967296 = jd_q d0 + 256 * (jd_q d1 + 256 * (jd_q d2 + 256 * jd_q d3)) := by
    rw [f2, f3]; unfold jd_q at b0 b1 b2 b3 ⊢; omega
  have c0 := jd_3b d0 h0; have c1 := jd_3b d1 h1; have c2 := jd_3b d2 h2; have c3 := jd_3b d3 h3
  have g1 : (jd_q d0 + 256 * (jd_q d1 + 256 * (jd_q d2 + 256 * jd_q d3)) + (jd_q d0 + 256 * (jd_q d1 + 256 * (jd_q d2 + 256 * jd_q d3))) / 16) % 4294967296 = (jd_q d0 + (jd_q d0 / 16 + 16 * (jd_q d1 % 16))) + 256 * ((jd_q d1 + (jd_q d1 / 16 + 16 * (jd_q d2 % 16))) + 256 * ((jd_q d2 + (jd_q d2 / 16 + 16 * (jd_q d3 % 16))) + 256 * (jd_q d3 + (jd_q d3 / 16 + 16 * 0)))) := by omega
  have g2 : (jd_q d0 + 256 * (jd_q d1 + 256 * (jd_q d2 + 256 * jd_q d3)) + (jd_q d0 + 256 * (jd_q d1 + 256 * (jd_q d2 + 256 * jd_q d3))) / 16) % 4294967296 &&& 252645135 = jd_r d0 + 256 * (jd_r d1 + 256 * (jd_r d2 + 256 * jd_r d3)) := by
    rw [g1, show (252645135 : Nat) = 15 + 256 * (15 + 256 * (15 + 256 * 15)) from rfl, jd_and4 (by omega) (by omega) (by omega) (by omega) (by omega), jd_3 d0 h0 _ (by omega), jd_3 d1 h1 _ (by omega), jd_3 d2 h2 _ (by omega), jd_3 d3 h3 _ (by omega)]
  have k1 := jd_last c0.1 c1.1 c2.1 c3.1
  unfold jd_bc
  rw [e3]
  simp only []
  rw [f4, g2]
  exact k1
