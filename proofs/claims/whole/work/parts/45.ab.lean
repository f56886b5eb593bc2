/-! pure: joined words, shifts of a number -/
theorem jn_at {H : nk_AH} {q w j b q1 w1 j1 v : Nat} {κ κ1 : Int32} {f f1 J : Nat → Int32} (hk : cK H q w j κ b f) (hk1 : cK H q1 w1 j1 κ1 b f1) : ∃ g1, nk_u H w (.inl (.int, nk_wm b, .inl (fa_fill J f v))) w1 = some (.inl (.int, nk_wm b, .inl g1)) ∧ ∀ u, v ≤ u → g1 u = f1 u := by
  by_cases e : w1 = w
  · subst e
    refine ⟨_, nk_u_self _ _ _, fun u hu => ?_⟩
    have h := hk.2
    rw [hk1.2] at h
    have h2 : f1 = f := by
      have := Option.some.inj h
      injection this with this
      injection this with _ this
      injection this with _ this
      injection this
    rw [fa_fill_out hu, h2]
  · exact ⟨f1, by rw [nk_u_ne e]; exact hk1.2, fun u _ => rfl⟩
theorem cK.ob {H : nk_AH} {q w j b q1 w1 j1 b1 : Nat} {κ κ1 : Int32} {f f1 : Nat → Int32} {e : nk_AC} (hk : cK H q w j κ b f) (hk1 : cK H q1 w1 j1 κ1 b1 f1) : nk_u H w e q1 = some (.inr (2, [.int (nI j1), .int κ1, .int (nI (nk_tp b1)), .int (nI (b1 / 2)), .int (nI (b1 - b1 / 2)), .ref w1])) := by
  have hne : q1 ≠ w := fun z => by
    have h1 := hk1.1
    rw [z, hk.2] at h1
    cases h1
  rw [nk_u_ne hne]; exact hk1.1
theorem nk_sr5 (s : Int32) : (s >>> ((5 : Int32) &&& 31)).toInt = s.toInt / 32 := by
  have e : s >>> ((5 : Int32) &&& 31) = ⟨⟨s.toBitVec.sshiftRight 5⟩⟩ := by
    apply Int32.toBitVec_inj.mp
    show s.toBitVec.sshiftRight' _ = _
    rfl
  rw [e]
  show (s.toBitVec.sshiftRight 5).toInt = _
  rw [BitVec.toInt_sshiftRight, Int.shiftRight_eq_div_pow]
  rfl
theorem nU_toInt (s : Int32) : s.toInt = if nU s < 2147483648 then (nU s : Int) else (nU s : Int) - 4294967296 := by
  show s.toBitVec.toInt = _
  rw [BitVec.toInt_eq_toNat_cond]
  show (if 2 * nU s < 4294967296 then (nU s : Int) else (nU s : Int) - 4294967296) = _
  by_cases q : 2 * nU s < 4294967296
  · rw [if_pos q, if_pos (by omega)]
  · rw [if_neg q, if_neg (by omega)]
theorem nk_and31 (s : Int32) : s &&& 31 = nI (s.toInt % 32).toNat := by
  have h := nU_toInt s
  have hl := nU_lt s
  have e : (s.toInt % 32).toNat = nU s % 32 := by
    split at h <;> omega
  rw [e]
  apply b_ext
  intro i hi
  have h31 : bt 31 i = decide (i < 5) := (by decide +kernel : ∀ i, i < 32 → bt 31 i = decide (i < 5)) i hi
  rw [b_and, h31, bt_nI, decide_eq_true hi, Bool.true_and, show (32 : Nat) = 2 ^ 5 from rfl, Nat.testBit_mod_two_pow, bt_nU, Bool.and_comm]
