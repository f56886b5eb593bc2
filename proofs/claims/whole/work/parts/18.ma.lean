/-! pure: the tree of a set, as the reference tells it -/
def sp_cl (p : Nat → Bool) (t l x : Nat) : Nat → Int32
  | 0 => 0
  | n + 1 => sp_cl p t l x n ||| (if p (x * 2 ^ l + n) = true ∧ ¬ nk_up p 0 t = some (x * 2 ^ l + n) then pf_b1 n else 0)
abbrev sp_c (p : Nat → Bool) (b x : Nat) : Int32 := sp_cl p (nk_tp b) (b / 2) x (2 ^ (b / 2))
def sp_sm (p : Nat → Bool) (b : Nat) : Nat → Int32
  | 0 => 0
  | x + 1 => sp_sm p b x ||| (if sp_c p b x = 0 then 0 else pf_b1 x)
abbrev sp_s (p : Nat → Bool) (b : Nat) : Int32 := sp_sm p b (2 ^ (b - b / 2))
def sp_nodes (p : Nat → Bool) (b : Nat) : Int32 := if fb_ct p 1024 = 0 then 0 else pf_acc (1 + pf_nd (sp_s p b) (nI (b - b / 2))) (fun x => pf_nd (sp_c p b x) (nI (b / 2))) (2 ^ (b - b / 2))
def sp_depth (p : Nat → Bool) (b : Nat) : Int32 := if fb_ct p 1024 = 0 then 0 else 1 + pf_mxa (pf_dp (sp_s p b) (nI (b - b / 2))) (fun x => pf_dp (sp_c p b x) (nI (b / 2))) (2 ^ (b - b / 2))
def sp_stp (p : Nat → Bool) (b k : Nat) : Int32 := if fb_ct p 1024 = 0 ∨ nI k < nk_rN (nk_up p 0 (nk_tp b)) then 1 else 1 + nI (if ¬ sp_c p b (k / 2 ^ (b / 2)) = 0 ∧ pf_lw (b / 2) (nI k) < sp_hi (sp_c p b (k / 2 ^ (b / 2))) then pf_st (b / 2 + 1) (sp_c p b (k / 2 ^ (b / 2))) (b / 2) (pf_lw (b / 2) (nI k)) 1 else pf_st (b - b / 2 + 1) (sp_s p b) (b - b / 2) (nI (k / 2 ^ (b / 2))) 1)
def sp_steps (m b : Nat) (p : Nat → Nat → Bool) (s k : Int32) : Int32 := if sp_S m s then (if sp_K b k then sp_stp (p (sp_n s)) b (sp_n k) else -1000001) else -1000001
def sp_tree (m b : Nat) (p : Nat → Nat → Bool) (s w : Int32) : Int32 := if sp_S m s then (if sp_R w 0 1 then (if w = 0 then sp_nodes (p (sp_n s)) b else sp_depth (p (sp_n s)) b) else -1000001) else -1000001
def sp_cluster (m b : Nat) (p : Nat → Nat → Bool) (s x w : Int32) : Int32 := if sp_S m s then (if 0 ≤ x.toInt ∧ x.toInt < (2 ^ (b - b / 2) : Nat) then (if sp_R w 0 2 then pf_tells (sp_c (p (sp_n s)) b (sp_n x)) (nI (b / 2)) w else -1000001) else -1000001) else -1000001
def sp_summary (m b : Nat) (p : Nat → Nat → Bool) (s w : Int32) : Int32 := if sp_S m s then (if sp_R w 0 2 then pf_tells (sp_s (p (sp_n s)) b) (nI (b - b / 2)) w else -1000001) else -1000001
theorem nk_2b {b : Nat} (h : b ≤ 10) : 2 ^ b ≤ 1024 := Nat.pow_le_pow_right (n := 2) (j := 10) (by omega) h
theorem nk_2l {b : Nat} (h : b ≤ 10) : 2 ^ (b / 2) ≤ 32 := Nat.pow_le_pow_right (n := 2) (j := 5) (by omega) (by omega)
theorem nk_2h {b : Nat} (h : b ≤ 10) : 2 ^ (b - b / 2) ≤ 32 := Nat.pow_le_pow_right (n := 2) (j := 5) (by omega) (by omega)
theorem nk_hl {b x n : Nat} (hx : x < 2 ^ (b - b / 2)) (hn : n < 2 ^ (b / 2)) : x * 2 ^ (b / 2) + n < 2 ^ b := by
  have h1 : 2 ^ b = 2 ^ (b - b / 2) * 2 ^ (b / 2) := by rw [← Nat.pow_add]; congr 1; omega
  have h2 : (x + 1) * 2 ^ (b / 2) ≤ 2 ^ (b - b / 2) * 2 ^ (b / 2) := Nat.mul_le_mul_right _ hx
  rw [Nat.add_mul, Nat.one_mul] at h2
  omega
theorem nk_kl {b k : Nat} (hk : k < 2 ^ b) : k / 2 ^ (b / 2) < 2 ^ (b - b / 2) := by
  have h1 : 2 ^ b = 2 ^ (b - b / 2) * 2 ^ (b / 2) := by rw [← Nat.pow_add]; congr 1; omega
  exact Nat.div_lt_of_lt_mul (by rw [Nat.mul_comm, ← h1]; exact hk)
theorem nk_tp_2 (b : Nat) : nk_tp b ≤ 2 ^ b := by
  unfold nk_tp
  split
  · exact Nat.zero_le _
  · exact Nat.le_refl _
theorem nk_shN {x l : Nat} (hl : l ≤ 10) (hx : x * 2 ^ l < 2 ^ 31) : nI x <<< (nI l &&& 31) = nI (x * 2 ^ l) := pk_shlN _ l ((by decide +kernel : ∀ l, l ≤ 10 → ((nI l &&& 31).toBitVec.smod 32).toNat = l) l hl) (by omega)
theorem nk_srN {x l : Nat} (hl : l ≤ 10) (hx : x < 2 ^ 31) : nI x >>> (nI l &&& 31) = nI (x / 2 ^ l) := pk_shrN hx _ l ((by decide +kernel : ∀ l, l ≤ 10 → ((nI l &&& 31).toBitVec.smod 32).toNat = l) l hl)
theorem nk_rN_some {r : Option Nat} {k : Nat} (hr : ∀ j, r = some j → j < 2 ^ 31) (hk : k < 2 ^ 31) : nI k = nk_rN r ↔ r = some k := by
  cases r with
  | none =>
    refine ⟨fun q => ?_, fun q => by cases q⟩
    have := (nk_rN_none (r := some k) (fun j hj => by cases hj; exact hk)).mp q
    cases this
  | some j => exact ⟨fun q => by rw [nk_eqI (show nI k = nI j from q) hk (hr j rfl)], fun q => by cases q; rfl⟩
theorem nk_ct0 {p : Nat → Bool} : (nI (fb_ct p 1024) = 0) ↔ fb_ct p 1024 = 0 := by
  have h := fb_ct_le p 1024
  exact ⟨fun q => nk_eqI (b := 0) q (by omega) (by omega), fun q => by rw [q]; rfl⟩
