/-! pure: what the asking calls answer; p s k: set s has key k; κ s: its kind; wd s w: its words -/
theorem nk_l0 : (0 : Int64).toInt = 0 := rfl
theorem nk_l1 : (1 : Int64).toInt = 1 := rfl
theorem nk_l2 : (2 : Int64).toInt = 2 := rfl
theorem nk_l3 : (3 : Int64).toInt = 3 := rfl
theorem nk_l5 : (5 : Int64).toInt = 5 := rfl
theorem nk_l7 : (7 : Int64).toInt = 7 := rfl
theorem nk_l10 : (10 : Int64).toInt = 10 := rfl
theorem nk_l40 : (40 : Int64).toInt = 40 := rfl
theorem nk_l48 : (48 : Int64).toInt = 48 := rfl
theorem nk_l57 : (57 : Int64).toInt = 57 := rfl
theorem nk_l60 : (60 : Int64).toInt = 60 := rfl
theorem nk_l200 : (200 : Int64).toInt = 200 := rfl
theorem nk_l255 : (255 : Int64).toInt = 255 := rfl
theorem nk_l6 : (999999 : Int64).toInt = 999999 := rfl
theorem nk_l9 : (9999 : Int64).toInt = 9999 := rfl
theorem nk_l9m : (-9999 : Int64).toInt = -9999 := rfl
theorem nk_rN_none {r : Option Nat} (h : ∀ k, r = some k → k < 2 ^ 31) : nk_rN r = -1000000 ↔ r = none := by
  cases r with
  | none => exact ⟨fun _ => rfl, fun _ => rfl⟩
  | some k =>
    refine ⟨fun q => ?_, fun q => by cases q⟩
    have h1 := nI_toInt (h k rfl)
    have h2 : (nI k).toInt = -1000000 := congrArg Int32.toInt (show nI k = -1000000 from q)
    omega
theorem nk_up_b {p : Nat → Bool} {a n : Nat} (h : a + n ≤ 1024) : ∀ k, nk_up p a n = some k → k < 2 ^ 31 := fun k hk => by
  have := (nk_up_lt hk).2.1; omega
theorem nk_dn_b {p : Nat → Bool} {a : Nat} (h : a ≤ 1024) : ∀ k, nk_dn p a = some k → k < 2 ^ 31 := fun k hk => by
  have := (nk_dn_lt hk).1; omega
def sp_contains (m b : Nat) (p : Nat → Nat → Bool) (s k : Int32) : Int32 := if sp_S m s then (if sp_K b k then (if p (sp_n s) (sp_n k) = true then 1 else 0) else -1000001) else -1000001
def sp_keys (m : Nat) (p : Nat → Nat → Bool) (s : Int32) : Int32 := if sp_S m s then nI (fb_ct (p (sp_n s)) 1024) else -1000001
def sp_end (m b : Nat) (p : Nat → Nat → Bool) (s w : Int32) : Int32 := if sp_S m s then (if sp_R w 0 1 then (if w = 0 then nk_rN (nk_up (p (sp_n s)) 0 (nk_tp b)) else nk_rN (nk_dn (p (sp_n s)) (nk_tp b))) else -1000001) else -1000001
def sp_abv (p : Nat → Bool) (t k : Nat) : Option Nat := nk_up p (k + 1) (t - (k + 1))
def sp_nx (p : Nat → Bool) (t : Nat) (κ : Int32) (k : Nat) : Option Nat :=
  if κ = 2 then (if sp_abv p t k = none then nk_up p 0 t else sp_abv p t k) else if κ = 3 then (if p k = true then some k else sp_abv p t k) else if κ = 4 then nk_dn p k else if κ = 5 then (if nk_dn p k = none then nk_dn p t else nk_dn p k) else sp_abv p t k
def sp_next (m b : Nat) (p : Nat → Nat → Bool) (κ : Nat → Int32) (s k : Int32) : Int32 := if sp_S m s then (if sp_K b k then nk_rN (sp_nx (p (sp_n s)) (nk_tp b) (κ (sp_n s)) (sp_n k)) else -1000001) else -1000001
def sp_beside (m b : Nat) (p : Nat → Nat → Bool) (s k w : Int32) : Int32 := if sp_S m s then (if sp_K b k then (if sp_R w 0 1 then (if w = 0 then nk_rN (sp_abv (p (sp_n s)) (nk_tp b) (sp_n k)) else nk_rN (nk_dn (p (sp_n s)) (sp_n k))) else -1000001) else -1000001) else -1000001
def sp_rank (m b : Nat) (p : Nat → Nat → Bool) (s k : Int32) : Int32 := if sp_S m s then (if sp_K b k then nI (fb_ct (p (sp_n s)) (sp_n k)) else -1000001) else -1000001
def sp_it (p : Nat → Bool) (t : Nat) : Nat → Option Nat
  | 0 => nk_up p 0 t
  | q + 1 => match sp_it p t q with
    | none => none
    | some k => sp_abv p t k
def sp_nth (m b : Nat) (p : Nat → Nat → Bool) (s k : Int32) : Int32 := if sp_S m s then (if 0 ≤ k then nk_rN (sp_it (p (sp_n s)) (nk_tp b) (sp_n k)) else -1000001) else -1000001
def sp_nr (p : Nat → Bool) (t k : Nat) : Option Nat := if p k = true then some k else match sp_abv p t k, nk_dn p k with
  | none, d => d
  | some u, none => some u
  | some u, some d => if k - d ≤ u - k then some d else some u
def sp_near (m b : Nat) (p : Nat → Nat → Bool) (s k : Int32) : Int32 := if sp_S m s then (if sp_K b k then nk_rN (sp_nr (p (sp_n s)) (nk_tp b) (sp_n k)) else -1000001) else -1000001
def sp_ch (nx : Nat → Nat → Option Nat) (a b : Nat) : Nat → Nat → Option Nat → Option Nat
  | 0, _, r => r
  | _ + 1, _, none => none
  | n + 1, q, some k => sp_ch nx a b n (q + 1) (nx (if q % 2 = 0 then a else b) k)
def sp_chase (m b : Nat) (p : Nat → Nat → Bool) (κ : Nat → Int32) (s s2 k n : Int32) : Int32 := if sp_S m s then (if sp_S m s2 then (if sp_K b k then (if sp_R n 0 60 then nk_rN (sp_ch (fun j => sp_nx (p j) (nk_tp b) (κ j)) (sp_n s) (sp_n s2) (sp_n n) 0 (some (sp_n k))) else -1000001) else -1000001) else -1000001) else -1000001
def sp_all (p : Nat → Nat → Bool) (k : Nat) : Nat → Bool
  | 0 => true
  | s + 1 => sp_all p k s && p s k
def sp_meet (m b : Nat) (p : Nat → Nat → Bool) (k : Int32) : Int32 := if sp_K b k then nk_rN (nk_up (fun j => sp_all p j m) (sp_n k) (nk_tp b - sp_n k)) else -1000001
def sp_any (p : Nat → Nat → Bool) (x : Int32) (k : Nat) : Nat → Bool
  | 0 => false
  | s + 1 => sp_any p x k s || (bt x s && p s k)
/-- whether the sets x cover the keys from a on, n of them -/
def sp_cov (p : Nat → Nat → Bool) (m : Nat) (x : Int32) (a : Nat) : Nat → Bool
  | 0 => true
  | n + 1 => sp_any p x a m && sp_cov p m x (a + 1) n
def sp_cv (cov : Nat → Bool) : Nat → Option Nat
  | 0 => none
  | j + 1 => if cov (j + 1) = true ∧ (∀ q, sp_cv cov j = some q → fb_ct (bt (nI (j + 1))) 32 < fb_ct (bt (nI q)) 32) then some (j + 1) else sp_cv cov j
def sp_cover (m b : Nat) (p : Nat → Nat → Bool) (a c w : Int32) : Int32 := if sp_K b a then (if sp_K b c then (if a ≤ c then (if sp_R w 0 1 then (match sp_cv (fun x => sp_cov p m (nI x) (sp_n a) (sp_n c + 1 - sp_n a)) (2 ^ m - 1) with
    | none => -1000000
    | some x => if w = 1 then nI x else nI (fb_ct (bt (nI x)) 32)) else -1000001) else -1000001) else -1000001) else -1000001
def sp_gp (p : Nat → Bool) (t : Nat) : Nat → Nat → Option Nat → Nat → Nat × Option Nat
  | 0, most, l, _ => (most, l)
  | n + 1, most, l, key => match sp_abv p t key with
    | none => (most, l)
    | some u => if most < u - key then sp_gp p t n (u - key) (some key) u else sp_gp p t n most l u
def sp_gp0 (p : Nat → Bool) (t : Nat) : Nat × Option Nat := match nk_up p 0 t with
  | none => (0, none)
  | some k => sp_gp p t t 0 none k
def sp_gap (m b : Nat) (p : Nat → Nat → Bool) (s w : Int32) : Int32 := if sp_S m s then (if sp_R w 0 1 then (if w = 0 ∨ (sp_gp0 (p (sp_n s)) (nk_tp b)).2 = none then nk_rN (sp_gp0 (p (sp_n s)) (nk_tp b)).2 else nI (sp_gp0 (p (sp_n s)) (nk_tp b)).1) else -1000001) else -1000001
def sp_kind (m : Nat) (κ : Nat → Int32) (s : Int32) : Int32 := if sp_S m s then κ (sp_n s) else -1000001
def nk_wm (b : Nat) : Nat := if nk_tp b < 32 then 1 else nk_tp b / 32
abbrev sp_isW (m b : Nat) (s l i : Int32) : Prop := sp_S m s ∧ (l = 0 ∧ 0 ≤ i.toInt ∧ i.toInt < nk_wm b ∨ l = 1 ∧ i = 0 ∧ 1 < nk_wm b)
def sp_uw (wd : Nat → Int32) : Nat → Int32
  | 0 => 0
  | w + 1 => sp_uw wd w ||| (if wd w = 0 then 0 else pf_b1 w)
def sp_w (b : Nat) (wd : Nat → Nat → Int32) (s l i : Int32) : Int32 := if l = 0 then wd (sp_n s) (sp_n i) else sp_uw (wd (sp_n s)) (nk_wm b)
def sp_word (m b : Nat) (wd : Nat → Nat → Int32) (s l i : Int32) : Int32 := if sp_isW m b s l i then sp_w b wd s l i else -1000001
def sp_lo (x : Int32) : Int32 := nk_rN (nk_up (bt x) 0 32)
def sp_hi (x : Int32) : Int32 := nk_rN (nk_dn (bt x) 32)
def sp_bits (m b : Nat) (wd : Nat → Nat → Int32) (s l i w : Int32) : Int32 := if sp_isW m b s l i then (if sp_R w 0 2 then (if w = 0 then sp_hi (sp_w b wd s l i) else if w = 1 then sp_lo (sp_w b wd s l i) else nI (fb_ct (bt (sp_w b wd s l i)) 32)) else -1000001) else -1000001
theorem nk_wm_le {b : Nat} (h : b ≤ 10) : nk_wm b ≤ 32 ∧ 1 ≤ nk_wm b := by
  have := nk_tp_le h
  unfold nk_wm
  split <;> omega
theorem sp_it_none {p : Nat → Bool} {t q : Nat} (h : sp_it p t q = none) : ∀ n, sp_it p t (q + n) = none
  | 0 => h
  | n + 1 => by
    have := sp_it_none h n
    show (match sp_it p t (q + n) with | none => none | some k => sp_abv p t k) = none
    rw [this]
theorem sp_it_lt {p : Nat → Bool} {t : Nat} : ∀ {q k : Nat}, sp_it p t q = some k → k < t
  | 0, k, h => by have := (nk_up_lt h).2.1; omega
  | q + 1, k, h => by
    rw [sp_it] at h
    cases hq : sp_it p t q with
    | none => rw [hq] at h; cases h
    | some j =>
      rw [hq] at h
      have h1 := sp_it_lt hq
      have := (nk_up_lt h).2.1
      omega
theorem sp_nx_lt {p : Nat → Bool} {t k : Nat} {κ : Int32} (hk : k < t) {j : Nat} (h : sp_nx p t κ k = some j) : j < t := by
  have ha : ∀ j, sp_abv p t k = some j → j < t := fun j h => by have := (nk_up_lt h).2.1; omega
  have hl : ∀ j, nk_up p 0 t = some j → j < t := fun j h => by have := (nk_up_lt h).2.1; omega
  have hd : ∀ j, nk_dn p k = some j → j < t := fun j h => by have := (nk_dn_lt h).1; omega
  have hg : ∀ j, nk_dn p t = some j → j < t := fun j h => (nk_dn_lt h).1
  unfold sp_nx at h
  split at h
  · split at h
    · exact hl j h
    · exact ha j h
  · split at h
    · split at h
      · cases h; exact hk
      · exact ha j h
    · split at h
      · exact hd j h
      · split at h
        · split at h
          · exact hg j h
          · exact hd j h
        · exact ha j h
theorem nk_neI {x v : Int32} (h : ¬ x = v) : x.toInt ≠ v.toInt := fun q => h ((fa_eq x v).mpr q)
