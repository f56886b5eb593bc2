/-! rows with places told as numbers -/
section NKP
variable {G : nk_EG} {μ : nk_MI} {d : Nat} {Φ : Option Value → nk_AH → Prop} {bc bs pc : Nat} {L : List (Option Value)} {st : List Value} {H : nk_AH} {a : Nat}
theorem nk_top {x y : Int32} (h : x = y) (k : nk_J G μ d Φ bc bs pc L (.int y :: st) H) : nk_J G μ d Φ bc bs pc L (.int x :: st) H := by subst h; exact k
theorem nk_topl {x y : Int64} (h : x = y) (k : nk_J G μ d Φ bc bs pc L (.long y :: st) H) : nk_J G μ d Φ bc bs pc L (.long x :: st) H := by subst h; exact k
theorem nk_ialdN {n j : Nat} {f : Nat → Int32} {i : Int32} (hd : decode μ.2.1 pc = .ok (.iaload, 1)) (hH : H a = some (.inl (.int, n, .inl f))) (hi : i = nI j) (hj : j < n) (hn : n < 2 ^ 31) (k : nk_J G μ d Φ bc bs (pc + 1) L (.int (f j) :: st) H) : nk_J G μ d Φ bc bs pc L (.int i :: .ref a :: st) H := by
  subst hi
  refine nk_iald hd hH (vp_in_nI hj hn) ?_
  rw [nI_clamp (by omega)]
  exact k
theorem nk_zaldN {n j : Nat} {f : Nat → Int32} {i : Int32} (hd : decode μ.2.1 pc = .ok (.baload, 1)) (hH : H a = some (.inl (.boolean, n, .inl f))) (hi : i = nI j) (hj : j < n) (hn : n < 2 ^ 31) (k : nk_J G μ d Φ bc bs (pc + 1) L (.int (f j) :: st) H) : nk_J G μ d Φ bc bs pc L (.int i :: .ref a :: st) H := by
  subst hi
  refine nk_zald hd hH (vp_in_nI hj hn) ?_
  rw [nI_clamp (by omega)]
  exact k
theorem nk_iastN {n j : Nat} {f : Nat → Int32} {i x : Int32} (hd : decode μ.2.1 pc = .ok (.iastore, 1)) (hH : H a = some (.inl (.int, n, .inl f))) (hi : i = nI j) (hj : j < n) (hn : n < 2 ^ 31) (k : nk_J G μ d Φ bc bs (pc + 1) L st (nk_u H a (.inl (.int, n, .inl (upd f j x))))) : nk_J G μ d Φ bc bs pc L (.int x :: .int i :: .ref a :: st) H := by
  subst hi
  refine nk_iast hd hH (vp_in_nI hj hn) ?_
  rw [nI_clamp (by omega)]
  exact k
theorem nk_zastN {n j : Nat} {f : Nat → Int32} {i x : Int32} (hd : decode μ.2.1 pc = .ok (.bastore, 1)) (hH : H a = some (.inl (.boolean, n, .inl f))) (hi : i = nI j) (hj : j < n) (hn : n < 2 ^ 31) (hx : vp_nar .boolean x = x) (k : nk_J G μ d Φ bc bs (pc + 1) L st (nk_u H a (.inl (.boolean, n, .inl (upd f j x))))) : nk_J G μ d Φ bc bs pc L (.int x :: .int i :: .ref a :: st) H := by
  subst hi
  refine nk_zast hd hH (vp_in_nI hj hn) ?_
  rw [nI_clamp (by omega), hx]
  exact k
theorem nk_tldN {n j t : Nat} {f : Nat → Int32} {i : Int32} (hd : decode μ.2.1 pc = .ok (.iaload, 1)) (hG : G.2.2.1 t = some (n, f)) (hi : i = nI j) (hj : j < n) (hn : n < 2 ^ 31) (k : nk_J G μ d Φ bc bs (pc + 1) L (.int (f j) :: st) H) : nk_J G μ d Φ bc bs pc L (.int i :: .ref t :: st) H := by
  subst hi
  refine nk_tld hd hG (vp_in_nI hj hn) ?_
  rw [nI_clamp (by omega)]
  exact k
theorem nk_aaldN {n j : Nat} {ty : FieldType} {f : Nat → Option Nat} {i : Int32} {v : Value} (t0 : Nat) (ht : nk_Ty[t0]? = some ty) (hr : ty.isReference = true) (hd : decode μ.2.1 pc = .ok (.aaload, 1)) (hH : H a = some (.inl (ty, n, .inr (.inr (.inr (.inr f)))))) (hi : i = nI j) (hj : j < n) (hn : n < 2 ^ 31) (hv : va_rf (f j) = v) (k : nk_J G μ d Φ bc bs (pc + 1) L (v :: st) H) : nk_J G μ d Φ bc bs pc L (.int i :: .ref a :: st) H := by
  subst hi
  refine nk_aald t0 ht hr hd hH (vp_in_nI hj hn) ?_ k
  rw [nI_clamp (by omega)]
  exact hv
end NKP
theorem nk_d32 {k : Nat} (h : k < 2 ^ 31) : nI k / 32 = nI (k / 32) := pk_div (d := 32) h (by omega) (by omega)
theorem nk_r32 {k : Nat} (h : k < 2 ^ 31) : nI k - nI k / 32 * 32 = nI (k % 32) := pk_rem (d := 32) h (by omega) (by omega)
theorem nk_ix (base s : Nat) {k : Nat} (h : k < 2 ^ 31) : nI base + 6 + 32 * nI s + nI k / 32 = nI (base + 6 + 32 * s + k / 32) := by
  rw [nk_d32 h, show (6 : Int32) = nI 6 from rfl, show (32 : Int32) = nI 32 from rfl, pk_mul, nI_add, nI_add, nI_add]
theorem nk_ixw (base s w : Nat) : nI base + 6 + 32 * nI s + nI w = nI (base + 6 + 32 * s + w) := by
  rw [show (6 : Int32) = nI 6 from rfl, show (32 : Int32) = nI 32 from rfl, pk_mul, nI_add, nI_add, nI_add]
/-- whether set s of the shelf at base has the key -/
def nk_mem (r : Nat → Int32) (base s k : Nat) : Bool := bt (r (base + 6 + 32 * s + k / 32)) (k % 32)
def pf_b1 (j : Nat) : Int32 := 1 <<< (nI j &&& 31)
def pf_nar (v lane : Int32) : Int32 := if lane = 0 then v.toInt8.toInt32 else if lane = 1 then v.toInt16.toInt32 else v
theorem nk_toI {n : Nat} (h : n < 2 ^ 31) : (nI n).toInt64.toInt = (n : Int) := by rw [Int32.toInt_toInt64, nI_toInt h]
theorem nk_sh1 {b : Nat} (h : b < 31) : (1 : Int32) <<< (nI b &&& 31) = nI (2 ^ b) := by
  have hb := (by decide +kernel : ∀ b, b < 31 → (1 : Int32) <<< (nI b &&& 31) = nI (2 ^ b))
  exact hb b h
theorem nk_tp_pos {b : Nat} (h : 0 < b) : nk_tp b = 2 ^ b := by unfold nk_tp; rw [if_neg (by omega)]
theorem nk_tp_0 : nk_tp 0 = 0 := rfl
theorem nk_m1 {n : Nat} (h : n < 2 ^ 30) : (nI n - 1).toInt = (n : Int) - 1 := by
  have := pk_sub_toInt (a := n) (b := 1) h (by omega)
  exact this
theorem nk_npos {b : Nat} (h : ¬ nI b ≤ 0) : 0 < b := by
  rcases Nat.eq_zero_or_pos b with q | q
  · subst q; exact absurd (by decide) h
  · exact q
theorem nk_ifc {p q : Prop} [Decidable p] [Decidable q] (h : p ↔ q) : some (Value.int (if p then 1 else 0)) = some (Value.int (if q then 1 else 0)) := by
  by_cases z : p
  · rw [if_pos z, if_pos (h.mp z)]
  · rw [if_neg z, if_neg (fun y => z (h.mpr y))]
theorem nk_pm {k : Nat} (h : ¬ nI k - 1 < 0) : 0 < k := by
  rcases Nat.eq_zero_or_pos k with q | q
  · subst q; exact absurd (by decide) h
  · exact q
theorem nk_pm1 {k : Nat} (h : 0 < k) : nI k - 1 = nI (k - 1) := by
  obtain ⟨j, rfl⟩ : ∃ j, k = j + 1 := ⟨k - 1, by omega⟩
  rw [nI_pred]; rfl
theorem nk_pm0 {k : Nat} (hk : k < 2 ^ 31) (h : nI k - 1 < 0) : k = 0 := by
  rcases Nat.eq_zero_or_pos k with q | q
  · exact q
  · rw [nk_pm1 q] at h
    exact absurd h (nI_pos (by omega))
theorem nk_dec1 {k : Nat} (h : 0 < k) : nI k - 1 + Int32.ofInt (-1) = nI (k - 1) - 1 := by
  rw [nk_pm1 h, Int32.sub_eq_add_neg]; rfl
