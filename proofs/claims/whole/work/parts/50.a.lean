/-! asks -/
def sZf (l : List Int32) : Nat → Int32 := fun j => l.getD j 0
/-- the arrays that the class's own fields hold -/
def nk_GS (G : nk_EG) : Prop := G.2.2.1 (G.2.2.2 0) = some (6, sZf [0, 0, 1, 1, 0, 4]) ∧ G.2.2.1 (G.2.2.2 1) = some (6, sZf [10, 11, 12, 11, 13, 14]) ∧ G.2.2.1 (G.2.2.2 2) = some (6, sZf [20, 21, 24, 22, 23, 23])
abbrev akc (a t : Nat) : nk_AC := .inr (1, [.ref a, .int (nI t)])
def cQ (H : nk_AH) (q a : Nat) (f : Nat → Int32) (t : Nat) : Prop := H q = some (akc a t) ∧ H a = some (inc 16 f)
def tk (H : nk_AH) (q a : Nat) (f : Nat → Int32) (t : Nat) (xs : List Int32) : nk_AH := nk_u (nk_u H a (inc 16 (tr_a f t xs))) q (akc a (tr_t t xs))
section TK
variable {H : nk_AH} {q a t q1 w1 j b : Nat} {f F : Nat → Int32} {κ : Int32} {xs ys : List Int32}
theorem cQ.ne (h : cQ H q a f t) : q ≠ a := nk_cdif h.1 h.2 (by intro z; cases z)
theorem cQ.k (h : cQ H q a f t) : cQ (tk H q a f t xs) q a (tr_a f t xs) (tr_t t xs) := ⟨nk_u_self _ _ _, by unfold tk; rw [nk_u_ne h.ne.symm, nk_u_self]⟩
theorem cX.k (hX : cX H q1 w1 j κ b F) (h : cQ H q a f t) (hn : w1 ≠ a) : cX (tk H q a f t xs) q1 w1 j κ b F := by
  obtain ⟨g, h1, h2⟩ := hX
  refine cX.at ⟨g, h1, h2⟩ ?_ ?_
  · unfold tk
    rw [nk_u_ne (nk_cdif h1.1 h.1 (by intro z; simp at z)), nk_u_ne (nk_cdif h1.1 h.2 (by intro z; cases z))]
  · unfold tk
    rw [nk_u_ne (nk_cdif h1.2 h.1 (by intro z; cases z)), nk_u_ne hn]
theorem tk_tk (h : cQ H q a f t) : tk (tk H q a f t xs) q a (tr_a f t xs) (tr_t t xs) ys = tk H q a f t (xs ++ ys) := by
  unfold tk
  rw [tr_a_app, tr_t_app, nk_u_push h.ne, nk_u_u]
end TK
theorem av_mx {g : Nat → Int32} {b : Nat} (h2 : 2 ≤ b) (h10 : b ≤ 10) (hz : gz g b) : pf_mx (nk_rN (nk_up (gm g) 0 (nk_tp b))) 0 = if fb_ct (gm g) 1024 = 0 then 0 else nk_rN (nk_up (gm g) 0 (nk_tp b)) := by
  have hwm := wm_f b h10 h2
  cases e : nk_up (gm g) 0 (nk_tp b) with
  | none =>
    have h0 : fb_ct (gm g) 1024 = 0 := fb_ct_zero.mpr (fun k hk => if z : k < nk_tp b then nk_up_none e k (by omega) (by omega) else hz k (by omega) hk)
    rw [if_pos h0]; rfl
  | some k =>
    obtain ⟨-, k1, k2, -⟩ := nk_up_lt e
    have h0 : ¬ fb_ct (gm g) 1024 = 0 := fun z => by
      have := fb_ct_zero.mp z k (by omega)
      rw [k2] at this; cases this
    rw [if_neg h0]
    unfold pf_mx
    show (if nI k ≤ 0 then 0 else nI k) = nI k
    by_cases z : k = 0
    · subst z; rfl
    · rw [if_neg (fun y => by have := nk_leI (b := 0) y (by omega) (by omega); omega)]
