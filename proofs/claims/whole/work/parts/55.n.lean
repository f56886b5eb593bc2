/-! the class: acts made -/
set_option maxRecDepth 20000 in
theorem s_X0_init {G : nk_EG} {H : nk_AH} {q : Nat} (hq : H q = some (.inr (0, [.null, .null, .int 0, .int 0]))) : nk_S G mX0_init 1 26 816 [.ref q] H (fun r H' => r = none ∧ ∃ a1 a2, H a1 = none ∧ (∀ i, i ≤ 24 → H (a2 + i) = none) ∧ (∀ i, i ≤ 24 → a2 + i ≠ a1) ∧ H' = nk_u (mnh (nk_u H a1 (chc (fun _ => none))) a2 24 32) q (acc a1 a2 0 0)) := by
  refine nk_S.of (by decide +kernel) (Nat.le_of_ble_eq_true rfl) rfl ?_
  refine nk_aload_n (i := 0) dX0_init_0 rfl rfl ?_
  refine nk_objInit kX0_3 nk_oi1 nk_oi2 dX0_init_1 (by decide) (Nat.le_of_ble_eq_true rfl) ?_
  refine nk_aload_n (i := 0) dX0_init_4 rfl rfl ?_
  refine nk_bipush (v := 24) dX0_init_5 (by decide) ?_
  refine nk_newq (N := 24) (bc' := 25) (bs' := 792) 2 rfl (fun _ z => z.2.2.1) cX0_9 dX0_init_7 (rfl) (by decide) ⟨Nat.le_of_ble_eq_true rfl, Nat.le_of_ble_eq_true rfl⟩ (fun a1 ha1 => ?_)
  have e1 : q ≠ a1 := nk_ne hq ha1
  refine nk_putF pX0_11 rfl (by intro q hq; cases hq; rfl) dX0_init_10 ((nk_u_ne e1).trans hq) rfl rfl (Nat.le_of_ble_eq_true rfl) rfl ?_
  refine nk_aload_n (i := 0) dX0_init_13 rfl rfl ?_
  refine nk_bipush (v := 24) dX0_init_14 (by decide) ?_
  refine nk_bipush (v := 32) dX0_init_16 (by decide) ?_
  refine nk_mna (N := 24) (M := 32) (bc' := 0) (bs' := 0) cX0_17 dX0_init_18 rfl rfl (by decide) (by decide) ⟨Nat.le_of_ble_eq_true rfl, Nat.le_of_ble_eq_true rfl⟩ (fun a2 ha2 => ?_)
  have f1 : ∀ i, i ≤ 24 → a2 + i ≠ q := fun i hi z => by have := ha2 i hi; rw [z, nk_u_self] at this; cases this
  have f2 : ∀ i, i ≤ 24 → a2 + i ≠ a1 := fun i hi z => by have := ha2 i hi; rw [z, nk_u_ne e1.symm, nk_u_self] at this; cases this
  have f3 : ∀ i, i ≤ 24 → H (a2 + i) = none := fun i hi => by have := ha2 i hi; rw [nk_u_ne (f1 i hi), nk_u_ne (f2 i hi)] at this; exact this
  have fq : ¬ (a2 < q ∧ q ≤ a2 + 24) := fun z => f1 (q - a2) (by omega) (by omega)
  have h1 : ∀ {c}, mnh (nk_u (nk_u H a1 (chc (fun _ => none))) q c) a2 24 32 q = some c := fun {c} => by
    unfold mnh
    rw [if_neg (fun z => f1 0 (by omega) (by omega)), if_neg fq, nk_u_self]
  have hu2 : ∀ {c c'}, nk_u (mnh (nk_u (nk_u H a1 (chc (fun _ => none))) q c) a2 24 32) q c' = nk_u (mnh (nk_u H a1 (chc (fun _ => none))) a2 24 32) q c' := fun {c c'} => by
    funext x
    by_cases z : x = q
    · rw [z, nk_u_self, nk_u_self]
    · rw [nk_u_ne z, nk_u_ne z]
      unfold mnh
      rw [nk_u_ne z]
  refine nk_putF pX0_19 rfl (by intro q hq; cases hq; rfl) dX0_init_22 h1 rfl rfl (Nat.le_of_ble_eq_true rfl) rfl ?_
  refine nk_J.to ?_ rfl rfl hu2
  refine nk_aload_n (i := 0) dX0_init_25 rfl rfl ?_
  refine nk_iconst (v := 0) dX0_init_26 (by decide) ?_
  refine nk_putf pX0_22 dX0_init_27 (nk_u_self _ _ _) rfl rfl (Nat.le_of_ble_eq_true rfl) rfl ?_
  refine nk_J.to ?_ rfl rfl (nk_u_u _ _ _ _)
  refine nk_aload_n (i := 0) dX0_init_30 rfl rfl ?_
  refine nk_iconst (v := 0) dX0_init_31 (by decide) ?_
  refine nk_putf pX0_26 dX0_init_32 (nk_u_self _ _ _) rfl rfl (Nat.le_of_ble_eq_true rfl) rfl ?_
  refine nk_J.to ?_ rfl rfl (nk_u_u _ _ _ _)
  refine nk_vreturn dX0_init_35 rfl ?_
  exact ⟨rfl, a1, a2, ha1, f3, f2, rfl⟩
