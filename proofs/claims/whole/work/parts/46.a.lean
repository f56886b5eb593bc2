/-! an array is its first items -/
theorem arrV_x {c : ClassId} {n : Nat} {f f' : Nat → Value} (h : ∀ j, j < n → f j = f' j) : arrV c n f = arrV c n f' := by
  unfold arrV
  have e : (Array.ofFn (n := n) fun j => f j.val) = Array.ofFn (n := n) fun j => f' j.val := congrArg Array.ofFn (funext fun j => h j.1 j.2)
  rw [e]
theorem nk_P.x {G : nk_EG} {H : nk_AH} {Hc : Heap} {w n : Nat} {f f' : Nat → Int32} (h : ∀ j, j < n → f j = f' j) (hP : nk_P G (nk_u H w (.inl (.int, n, .inl f))) Hc) : nk_P G (nk_u H w (.inl (.int, n, .inl f'))) Hc := by
  intro a e he
  by_cases q : a = w
  · subst q
    rw [nk_u_self] at he
    cases he
    have z : Hc[a]? = some (vp_cell (G.2.1 .int) (n, .inl f)) := hP a _ (nk_u_self _ _ _)
    show Hc[a]? = some (vp_cell (G.2.1 .int) (n, .inl f'))
    rw [z]
    rw [vp_cell_i, vp_cell_i]
    exact congrArg some (arrV_x (fun j hj => congrArg Value.int (h j hj)))
  · rw [nk_u_ne q] at he
    exact hP a e (by rw [nk_u_ne q]; exact he)
theorem nk_J.x {G : nk_EG} {μ : nk_MI} {d : Nat} {Φ : Option Value → nk_AH → Prop} {bc bs pc : Nat} {L : List (Option Value)} {st : List Value} {H : nk_AH} {w n : Nat} {f : Nat → Int32} (f' : Nat → Int32) (h : ∀ j, j < n → f j = f' j) (k : nk_J G μ d Φ bc bs pc L st (nk_u H w (.inl (.int, n, .inl f')))) : nk_J G μ d Φ bc bs pc L st (nk_u H w (.inl (.int, n, .inl f))) := by
  intro p l e R s m args below meth c mc ms A Q C Hc locs cells slots ls hl hP hA hS h1 h2
  refine k _ _ _ _ _ _ _ _ _ _ _ _ _ _ C _ _ _ _ _ hl (hP.x h) (fun a ha => hA a ?_) hS h1 h2
  by_cases q : a = w
  · rw [q, nk_u_self]; rfl
  · rw [nk_u_ne q] at ha ⊢; exact ha
section NKX
variable {G : nk_EG} {μ : nk_MI} {d : Nat} {Φ : Option Value → nk_AH → Prop} {bc bs pc : Nat} {L : List (Option Value)} {st : List Value} {H : nk_AH} {a : Nat}
theorem nk_aastJ {n v ci j : Nat} {r : vw_C} {vs : List Value} {f : Nat → Option Nat} {i : Int32} (t0 : Nat) (ht : nk_Ty[t0]? = some (.object r.1)) (hc : vwCl[ci]? = some r) (hd : decode μ.2.1 pc = .ok (.aastore, 1)) (hH : H a = some (.inl (.object r.1, n, .inr (.inr (.inr (.inr f)))))) (hv : H v = some (.inr (ci, vs))) (hi : i = nI j) (hj : j < n) (hn : n < 2 ^ 31) (k : nk_J G μ d Φ bc bs (pc + 1) L st (nk_u H a (.inl (.object r.1, n, .inr (.inr (.inr (.inr (va_up f j (some v))))))))) : nk_J G μ d Φ bc bs pc L (.ref v :: .int i :: .ref a :: st) H := by
  subst hi
  refine nk_aast t0 ht hc hd hH hv (vp_in_nI hj hn) ?_
  rw [nI_clamp (by omega)]
  exact k
theorem nk_aastNJ {n j : Nat} {Cn : String} {f : Nat → Option Nat} {i : Int32} (t0 : Nat) (ht : nk_Ty[t0]? = some (.object Cn)) (hd : decode μ.2.1 pc = .ok (.aastore, 1)) (hH : H a = some (.inl (.object Cn, n, .inr (.inr (.inr (.inr f)))))) (hi : i = nI j) (hj : j < n) (hn : n < 2 ^ 31) (k : nk_J G μ d Φ bc bs (pc + 1) L st (nk_u H a (.inl (.object Cn, n, .inr (.inr (.inr (.inr (va_up f j none)))))))) : nk_J G μ d Φ bc bs pc L (.null :: .int i :: .ref a :: st) H := by
  subst hi
  refine nk_aastN t0 ht hd hH (vp_in_nI hj hn) ?_
  rw [nI_clamp (by omega)]
  exact k
end NKX
/-- a row: its lane, its items -/
def cRo (H : nk_AH) (q w : Nat) (l : Int32) (n : Nat) (f : Nat → Int32) : Prop := H q = some (.inr (3, [.int l, .ref w])) ∧ H w = some (.inl (.int, n, .inl f))
