/-! rows: new int[n][k] -/
def mnh (H : nk_AH) (q N M : Nat) : nk_AH := fun x => if x = q then some (.inl (.array .int, N, .inr (.inr (.inr (.inr (fun i => if i < N then some (q + 1 + i) else none)))))) else if q < x ∧ x ≤ q + N then some (inc M (fun _ => 0)) else H x
theorem mn_outer (c : ClassId) (N h0 : Nat) : ∀ i : Nat, Jvm.Free.Multi.outerC c N h0 i = arrV c N (fun j => va_rf (if j < i then some (h0 + 1 + j) else none))
  | 0 => by
    show ({ cls := c, slots := Array.replicate N .null, vm := .none } : Cell) = _
    rw [arrV_new]
    exact congrArg (arrV c N) (funext fun j => by simp [va_rf])
  | i + 1 => by
    show (Jvm.Free.Multi.outerC c N h0 i).setSlot i (.ref (h0 + 1 + i)) = _
    rw [mn_outer c N h0 i, arrV_store]
    refine congrArg (arrV c N) (funext fun j => ?_)
    by_cases e : j = i
    · subst e
      simp [updV, va_rf]
    · by_cases h : j < i
      · simp [updV, e, h, Nat.lt_succ_of_lt h]
      · simp [updV, e, h, show ¬ j < i + 1 by omega]
theorem nk_mna {G : nk_EG} {μ : nk_MI} {d : Nat} {Φ : Option Value → nk_AH → Prop} {bc bs pc : Nat} {L : List (Option Value)} {st : List Value} {H : nk_AH} {index N M bc' bs' : Nat} {n k : Int32} (hw : Cond.classLink μ.1.cls index "[[I" ∈ nk_tw) (hd : decode μ.2.1 pc = .ok (.multianewarray index 2, 4)) (hn : n = nI N) (hk : k = nI M) (hN : N ≤ 65536) (hM : M ≤ 65536) (hb : bc' + (1 + N) ≤ bc ∧ bs' + (N + N * M) ≤ bs) (kk : ∀ q : Nat, (∀ i, i ≤ N → H (q + i) = none) → nk_J G μ d Φ bc' bs' (pc + 4) L (.ref q :: st) (mnh H q N M)) : nk_J G μ d Φ bc bs pc L (.int k :: .int n :: st) H := by
  intro p l e R s m args below meth c mc ms A Q C Hc locs cells slots ls hl hP hA hS h1 h2
  have hr := C.2.2.2.2.2.2.1
  have hK := C.2.2.2.2.2.2.2.1
  have hts := C.2.2.2.2.2.1
  have hNn := C.2.2.2.2.2.2.2.2.2.1
  have hA2 := C.2.2.2.2.2.2.2.2.2.2.1
  have cN : n.toNatClampNeg = N := by rw [hn]; exact nI_clamp (by omega)
  have cM : k.toNatClampNeg = M := by rw [hk]; exact nI_clamp (by omega)
  intro T hT Xs
  obtain ⟨vm₁, cA, comp, -, fA, fC, hO, -, X', step⟩ := Xs.multianewarray2F C.1 (own := μ.1.cls) (index := index) (ty := .int) C.2.2.2.1 (hts _ hw) hNn.2.2.2.2.2 (hts _ nk_ac_int) (g := F0 m pc ls (.int k :: .int n :: st)) rfl (by rw [C.2.1]; exact hd) rfl (by rw [hn]; exact nI_pos (by omega)) (by rw [hk]; exact nI_pos (by omega)) (by rw [cN]; omega) (by rw [cM]; show M * 4 ≤ _; omega) (by rw [cM]; omega) rfl rfl (by rw [cN]; omega) (by rw [cN, cM]; omega)
  rw [cN, cM] at X' step
  have k0 := (hK.2 0 _ (nk_tys (t0 := 0) rfl)).2
  have k5 := (hK.2 5 _ (nk_tys (t0 := 5) rfl)).2
  have ec : comp = G.2.1 .int := Option.some.inj (fC.symm.trans (show s.vm.findClass _ = some (G.2.1 .int) from k0))
  have eA : cA = G.2.1 (.array .int) := Option.some.inj (fA.symm.trans (show s.vm.findClass _ = some (G.2.1 (.array .int)) from k5))
  subst ec
  subst eA
  generalize hF : Jvm.Free.Multi.fill (T.setVm vm₁) (G.2.1 (.array .int)) (G.2.1 .int) N M (defaultValue .int) N = F at X' step
  have hTh : (T.setVm vm₁).heap = Hc := hT
  obtain ⟨f1, f2, -, -⟩ := Jvm.Free.Multi.fill_facts (T.setVm vm₁) (G.2.1 (.array .int)) (G.2.1 .int) N M (defaultValue .int) N
  rw [hF, hTh] at f1 f2
  have hold : ∀ x : Nat, x < Hc.size → F.heap[x]? = Hc[x]? := fun x hx => by
    have := Jvm.Free.Multi.fill_old (T.setVm vm₁) (G.2.1 (.array .int)) (G.2.1 .int) N M (defaultValue .int) (a := x) (by rw [hTh]; exact hx) N
    rw [hF, hTh] at this
    exact this
  have hrow : ∀ j : Nat, j < N → F.heap[Hc.size + 1 + j]? = some (vp_cell (G.2.1 .int) (M, .inl (fun _ => 0))) := fun j hj => by
    have := Jvm.Free.Multi.fill_inner (T.setVm vm₁) (G.2.1 (.array .int)) (G.2.1 .int) N M (defaultValue .int) N j hj
    rw [hF, hTh] at this
    rw [this, vp_cell_i]
    show some ({ cls := _, slots := Array.replicate M (.int 0), vm := .none } : Cell) = _
    rw [arrV_new]
  have hout : F.heap[Hc.size]? = some (vp_cell (G.2.1 (.array .int)) (N, .inr (.inr (.inr (.inr (fun i => if i < N then some (Hc.size + 1 + i) else none)))))) := by
    rw [f2, mn_outer, vp_cell_q]
  have hin : ∀ a x, H a = some x → a < Hc.size := fun a x q => (hP a x q).lt
  have hfresh : ∀ i, H (Hc.size + i) = none := fun i => by
    cases z : H (Hc.size + i) with
    | none => rfl
    | some x => have := hin _ _ z; omega
  have hAn : ∀ x, Hc.size ≤ x → A x := fun x hx => hA2 x (Nat.le_trans hS.1 hx)
  have hP2 : nk_P G (mnh H Hc.size N M) F.heap := fun a x hx => by
    unfold mnh at hx
    by_cases z1 : a = Hc.size
    · rw [if_pos z1] at hx
      cases hx
      rw [z1]
      exact hout
    · rw [if_neg z1] at hx
      by_cases z2 : Hc.size < a ∧ a ≤ Hc.size + N
      · rw [if_pos z2] at hx
        cases hx
        have := hrow (a - (Hc.size + 1)) (by omega)
        rw [show Hc.size + 1 + (a - (Hc.size + 1)) = a by omega] at this
        exact this
      · rw [if_neg z2] at hx
        exact (hP a x hx).kept (hold a (hin a x hx))
  have hA3 : ∀ a : Nat, (mnh H Hc.size N M a).isSome = true → A a := fun a ha => by
    unfold mnh at ha
    by_cases z1 : a = Hc.size
    · exact hAn a (by omega)
    · rw [if_neg z1] at ha
      by_cases z2 : Hc.size < a ∧ a ≤ Hc.size + N
      · exact hAn a (by omega)
      · rw [if_neg z2] at ha; exact hA a ha
  have hS2 : va_S A s.heap F.heap locs := ⟨by rw [f1]; have := hS.1; omega, fun x g1 g2 => (hold x (Nat.lt_of_lt_of_le g1 hS.1)).trans (hS.2.1 x g1 g2), hS.2.2⟩
  obtain ⟨t, a1, b1⟩ := kk Hc.size (fun i _ => hfresh i) _ _ _ _ _ _ _ _ _ _ _ _ _ _ C F.heap locs (cells + 1 + N) (slots + N + N * M) ls hl hP2 hA3 hS2 (by omega) (by omega) F rfl X'
  refine ⟨t, step t ?_, b1⟩
  have e : T.heap.size = Hc.size := by rw [hT]
  rw [e]
  exact a1
