/-! rows: new int[n][k] -/
def mnh (H : nk_AH) (q N M : Nat) : nk_AH := fun x => if x = q then some (.inl (.array .int, N, .inr (.inr (.inr (.inr (fun i => if i < N then some (q + 1 + i) else none)))))) else if q < x ∧ x ≤ q + N then some (inc M (fun _ => 0)) else H x
def mn_o (c : ClassId) (N h i : Nat) : Cell := arrV c N (fun j => va_rf (if j < i then some (h + 1 + j) else none))
def mn_r (c : ClassId) (M : Nat) : Cell := arrV c M (fun _ => .int 0)
theorem mn_o0 (c : ClassId) (N h : Nat) : ({ cls := c, slots := Array.replicate N .null, vm := .none } : Cell) = mn_o c N h 0 := (arrV_new c N .null).trans (congrArg (arrV c N) (funext fun j => by simp [va_rf]))
theorem mn_oS (c : ClassId) (N h i : Nat) : (mn_o c N h i).setSlot i (.ref (h + 1 + i)) = mn_o c N h (i + 1) := by
  unfold mn_o
  rw [arrV_store]
  refine congrArg (arrV c N) (funext fun j => ?_)
  show (if j = i then _ else va_rf (if j < i then some (h + 1 + j) else none)) = va_rf (if j < i + 1 then some (h + 1 + j) else none)
  rcases Nat.lt_trichotomy j i with z | z | z
  · rw [if_neg (by omega), if_pos z, if_pos (by omega)]
  · rw [if_pos z, if_pos (by omega), z]; rfl
  · rw [if_neg (by omega), if_neg (by omega), if_neg (by omega)]
def mnF (T : State) (c r : ClassId) (N M : Nat) : Nat → State
  | 0 => T.pushCell (mn_o c N T.heap.size 0)
  | i + 1 => ((mnF T c r N M i).pushCell (mn_r r M)).setCell T.heap.size (mn_o c N T.heap.size (i + 1))
theorem mnF_top (T : State) (c r : ClassId) (N M : Nat) (f : JFrame) : ∀ i, mnF (T.setTop f) c r N M i = (mnF T c r N M i).setTop f
  | 0 => rfl
  | i + 1 => by
    unfold mnF
    rw [mnF_top T c r N M f i]
    rfl
theorem mnF_at (T : State) (c r : ClassId) (N M : Nat) : ∀ i, (mnF T c r N M i).heap.size = T.heap.size + 1 + i ∧ (mnF T c r N M i).heap[T.heap.size]? = some (mn_o c N T.heap.size i) ∧ (mnF T c r N M i).vm = T.vm ∧ (mnF T c r N M i).slotsUsed = T.slotsUsed + N + i * M
  | 0 => ⟨by simp [mnF], by simp [mnF], rfl, by simp [mnF, mn_o, arrV]⟩
  | i + 1 => by
    obtain ⟨a1, a2, a3, a4⟩ := mnF_at T c r N M i
    have lt : T.heap.size < (mnF T c r N M i).heap.size := by rw [a1]; omega
    have z : ((mnF T c r N M i).pushCell (mn_r r M)).heap[T.heap.size]? = some (mn_o c N T.heap.size i) := (State.heap_pushCell_of_lt _ _ lt).trans a2
    refine ⟨?_, State.heap_setCell_self z, ?_, ?_⟩
    · simp [mnF, State.setCell, a1, Nat.add_assoc]
    · simp [mnF, a3]
    · simp [mnF, a4, mn_r, arrV, Nat.add_mul, Nat.add_assoc]
theorem mnF_old (T : State) (c r : ClassId) (N M x : Nat) (hx : x < T.heap.size) : ∀ i, (mnF T c r N M i).heap[x]? = T.heap[x]?
  | 0 => State.heap_pushCell_of_lt _ _ hx
  | i + 1 => by
    have a1 := (mnF_at T c r N M i).1
    have lt : x < (mnF T c r N M i).heap.size := by rw [a1]; omega
    exact (State.heap_setCell_other (Nat.ne_of_gt hx)).trans ((State.heap_pushCell_of_lt _ _ lt).trans (mnF_old T c r N M x hx i))
theorem mnF_row (T : State) (c r : ClassId) (N M j : Nat) : ∀ i, j < i → (mnF T c r N M i).heap[T.heap.size + 1 + j]? = some (mn_r r M)
  | 0, h => absurd h (Nat.not_lt_zero _)
  | i + 1, h => by
    have a1 := (mnF_at T c r N M i).1
    have ne : T.heap.size ≠ T.heap.size + 1 + j := by omega
    refine (State.heap_setCell_other ne).trans ?_
    by_cases z : j < i
    · have lt : T.heap.size + 1 + j < (mnF T c r N M i).heap.size := by rw [a1]; omega
      exact (State.heap_pushCell_of_lt _ _ lt).trans (mnF_row T c r N M j i z)
    · rw [show T.heap.size + 1 + j = (mnF T c r N M i).heap.size by omega]
      exact State.heap_pushCell_size _ _
theorem mnF_stand {p : Program} {l : Launch} {e : Env} {R : Room} {s : State} {m : MethodId} {args : Array Value} {below : List Frame} {meth : Method} {c : Code} {T : State} {locs : List Loc} {cells slots : Nat} (X : Stand p l e R s m args below meth c T locs cells slots) (a r : ClassId) (N M : Nat) : ∀ i, Stand p l e R s m args below meth c (mnF T a r N M i) locs (cells + 1 + i) (slots + N + i * M)
  | 0 => by
    have h := X.pushed (mn_o a N T.heap.size 0)
    rw [show (mn_o a N T.heap.size 0).slots.size = N from arrV_size _ _ _] at h
    rw [Nat.zero_mul]
    exact h
  | i + 1 => by
    obtain ⟨a1, a2, -, -⟩ := mnF_at T a r N M i
    have h := (mnF_stand X a r N M i).pushed (mn_r r M)
    have lt : T.heap.size < (mnF T a r N M i).heap.size := by rw [a1]; omega
    have z : ((mnF T a r N M i).pushCell (mn_r r M)).heap[T.heap.size]? = some (mn_o a N T.heap.size i) := (State.heap_pushCell_of_lt _ _ lt).trans a2
    have h2 := (h.stored z i (.ref (T.heap.size + 1 + i))).dropFresh (fun x hx => by
      rw [List.mem_singleton.mp hx]
      exact X.heapGrown)
    rw [mn_oS, show (mn_r r M).slots.size = M from arrV_size _ _ _] at h2
    rw [Nat.succ_mul, ← Nat.add_assoc (slots + N)]
    exact h2
theorem mn_over {s : State} {args : Array Value} {ty : FieldType} (h : (Cond.arrayOver (.array ty)).before args s = true) : ∃ (r c : ClassId) (k : Class), s.vm.findClass (FieldType.array ty).toString = some r ∧ s.vm.findClass ("[" ++ (FieldType.array ty).toString) = some c ∧ s.vm.classes[c]? = some k ∧ k.kind = .array r (.array ty) := by
  simp only [Cond.before, Cond.holds, Cond.value, beq_iff_eq] at h
  rcases hr : s.vm.findClass (FieldType.array ty).toString with _ | r
  · rw [hr] at h; simp at h
  · rw [hr] at h
    obtain ⟨c, h1, h2⟩ := Option.bind_eq_some_iff.mp (show (Array.findIdx? (fun (x : Class) => match x.kind with | .array component _ => component == r | _ => false) s.vm.classes).bind _ = some true from h)
    obtain ⟨k, h3, h4⟩ := Option.map_eq_some_iff.mp h2
    have q := (Array.findIdx?_eq_some_iff_getElem.mp h1).2.1
    rw [(Array.getElem?_eq_some_iff.mp h3).2] at q
    refine ⟨r, c, k, rfl, ?_⟩
    cases hk : k.kind with
    | array y t =>
      rw [hk] at h4 q
      have h5 := (Bool.and_eq_true _ _).mp h4
      exact ⟨of_decide_eq_true h5.2, h3, by rw [eq_of_beq q, of_decide_eq_true h5.1]⟩
    | _ => rw [hk] at h4; cases h4
theorem mn_make {E : CtlPost} {e : Env} {d : Bool} {acts : List Action} {s : State} {c r y : ClassId} {k kr : Class} {n m : Int32} {N M : Nat} (hk : s.vm.classes[c]? = some k) (hk2 : k.kind = .array r (.array .int)) (hr : s.vm.classes[r]? = some kr) (hr2 : kr.kind = .array y .int) (hn : ¬ n < 0) (hm : ¬ m < 0) (eN : n.toNatClampNeg = N) (eM : m.toNatClampNeg = M) (l1 : ¬ N > e.platform.arrayLengthLimit) (l2 : ¬ M > e.platform.arrayLengthLimit) (b1 : ¬ N * 4 > e.platform.maxHeapBytes) (b2 : ¬ M * 4 > e.platform.maxHeapBytes) (hc : s.heap.size + (1 + N) ≤ e.platform.maxCells) (hs : s.slotsUsed + (N + N * M) ≤ e.platform.maxSlots) {Q : Addr → Pre} (hq : ∀ d' acts', Q s.heap.size d' acts' (mnF s c r N M N)) : wp (multianewarray.make c [n, m]) Q E e d acts s := by
  unfold multianewarray.make
  simp only [wp_bind', W.ite, hn, if_false, wp_pure', W.theClass, hk, hk2, Option.some.injEq, exists_eq_left', eN]
  refine W.newArray_of hk hk2 l1 b1 (by omega) (by omega) rfl (fun acts1 => ?_)
  have hf : [m].find? (· < 0) = none := by simp [hm]
  rw [hf, ite_self, mn_o0 c N s.heap.size]
  simp only [wp_bind', Std.Legacy.Range.forIn_eq_forIn_range']
  refine wp_forIn_inv (fun w u => ∃ i, i + w.length = N ∧ w = List.range' i w.length ∧ u = mnF s c r N M i) _ _ ⟨0, by simp [Std.Legacy.Range.size], by simp [Std.Legacy.Range.size], rfl⟩ ?_ ?_
  · rintro x w u d1 acts2 Q1 ⟨i, h1, h2, rfl⟩ h3
    rw [List.length_cons, List.range'_succ] at h2
    obtain ⟨rfl, h2⟩ := List.cons.inj h2
    rw [List.length_cons] at h1
    obtain ⟨a1, a2, a3, a4⟩ := mnF_at s c r N M x
    have g1 : x * M + M ≤ N * M := by rw [← Nat.succ_mul]; exact Nat.mul_le_mul_right M (by omega)
    unfold multianewarray.make
    simp only [wp_bind', W.ite, hm, if_false, wp_pure', W.theClass, a3, hr, hr2, Option.some.injEq, exists_eq_left', eM]
    refine W.newArray_of (by rw [a3]; exact hr) hr2 l2 b2 (by rw [a1]; omega) (by rw [a4]; omega) rfl (fun acts3 => ?_)
    rw [show ({ cls := r, slots := Array.replicate M (defaultValue .int) } : Cell) = mn_r r M from arrV_new r M (.int 0)]
    have lt : s.heap.size < (mnF s c r N M x).heap.size := by rw [a1]; omega
    simp only [W.writeLoc, wp_bind', wp_pure']
    refine ⟨mn_o c N s.heap.size x, (State.heap_pushCell_of_lt _ _ lt).trans a2, (by intro z; cases z), by rw [show (mn_o c N s.heap.size x).slots.size = N from arrV_size _ _ _]; omega, ?_, h3 _ _ _ ⟨x + 1, by omega, h2, ?_⟩⟩
    · show State.fitsSlot _ c .none x _ = true
      simp [State.fitsSlot, State.slotType?, a3, hk, hk2]
      rfl
    · rw [a1, mn_oS]
      rfl
  · rintro u d1 acts2 ⟨i, h1, h2, rfl⟩
    rw [show i = N from h1]
    simp only [wp_pure']
    exact hq _ _
theorem nk_mna {G : nk_EG} {μ : nk_MI} {d : Nat} {Φ : Option Value → nk_AH → Prop} {bc bs pc : Nat} {L : List (Option Value)} {st : List Value} {H : nk_AH} {index N M bc' bs' : Nat} {n k : Int32} (hw : Cond.classLink μ.1.cls index "[[I" ∈ nk_tw) (hd : decode μ.2.1 pc = .ok (.multianewarray index 2, 4)) (hn : n = nI N) (hk : k = nI M) (hN : N ≤ 65536) (hM : M ≤ 65536) (hb : bc' + (1 + N) ≤ bc ∧ bs' + (N + N * M) ≤ bs) (kk : ∀ q : Nat, (∀ i, i ≤ N → H (q + i) = none) → nk_J G μ d Φ bc' bs' (pc + 4) L (.ref q :: st) (mnh H q N M)) : nk_J G μ d Φ bc bs pc L (.int k :: .int n :: st) H := by
  intro p l e R s m args below meth c mc ms A Q C Hc locs cells slots ls hl hP hA hS h1 h2
  have hr := C.2.2.2.2.2.2.1
  have hK := C.2.2.2.2.2.2.2.1
  have hts := C.2.2.2.2.2.1
  have hNn := C.2.2.2.2.2.2.2.2.2.1
  have hA2 := C.2.2.2.2.2.2.2.2.2.2.1
  have cN : n.toNatClampNeg = N := by rw [hn]; exact nI_clamp (by omega)
  have cM : k.toNatClampNeg = M := by rw [hk]; exact nI_clamp (by omega)
  intro T hT Xs
  have hov := hNn.2.2.2.2.2
  obtain ⟨r, cA, kA, fC, fA, hkA, hkA2⟩ := mn_over hov
  obtain ⟨r', kC, y, gC, hkC, hkC2⟩ := Cond.arrayClass_spec (hts _ nk_ac_int)
  cases gC.symm.trans fC
  obtain ⟨c0, fc0, hcl⟩ := Cond.classLink_spec C.2.2.2.1 (hts _ hw) e.platform (by rw [Xs.admits.platform])
  cases (show s.vm.findClass "[[I" = some cA from fA).symm.trans fc0
  obtain ⟨hg1, hwarm, hready⟩ := State.classEntry (e := e) Xs.warmed hcl
  generalize T.vm.noted m.cls index (.cls cA) = vm₁ at hg1 hwarm hready
  obtain ⟨kA', hA1, hA4⟩ := hwarm.alike.2.2 _ _ hkA
  obtain ⟨kC', hC1, hC2⟩ := hwarm.alike.2.2 _ _ hkC
  have hA5 : kA'.kind = .array r (.array .int) := by rw [hA4]; exact hkA2
  have hC3 : kC'.kind = .array y .int := by rw [hC2]; exact hkC2
  have X1 := Xs.noted hwarm
  obtain ⟨r1, r2⟩ := Xs.roomAbove (a := 1 + N) (b := N + N * M) (by omega) (by omega)
  have X' := mnF_stand X1 cA r N M N
  have k0 := (hK.2 0 _ (nk_tys (t0 := 0) rfl)).2
  have k5 := (hK.2 5 _ (nk_tys (t0 := 5) rfl)).2
  have ec : r = G.2.1 .int := Option.some.inj (fC.symm.trans (show s.vm.findClass _ = some (G.2.1 .int) from k0))
  have eA : cA = G.2.1 (.array .int) := Option.some.inj (fA.symm.trans (show s.vm.findClass _ = some (G.2.1 (.array .int)) from k5))
  have step : ∀ t, Steps p.tables e below ((mnF (T.setVm vm₁) cA r N M N).setTop (F0 m (pc + 4) ls (.ref T.heap.size :: st))) t → Steps p.tables e below (T.setTop (F0 m pc ls (.int k :: .int n :: st))) t := fun t ht => by
    have l0 := Launch.admits_arrayLengthLimit Xs.admits
    have l1 := Launch.admits_maxHeapBytes Xs.admits
    jvm_step Xs.here [C.1, show decode c.code pc = .ok (.multianewarray index 2, 4) by rw [C.2.1]; exact hd]
    simp only [multianewarray.sem, wp_bind', W.resolveClassAt_links (State.method?_setTop (F0 m pc ls (.int k :: .int n :: st)) Xs.here.top) hg1]
    rw [W.popN, if_neg (by decide)]
    refine ⟨F0 m pc ls (.int k :: .int n :: st), State.topJava?_setTop' (s := T.setVm vm₁) _ Xs.here.top, [.int n, .int k], st, rfl, rfl, ?_⟩
    simp only [List.mapM_cons, List.mapM_nil, wp_bind', wp_pure']
    have eS : ((T.setTop (F0 m pc ls (.int k :: .int n :: st))).setVm vm₁).setTop { F0 m pc ls (.int k :: .int n :: st) with stack := st } = (T.setVm vm₁).setTop (F0 m pc ls st) := by
      show ((T.setVm vm₁).setTop (F0 m pc ls (.int k :: .int n :: st))).setTop _ = _
      rw [State.setTop_setTop]
    rw [eS]
    refine mn_make (s := (T.setVm vm₁).setTop (F0 m pc ls st)) (N := N) (M := M) hA1 hA5 hC1 hC3 (by rw [hn]; exact nI_pos (by omega)) (by rw [hk]; exact nI_pos (by omega)) cN cM (by rw [l0]; omega) (by rw [l0]; omega) (by rw [l1]; omega) (by rw [l1]; omega) r1 r2 (fun d1 acts1 => ?_)
    rw [mnF_top]
    simp only [wp_bind', W.mark, W.pushRef, State.topJava?_setTop' _ X'.here.top, Option.some.injEq, exists_eq_left', State.setTop_setTop, State.heap_setTop]
    intro acts2
    simp [jvm, X'.here.top]
    exact ht
  subst ec
  subst eA
  generalize hF : mnF (T.setVm vm₁) (G.2.1 (.array .int)) (G.2.1 .int) N M N = F at X' step
  have hTh : (T.setVm vm₁).heap = Hc := hT
  obtain ⟨f1, f2, -, -⟩ := mnF_at (T.setVm vm₁) (G.2.1 (.array .int)) (G.2.1 .int) N M N
  rw [hF, hTh] at f1 f2
  have hold : ∀ x : Nat, x < Hc.size → F.heap[x]? = Hc[x]? := fun x hx => by
    have := mnF_old (T.setVm vm₁) (G.2.1 (.array .int)) (G.2.1 .int) N M x (by rw [hTh]; exact hx) N
    rw [hF, hTh] at this
    exact this
  have hrow : ∀ j : Nat, j < N → F.heap[Hc.size + 1 + j]? = some (vp_cell (G.2.1 .int) (M, .inl (fun _ => 0))) := fun j hj => by
    have := mnF_row (T.setVm vm₁) (G.2.1 (.array .int)) (G.2.1 .int) N M j N hj
    rw [hF, hTh] at this
    rw [this, vp_cell_i]
    rfl
  have hout : F.heap[Hc.size]? = some (vp_cell (G.2.1 (.array .int)) (N, .inr (.inr (.inr (.inr (fun i => if i < N then some (Hc.size + 1 + i) else none)))))) := by
    rw [f2, vp_cell_q]
    rfl
  have hin : ∀ a x, H a = some x → a < Hc.size := fun a x q => (hP a x q).lt
  have hfresh : ∀ i, H (Hc.size + i) = none := fun i => by
    cases z : H (Hc.size + i) with
    | none => rfl
    | some x => have := hin _ _ z; omega
  have hAn : ∀ x, Hc.size ≤ x → A x := fun x hx => hA2 x (Nat.le_trans hS.1 hx)
  have hP2 : nk_P G (mnh H Hc.size N M) F.heap := fun a x hx => by
    unfold mnh at hx
    by_cases z1 : a = Hc.size
    · rw [if_pos z1] at hx
      cases hx
      rw [z1]
      exact hout
    · rw [if_neg z1] at hx
      by_cases z2 : Hc.size < a ∧ a ≤ Hc.size + N
      · rw [if_pos z2] at hx
        cases hx
        have := hrow (a - (Hc.size + 1)) (by omega)
        rw [show Hc.size + 1 + (a - (Hc.size + 1)) = a by omega] at this
        exact this
      · rw [if_neg z2] at hx
        exact (hP a x hx).kept (hold a (hin a x hx))
  have hA3 : ∀ a : Nat, (mnh H Hc.size N M a).isSome = true → A a := fun a ha => by
    unfold mnh at ha
    by_cases z1 : a = Hc.size
    · exact hAn a (by omega)
    · rw [if_neg z1] at ha
      by_cases z2 : Hc.size < a ∧ a ≤ Hc.size + N
      · exact hAn a (by omega)
      · rw [if_neg z2] at ha; exact hA a ha
  have hS2 : va_S A s.heap F.heap locs := ⟨by rw [f1]; have := hS.1; omega, fun x g1 g2 => (hold x (Nat.lt_of_lt_of_le g1 hS.1)).trans (hS.2.1 x g1 g2), hS.2.2⟩
  obtain ⟨t, a1, b1⟩ := kk Hc.size (fun i _ => hfresh i) _ _ _ _ _ _ _ _ _ _ _ _ _ _ C F.heap locs (cells + 1 + N) (slots + N + N * M) ls hl hP2 hA3 hS2 (by omega) (by omega) F rfl X'
  refine ⟨t, step t ?_, b1⟩
  have e : T.heap.size = Hc.size := by rw [hT]
  rw [e]
  exact a1
