/-! Abstract heaps: what is at an address, if anything; nk_J: from here the method comes to an end with an answer and a heap of a kind. -/
abbrev nk_AC : Type := (FieldType × vp_A) ⊕ (Nat × List Value)
abbrev nk_AH : Type := Nat → Option nk_AC
abbrev nk_MI : Type := MethodName × ByteArray × Nat × Option FieldType
abbrev nk_EG : Type := va_G × (FieldType → ClassId) × (Nat → Option (Nat × (Nat → Int32))) × (Nat → Nat)
def nk_e (dA : FieldType → ClassId) (e : nk_AC) : va_E := match e with
  | .inl q => .inl (dA q.1, q.2)
  | .inr o => .inr o
def nk_P (G : nk_EG) (H : nk_AH) (Hc : Heap) : Prop := ∀ (a : Nat) (e : nk_AC), H a = some e → va_at G.1 vwCl (a, nk_e G.2.1 e) Hc
abbrev nk_Ty : List FieldType := [.int, .boolean, .object RX2, .object RX4, .object RX5, .array .int]
abbrev nk_Ts (G : nk_EG) : List (ClassId × FieldType) := nk_Ty.map (fun t => (G.2.1 t, t))
def nk_K (G : nk_EG) (s : State) : Prop := va_K G.1 vwCl (nk_Ts G) s
abbrev nk_sZ : List (String × String × String) := [(RX7, "PARENT", "[I"), (RX1, "SIZE_BODY", "[I"), (RX1, "MARK_BODY", "[I")]
def nk_Z (G : nk_EG) (A : Nat → Prop) (s : State) (Hc : Heap) : Prop := (∀ (t n : Nat) (f : Nat → Int32), G.2.2.1 t = some (n, f) → va_T .int t n (fun j => .int (f j)) A s Hc) ∧ ∀ (k : Nat) (q : String × String × String), nk_sZ[k]? = some q → va_Z q.1 q.2.1 q.2.2 (.ref (G.2.2.2 k)) A s Hc
abbrev nk_Nm : List (String × Nat × MethodName) := [(RX7, 17, yX6_init), (RX7, 30, yX0_init), (RX7, 37, yX1_init), (RX6, 77, yX7_within), (RX5, 30, yX7_within), (RX2, 52, yX7_within), (RX2, 137, yX3_stepsAbove), (RX2, 131, yX3_nodesOf), (RX2, 134, yX3_depthOf), (RX1, 23, yX7_within)]
def nk_N (s : State) : Prop := (∀ q ∈ nk_Nm, va_Nw (.methodLinkNest q.1 q.2.1 q.2.2 RX7) s) ∧ va_Nw (.castable "[I" "java/lang/Cloneable") s ∧ va_AO RX2 s ∧ va_AO RX4 s ∧ va_AO RX5 s ∧ va_Nw (.arrayOver (.array .int)) s
def nk_A (H : nk_AH) (sz : Nat) : Nat → Prop := fun q => (H q).isSome = true ∨ sz ≤ q
abbrev nk_tw : List Cond := lw_tbl.filter goodWord
def nk_u (H : nk_AH) (a : Nat) (e : nk_AC) : nk_AH := fun b => if b = a then some e else H b
theorem nk_u_self (H : nk_AH) (a : Nat) (e : nk_AC) : nk_u H a e a = some e := if_pos rfl
theorem nk_u_ne {H : nk_AH} {a b : Nat} {e : nk_AC} (h : b ≠ a) : nk_u H a e b = H b := if_neg h
theorem nk_u_dom {H : nk_AH} {a b : Nat} {e : nk_AC} (h : (nk_u H a e b).isSome = true) : b = a ∨ (H b).isSome = true := by
  by_cases q : b = a
  · exact Or.inl q
  · rw [nk_u_ne q] at h; exact Or.inr h
/-- the locals: of size n; those of L are held -/
def nk_L (ls : Array Slot) (n : Nat) (L : List (Option Value)) : Prop := ls.size = n ∧ L.length = n ∧ lv_wf ls ∧ ∀ (i : Nat) (v : Value), L[i]? = some (some v) → ls[i]? = some (.val v)
def nk_al (L : List (Option Value)) : List (Nat × Value) := L.zipIdx.filterMap (fun q => q.1.map (fun v => (q.2, v)))
theorem nk_al_mem {L : List (Option Value)} {i : Nat} {v : Value} : (i, v) ∈ nk_al L ↔ L[i]? = some (some v) := by
  unfold nk_al
  rw [List.mem_filterMap]
  constructor
  · rintro ⟨⟨o, j⟩, h1, h2⟩
    rw [List.mem_zipIdx_iff_getElem?] at h1
    cases o with
    | none => cases h2
    | some w => cases h2; exact h1
  · intro h
    exact ⟨(some v, i), List.mem_zipIdx_iff_getElem?.mpr h, rfl⟩
theorem nk_L.has {ls : Array Slot} {n : Nat} {L : List (Option Value)} (h : nk_L ls n L) : lv_has ls n (nk_al L) := ⟨h.1, h.2.2.1, fun q hq => h.2.2.2 q.1 q.2 (nk_al_mem.mp hq)⟩
theorem nk_L.at {ls : Array Slot} {n : Nat} {L : List (Option Value)} (h : nk_L ls n L) {i : Nat} {v : Value} (hi : L[i]? = some (some v)) : ls[i]? = some (.val v) := h.2.2.2 i v hi
/-- a value of one slot is stored at i: a long that began just before it is gone -/
def nk_c (L : List (Option Value)) (i : Nat) : List (Option Value) := match i with
  | 0 => L
  | j + 1 => match L[j]? with
    | some (some (.long _)) => L.set j none
    | some (some (.double _)) => L.set j none
    | _ => L
def nk_s1 (L : List (Option Value)) (i : Nat) (v : Value) : List (Option Value) := (nk_c L i).set i (some v)
def nk_s2 (L : List (Option Value)) (i : Nat) (v : Value) : List (Option Value) := ((nk_c L i).set i (some v)).set (i + 1) none
theorem nk_c_len (L : List (Option Value)) (i : Nat) : (nk_c L i).length = L.length := by
  unfold nk_c
  split
  · rfl
  · split <;> simp
theorem nk_c_at {L : List (Option Value)} {i j : Nat} {w : Value} (h : (nk_c L i)[j]? = some (some w)) : L[j]? = some (some w) ∧ ¬ (j + 1 = i ∧ w.category = 2) := by
  unfold nk_c at h
  split at h
  · exact ⟨h, fun q => by omega⟩
  · rename_i k
    have key : (L.set k none)[j]? = some (some w) → L[j]? = some (some w) ∧ ¬ (j + 1 = k + 1 ∧ w.category = 2) := by
      intro h
      by_cases q : k = j
      · subst q
        rw [List.getElem?_set] at h
        simp at h
      · rw [List.getElem?_set_ne q] at h
        exact ⟨h, fun z => q (by omega)⟩
    split at h
    · exact key h
    · exact key h
    · rename_i h1 h2
      refine ⟨h, fun ⟨q1, q2⟩ => ?_⟩
      obtain rfl : j = k := by omega
      cases w with
      | long x => exact h1 x h
      | double x => exact h2 x h
      | _ => cases q2
theorem nk_s1_at {L : List (Option Value)} {i j : Nat} {v w : Value} (h : (nk_s1 L i v)[j]? = some (some w)) : (j = i ∧ w = v) ∨ (j ≠ i ∧ L[j]? = some (some w) ∧ ¬ (j + 1 = i ∧ w.category = 2)) := by
  unfold nk_s1 at h
  by_cases q : i = j
  · subst q
    rw [List.getElem?_set] at h
    simp at h
    exact Or.inl ⟨rfl, h.2.symm⟩
  · rw [List.getElem?_set_ne q] at h
    exact Or.inr ⟨fun z => q z.symm, nk_c_at h⟩
theorem nk_s2_at {L : List (Option Value)} {i j : Nat} {v w : Value} (h : (nk_s2 L i v)[j]? = some (some w)) : (j = i ∧ w = v) ∨ (j ≠ i ∧ j ≠ i + 1 ∧ L[j]? = some (some w) ∧ ¬ (j + 1 = i ∧ w.category = 2)) := by
  have h' : ((nk_s1 L i v).set (i + 1) none)[j]? = some (some w) := h
  by_cases q : i + 1 = j
  · subst q
    rw [List.getElem?_set] at h'
    simp at h'
  · rw [List.getElem?_set_ne q] at h'
    rcases nk_s1_at h' with a | ⟨a, b, c⟩
    · exact Or.inl a
    · exact Or.inr ⟨a, fun z => q z.symm, b, c⟩
theorem nk_L.s1 {ls' : Array Slot} {n i : Nat} {L : List (Option Value)} {v : Value} (hL : L.length = n) (h : lv_has ls' n ((i, v) :: (nk_al L).filter (fun q => !(q.1 == i) && !(q.1 + 1 == i && q.2.category == 2)))) : nk_L ls' n (nk_s1 L i v) := by
  refine ⟨h.1, by rw [nk_s1, List.length_set, nk_c_len]; exact hL, h.2.1, fun j w hj => ?_⟩
  rcases nk_s1_at hj with ⟨rfl, rfl⟩ | ⟨a, b, c⟩
  · exact h.2.2 _ List.mem_cons_self
  · refine h.2.2 (j, w) (List.mem_cons_of_mem _ (List.mem_filter.mpr ⟨nk_al_mem.mpr b, ?_⟩))
    simp only [Bool.and_eq_true, Bool.not_eq_true', beq_eq_false_iff_ne, ne_eq, Bool.and_eq_false_iff]
    refine ⟨a, ?_⟩
    by_cases z : j + 1 = i
    · exact Or.inr (fun q => c ⟨z, q⟩)
    · exact Or.inl z
theorem nk_L.s2 {ls' : Array Slot} {n i : Nat} {L : List (Option Value)} {v : Value} (hL : L.length = n) (h : lv_has ls' n ((i, v) :: (nk_al L).filter (fun q => !(q.1 == i) && (!(q.1 == i + 1) && !(q.1 + 1 == i && q.2.category == 2))))) : nk_L ls' n (nk_s2 L i v) := by
  refine ⟨h.1, by rw [nk_s2, List.length_set, List.length_set, nk_c_len]; exact hL, h.2.1, fun j w hj => ?_⟩
  rcases nk_s2_at hj with ⟨rfl, rfl⟩ | ⟨a, a2, b, c⟩
  · exact h.2.2 _ List.mem_cons_self
  · refine h.2.2 (j, w) (List.mem_cons_of_mem _ (List.mem_filter.mpr ⟨nk_al_mem.mpr b, ?_⟩))
    simp only [Bool.and_eq_true, Bool.not_eq_true', beq_eq_false_iff_ne, ne_eq, Bool.and_eq_false_iff]
    refine ⟨a, a2, ?_⟩
    by_cases z : j + 1 = i
    · exact Or.inr (fun q => c ⟨z, q⟩)
    · exact Or.inl z
/-- which instruction returns r from a method that returns ret -/
def nk_rO (ret : Option FieldType) (ins : Instr) (r : Option Value) : Prop :=
  (ret = none ∧ r = none ∧ ins = .return_) ∨ (∃ (ty : FieldType) (v : Int32), ret = some ty ∧ r = some (.int v) ∧ narrow ty (.int v) = .int v ∧ ins = .ireturn) ∨
  (∃ v : Int64, ret = some .long ∧ r = some (.long v) ∧ ins = .lreturn) ∨ (∃ (rt : FieldType) (v : Value), ret = some rt ∧ ((∃ n, rt = .object n) ∨ ∃ t, rt = .array t) ∧ (v = .null ∨ ∃ a, v = .ref a) ∧ r = some v ∧ ins = .areturn)
/-- the context of a method's walk -/
def nk_C (G : nk_EG) (μ : nk_MI) (d : Nat) (Φ : Option Value → nk_AH → Prop) (p : Program) (l : Launch) (e : Env) (R : Room) (s : State) (m : MethodId) (args : Array Value) (below : List Frame) (meth : Method) (c : Code) (mc ms : Nat) (A : Nat → Prop) (Q : State → Prop) : Prop :=
  p.tables.exec = Jvm.exec ∧ c.code = μ.2.1 ∧ c.maxLocals = μ.2.2.1 ∧ s.vm.findClass μ.1.cls = some m.cls ∧ meth.name = μ.1.name ∧ (∀ w ∈ nk_tw, w.before args s = true) ∧ (d ≤ R.frames ∧ 64 * d ≤ R.locals ∧ mc ≤ R.cells ∧ ms ≤ R.slots) ∧ nk_K G s ∧ nk_Z G A s s.heap ∧ nk_N s ∧ (∀ q : Nat, s.heap.size ≤ q → A q) ∧
  ∀ (pc : Nat) (ls : Array Slot) (Hc : Heap) (locs : List Loc) (ins : Instr) (r : Option Value) (H' : nk_AH), decode μ.2.1 pc = .ok (ins, 1) → nk_rO μ.2.2.2 ins r → Φ r H' → nk_P G H' Hc → (∀ a : Nat, (H' a).isSome = true → A a) → va_S A s.heap Hc locs → W p l e R s m args below meth c Hc locs mc ms Q (F0 m pc ls r.toList)
def nk_J (G : nk_EG) (μ : nk_MI) (d : Nat) (Φ : Option Value → nk_AH → Prop) (bc bs pc : Nat) (L : List (Option Value)) (st : List Value) (H : nk_AH) : Prop :=
  ∀ (p : Program) (l : Launch) (e : Env) (R : Room) (s : State) (m : MethodId) (args : Array Value) (below : List Frame) (meth : Method) (c : Code) (mc ms : Nat) (A : Nat → Prop) (Q : State → Prop), nk_C G μ d Φ p l e R s m args below meth c mc ms A Q →
  ∀ (Hc : Heap) (locs : List Loc) (cells slots : Nat) (ls : Array Slot), nk_L ls μ.2.2.1 L → nk_P G H Hc → (∀ a : Nat, (H a).isSome = true → A a) → va_S A s.heap Hc locs → cells + bc ≤ mc → slots + bs ≤ ms →
  W p l e R s m args below meth c Hc locs cells slots Q (F0 m pc ls st)
section NKR
variable {G : nk_EG} {μ : nk_MI} {d : Nat} {Φ : Option Value → nk_AH → Prop} {bc bs pc : Nat} {L : List (Option Value)} {st : List Value} {H : nk_AH}
theorem nk_iconst {n : Int} {v : Int32} (hd : decode μ.2.1 pc = .ok (.iconst n, 1)) (hv : Int32.ofInt n = v) (k : nk_J G μ d Φ bc bs (pc + 1) L (.int v :: st) H) : nk_J G μ d Φ bc bs pc L (st) H := by
  intro p l e R s m args below meth c mc ms A Q C Hc locs cells slots ls hl hP hA hS h1 h2
  exact lv_iconst C.1 C.2.1 hd hv (k _ _ _ _ _ _ _ _ _ _ _ _ _ _ C _ _ _ _ _ hl hP hA hS h1 h2)
theorem nk_bipush {n : Int} {v : Int32} (hd : decode μ.2.1 pc = .ok (.bipush n, 2)) (hv : (Int8.ofInt n).toInt32 = v) (k : nk_J G μ d Φ bc bs (pc + 2) L (.int v :: st) H) : nk_J G μ d Φ bc bs pc L (st) H := by
  intro p l e R s m args below meth c mc ms A Q C Hc locs cells slots ls hl hP hA hS h1 h2
  exact lv_bipush C.1 C.2.1 hd hv (k _ _ _ _ _ _ _ _ _ _ _ _ _ _ C _ _ _ _ _ hl hP hA hS h1 h2)
theorem nk_sipush {n : Int} {v : Int32} (hd : decode μ.2.1 pc = .ok (.sipush n, 3)) (hv : (Int16.ofInt n).toInt32 = v) (k : nk_J G μ d Φ bc bs (pc + 3) L (.int v :: st) H) : nk_J G μ d Φ bc bs pc L (st) H := by
  intro p l e R s m args below meth c mc ms A Q C Hc locs cells slots ls hl hP hA hS h1 h2
  exact lv_sipush C.1 C.2.1 hd hv (k _ _ _ _ _ _ _ _ _ _ _ _ _ _ C _ _ _ _ _ hl hP hA hS h1 h2)
theorem nk_lconst {n : Fin 2} {v : Int64} (hd : decode μ.2.1 pc = .ok (.lconst n, 1)) (hv : Int64.ofNat (n : Nat) = v) (k : nk_J G μ d Φ bc bs (pc + 1) L (.long v :: st) H) : nk_J G μ d Φ bc bs pc L (st) H := by
  intro p l e R s m args below meth c mc ms A Q C Hc locs cells slots ls hl hP hA hS h1 h2
  exact lv_lconst C.1 C.2.1 hd hv (k _ _ _ _ _ _ _ _ _ _ _ _ _ _ C _ _ _ _ _ hl hP hA hS h1 h2)
theorem nk_null  (hd : decode μ.2.1 pc = .ok (.aconst_null, 1))  (k : nk_J G μ d Φ bc bs (pc + 1) L (.null :: st) H) : nk_J G μ d Φ bc bs pc L (st) H := by
  intro p l e R s m args below meth c mc ms A Q C Hc locs cells slots ls hl hP hA hS h1 h2
  exact lv_null C.1 C.2.1 hd  (k _ _ _ _ _ _ _ _ _ _ _ _ _ _ C _ _ _ _ _ hl hP hA hS h1 h2)
theorem nk_iload_n {k0 : Fin 4} {i : Nat} {x : Int32} (hd : decode μ.2.1 pc = .ok (.iload_n k0, 1)) (hi : (k0 : Nat) = i) (hx : L[i]? = some (some (.int x))) (k : nk_J G μ d Φ bc bs (pc + 1) L (.int x :: st) H) : nk_J G μ d Φ bc bs pc L (st) H := by
  intro p l e R s m args below meth c mc ms A Q C Hc locs cells slots ls hl hP hA hS h1 h2
  exact lv_iload_n C.1 C.2.1 hd hi (hl.at hx) (k _ _ _ _ _ _ _ _ _ _ _ _ _ _ C _ _ _ _ _ hl hP hA hS h1 h2)
theorem nk_lload_n {k0 : Fin 4} {i : Nat} {x : Int64} (hd : decode μ.2.1 pc = .ok (.lload_n k0, 1)) (hi : (k0 : Nat) = i) (hx : L[i]? = some (some (.long x))) (k : nk_J G μ d Φ bc bs (pc + 1) L (.long x :: st) H) : nk_J G μ d Φ bc bs pc L (st) H := by
  intro p l e R s m args below meth c mc ms A Q C Hc locs cells slots ls hl hP hA hS h1 h2
  exact lv_lload_n C.1 C.2.1 hd hi (hl.at hx) (k _ _ _ _ _ _ _ _ _ _ _ _ _ _ C _ _ _ _ _ hl hP hA hS h1 h2)
theorem nk_aload_n {k0 : Fin 4} {i : Nat} {x : Nat} (hd : decode μ.2.1 pc = .ok (.aload_n k0, 1)) (hi : (k0 : Nat) = i) (hx : L[i]? = some (some (.ref x))) (k : nk_J G μ d Φ bc bs (pc + 1) L (.ref x :: st) H) : nk_J G μ d Φ bc bs pc L (st) H := by
  intro p l e R s m args below meth c mc ms A Q C Hc locs cells slots ls hl hP hA hS h1 h2
  exact lv_aload_n C.1 C.2.1 hd hi (hl.at hx) (k _ _ _ _ _ _ _ _ _ _ _ _ _ _ C _ _ _ _ _ hl hP hA hS h1 h2)
theorem nk_iload {i : Nat} {x : Int32} (hd : decode μ.2.1 pc = .ok (.iload i, 2)) (hx : L[i]? = some (some (.int x))) (k : nk_J G μ d Φ bc bs (pc + 2) L (.int x :: st) H) : nk_J G μ d Φ bc bs pc L (st) H := by
  intro p l e R s m args below meth c mc ms A Q C Hc locs cells slots ls hl hP hA hS h1 h2
  exact lv_iload C.1 C.2.1 hd (hl.at hx) (k _ _ _ _ _ _ _ _ _ _ _ _ _ _ C _ _ _ _ _ hl hP hA hS h1 h2)
theorem nk_lload {i : Nat} {x : Int64} (hd : decode μ.2.1 pc = .ok (.lload i, 2)) (hx : L[i]? = some (some (.long x))) (k : nk_J G μ d Φ bc bs (pc + 2) L (.long x :: st) H) : nk_J G μ d Φ bc bs pc L (st) H := by
  intro p l e R s m args below meth c mc ms A Q C Hc locs cells slots ls hl hP hA hS h1 h2
  exact lv_lload C.1 C.2.1 hd (hl.at hx) (k _ _ _ _ _ _ _ _ _ _ _ _ _ _ C _ _ _ _ _ hl hP hA hS h1 h2)
theorem nk_aload {i : Nat} {x : Nat} (hd : decode μ.2.1 pc = .ok (.aload i, 2)) (hx : L[i]? = some (some (.ref x))) (k : nk_J G μ d Φ bc bs (pc + 2) L (.ref x :: st) H) : nk_J G μ d Φ bc bs pc L (st) H := by
  intro p l e R s m args below meth c mc ms A Q C Hc locs cells slots ls hl hP hA hS h1 h2
  exact lv_aload C.1 C.2.1 hd (hl.at hx) (k _ _ _ _ _ _ _ _ _ _ _ _ _ _ C _ _ _ _ _ hl hP hA hS h1 h2)
theorem nk_aload_nN {k0 : Fin 4} {i : Nat} (hd : decode μ.2.1 pc = .ok (.aload_n k0, 1)) (hi : (k0 : Nat) = i) (hx : L[i]? = some (some .null)) (k : nk_J G μ d Φ bc bs (pc + 1) L (.null :: st) H) : nk_J G μ d Φ bc bs pc L (st) H := by
  intro p l e R s m args below meth c mc ms A Q C Hc locs cells slots ls hl hP hA hS h1 h2
  exact lv_aload_nN C.1 C.2.1 hd hi (hl.at hx) (k _ _ _ _ _ _ _ _ _ _ _ _ _ _ C _ _ _ _ _ hl hP hA hS h1 h2)
theorem nk_aloadN {i : Nat} (hd : decode μ.2.1 pc = .ok (.aload i, 2)) (hx : L[i]? = some (some .null)) (k : nk_J G μ d Φ bc bs (pc + 2) L (.null :: st) H) : nk_J G μ d Φ bc bs pc L (st) H := by
  intro p l e R s m args below meth c mc ms A Q C Hc locs cells slots ls hl hP hA hS h1 h2
  exact lv_aloadN C.1 C.2.1 hd (hl.at hx) (k _ _ _ _ _ _ _ _ _ _ _ _ _ _ C _ _ _ _ _ hl hP hA hS h1 h2)
theorem nk_istore_n {k0 : Fin 4} {i : Nat} {x : Int32} {L' : List (Option Value)} (hd : decode μ.2.1 pc = .ok (.istore_n k0, 1)) (hi : (k0 : Nat) = i) (hn : i < μ.2.2.1) (hL : nk_s1 L i (.int x) = L') (k : nk_J G μ d Φ bc bs (pc + 1) L' st H) : nk_J G μ d Φ bc bs pc L (.int x :: st) H := by
  intro p l e R s m args below meth c mc ms A Q C Hc locs cells slots ls hl hP hA hS h1 h2
  subst hL
  exact lv_istore_n C.1 C.2.1 hd hi hl.has hn rfl (fun ls' hl' => k _ _ _ _ _ _ _ _ _ _ _ _ _ _ C _ _ _ _ _ (nk_L.s1 hl.2.1 hl') hP hA hS h1 h2)
theorem nk_istore {i : Nat} {x : Int32} {L' : List (Option Value)} (hd : decode μ.2.1 pc = .ok (.istore i, 2))  (hn : i < μ.2.2.1) (hL : nk_s1 L i (.int x) = L') (k : nk_J G μ d Φ bc bs (pc + 2) L' st H) : nk_J G μ d Φ bc bs pc L (.int x :: st) H := by
  intro p l e R s m args below meth c mc ms A Q C Hc locs cells slots ls hl hP hA hS h1 h2
  subst hL
  exact lv_istore C.1 C.2.1 hd  hl.has hn rfl (fun ls' hl' => k _ _ _ _ _ _ _ _ _ _ _ _ _ _ C _ _ _ _ _ (nk_L.s1 hl.2.1 hl') hP hA hS h1 h2)
theorem nk_lstore_n {k0 : Fin 4} {i : Nat} {x : Int64} {L' : List (Option Value)} (hd : decode μ.2.1 pc = .ok (.lstore_n k0, 1)) (hi : (k0 : Nat) = i) (hn : i + 1 < μ.2.2.1) (hL : nk_s2 L i (.long x) = L') (k : nk_J G μ d Φ bc bs (pc + 1) L' st H) : nk_J G μ d Φ bc bs pc L (.long x :: st) H := by
  intro p l e R s m args below meth c mc ms A Q C Hc locs cells slots ls hl hP hA hS h1 h2
  subst hL
  exact lv_lstore_n C.1 C.2.1 hd hi hl.has hn rfl (fun ls' hl' => k _ _ _ _ _ _ _ _ _ _ _ _ _ _ C _ _ _ _ _ (nk_L.s2 hl.2.1 hl') hP hA hS h1 h2)
theorem nk_lstore {i : Nat} {x : Int64} {L' : List (Option Value)} (hd : decode μ.2.1 pc = .ok (.lstore i, 2))  (hn : i + 1 < μ.2.2.1) (hL : nk_s2 L i (.long x) = L') (k : nk_J G μ d Φ bc bs (pc + 2) L' st H) : nk_J G μ d Φ bc bs pc L (.long x :: st) H := by
  intro p l e R s m args below meth c mc ms A Q C Hc locs cells slots ls hl hP hA hS h1 h2
  subst hL
  exact lv_lstore C.1 C.2.1 hd  hl.has hn rfl (fun ls' hl' => k _ _ _ _ _ _ _ _ _ _ _ _ _ _ C _ _ _ _ _ (nk_L.s2 hl.2.1 hl') hP hA hS h1 h2)
theorem nk_astore_n {k0 : Fin 4} {i : Nat} {x : Nat} {L' : List (Option Value)} (hd : decode μ.2.1 pc = .ok (.astore_n k0, 1)) (hi : (k0 : Nat) = i) (hn : i < μ.2.2.1) (hL : nk_s1 L i (.ref x) = L') (k : nk_J G μ d Φ bc bs (pc + 1) L' st H) : nk_J G μ d Φ bc bs pc L (.ref x :: st) H := by
  intro p l e R s m args below meth c mc ms A Q C Hc locs cells slots ls hl hP hA hS h1 h2
  subst hL
  exact lv_astore_n C.1 C.2.1 hd hi hl.has hn rfl (fun ls' hl' => k _ _ _ _ _ _ _ _ _ _ _ _ _ _ C _ _ _ _ _ (nk_L.s1 hl.2.1 hl') hP hA hS h1 h2)
theorem nk_astore {i : Nat} {x : Nat} {L' : List (Option Value)} (hd : decode μ.2.1 pc = .ok (.astore i, 2))  (hn : i < μ.2.2.1) (hL : nk_s1 L i (.ref x) = L') (k : nk_J G μ d Φ bc bs (pc + 2) L' st H) : nk_J G μ d Φ bc bs pc L (.ref x :: st) H := by
  intro p l e R s m args below meth c mc ms A Q C Hc locs cells slots ls hl hP hA hS h1 h2
  subst hL
  exact lv_astore C.1 C.2.1 hd  hl.has hn rfl (fun ls' hl' => k _ _ _ _ _ _ _ _ _ _ _ _ _ _ C _ _ _ _ _ (nk_L.s1 hl.2.1 hl') hP hA hS h1 h2)
theorem nk_astore_nN {k0 : Fin 4} {i : Nat} {L' : List (Option Value)} (hd : decode μ.2.1 pc = .ok (.astore_n k0, 1)) (hi : (k0 : Nat) = i) (hn : i < μ.2.2.1) (hL : nk_s1 L i (.null) = L') (k : nk_J G μ d Φ bc bs (pc + 1) L' st H) : nk_J G μ d Φ bc bs pc L (.null :: st) H := by
  intro p l e R s m args below meth c mc ms A Q C Hc locs cells slots ls hl hP hA hS h1 h2
  subst hL
  exact lv_astore_nN C.1 C.2.1 hd hi hl.has hn rfl (fun ls' hl' => k _ _ _ _ _ _ _ _ _ _ _ _ _ _ C _ _ _ _ _ (nk_L.s1 hl.2.1 hl') hP hA hS h1 h2)
theorem nk_astoreN {i : Nat} {L' : List (Option Value)} (hd : decode μ.2.1 pc = .ok (.astore i, 2))  (hn : i < μ.2.2.1) (hL : nk_s1 L i (.null) = L') (k : nk_J G μ d Φ bc bs (pc + 2) L' st H) : nk_J G μ d Φ bc bs pc L (.null :: st) H := by
  intro p l e R s m args below meth c mc ms A Q C Hc locs cells slots ls hl hP hA hS h1 h2
  subst hL
  exact lv_astoreN C.1 C.2.1 hd  hl.has hn rfl (fun ls' hl' => k _ _ _ _ _ _ _ _ _ _ _ _ _ _ C _ _ _ _ _ (nk_L.s1 hl.2.1 hl') hP hA hS h1 h2)
theorem nk_iinc {i : Nat} {n : Int} {x v : Int32} {L' : List (Option Value)} (hd : decode μ.2.1 pc = .ok (.iinc i n, 3)) (hx : L[i]? = some (some (.int x))) (hv : x + Int32.ofInt n = v) (hn : i < μ.2.2.1) (hL : nk_s1 L i (.int v) = L') (k : nk_J G μ d Φ bc bs (pc + 3) L' st H) : nk_J G μ d Φ bc bs pc L st H := by
  intro p l e R s m args below meth c mc ms A Q C Hc locs cells slots ls hl hP hA hS h1 h2
  subst hL
  obtain ⟨q, hq⟩ := List.getElem?_of_mem (nk_al_mem.mpr hx)
  exact lv_iinc C.1 C.2.1 hd hl.has hq hv hn rfl (fun ls' hl' => k _ _ _ _ _ _ _ _ _ _ _ _ _ _ C _ _ _ _ _ (nk_L.s1 hl.2.1 hl') hP hA hS h1 h2)
theorem nk_iadd {x y : Int32} (hd : decode μ.2.1 pc = .ok (.iadd, 1))  (k : nk_J G μ d Φ bc bs (pc + 1) L (.int (x + y) :: st) H) : nk_J G μ d Φ bc bs pc L (.int y :: .int x :: st) H := by
  intro p l e R s m args below meth c mc ms A Q C Hc locs cells slots ls hl hP hA hS h1 h2
  exact lv_iadd C.1 C.2.1 hd  (k _ _ _ _ _ _ _ _ _ _ _ _ _ _ C _ _ _ _ _ hl hP hA hS h1 h2)
theorem nk_isub {x y : Int32} (hd : decode μ.2.1 pc = .ok (.isub, 1))  (k : nk_J G μ d Φ bc bs (pc + 1) L (.int (x - y) :: st) H) : nk_J G μ d Φ bc bs pc L (.int y :: .int x :: st) H := by
  intro p l e R s m args below meth c mc ms A Q C Hc locs cells slots ls hl hP hA hS h1 h2
  exact lv_isub C.1 C.2.1 hd  (k _ _ _ _ _ _ _ _ _ _ _ _ _ _ C _ _ _ _ _ hl hP hA hS h1 h2)
theorem nk_imul {x y : Int32} (hd : decode μ.2.1 pc = .ok (.imul, 1))  (k : nk_J G μ d Φ bc bs (pc + 1) L (.int (x * y) :: st) H) : nk_J G μ d Φ bc bs pc L (.int y :: .int x :: st) H := by
  intro p l e R s m args below meth c mc ms A Q C Hc locs cells slots ls hl hP hA hS h1 h2
  exact lv_imul C.1 C.2.1 hd  (k _ _ _ _ _ _ _ _ _ _ _ _ _ _ C _ _ _ _ _ hl hP hA hS h1 h2)
theorem nk_iand {x y : Int32} (hd : decode μ.2.1 pc = .ok (.iand, 1))  (k : nk_J G μ d Φ bc bs (pc + 1) L (.int (x &&& y) :: st) H) : nk_J G μ d Φ bc bs pc L (.int y :: .int x :: st) H := by
  intro p l e R s m args below meth c mc ms A Q C Hc locs cells slots ls hl hP hA hS h1 h2
  exact lv_iand C.1 C.2.1 hd  (k _ _ _ _ _ _ _ _ _ _ _ _ _ _ C _ _ _ _ _ hl hP hA hS h1 h2)
theorem nk_ior {x y : Int32} (hd : decode μ.2.1 pc = .ok (.ior, 1))  (k : nk_J G μ d Φ bc bs (pc + 1) L (.int (x ||| y) :: st) H) : nk_J G μ d Φ bc bs pc L (.int y :: .int x :: st) H := by
  intro p l e R s m args below meth c mc ms A Q C Hc locs cells slots ls hl hP hA hS h1 h2
  exact lv_ior C.1 C.2.1 hd  (k _ _ _ _ _ _ _ _ _ _ _ _ _ _ C _ _ _ _ _ hl hP hA hS h1 h2)
theorem nk_ixor {x y : Int32} (hd : decode μ.2.1 pc = .ok (.ixor, 1))  (k : nk_J G μ d Φ bc bs (pc + 1) L (.int (x ^^^ y) :: st) H) : nk_J G μ d Φ bc bs pc L (.int y :: .int x :: st) H := by
  intro p l e R s m args below meth c mc ms A Q C Hc locs cells slots ls hl hP hA hS h1 h2
  exact lv_ixor C.1 C.2.1 hd  (k _ _ _ _ _ _ _ _ _ _ _ _ _ _ C _ _ _ _ _ hl hP hA hS h1 h2)
theorem nk_ishl {x y : Int32} (hd : decode μ.2.1 pc = .ok (.ishl, 1))  (k : nk_J G μ d Φ bc bs (pc + 1) L (.int (x <<< (y &&& 31)) :: st) H) : nk_J G μ d Φ bc bs pc L (.int y :: .int x :: st) H := by
  intro p l e R s m args below meth c mc ms A Q C Hc locs cells slots ls hl hP hA hS h1 h2
  exact lv_ishl C.1 C.2.1 hd  (k _ _ _ _ _ _ _ _ _ _ _ _ _ _ C _ _ _ _ _ hl hP hA hS h1 h2)
theorem nk_ishr {x y : Int32} (hd : decode μ.2.1 pc = .ok (.ishr, 1))  (k : nk_J G μ d Φ bc bs (pc + 1) L (.int (x >>> (y &&& 31)) :: st) H) : nk_J G μ d Φ bc bs pc L (.int y :: .int x :: st) H := by
  intro p l e R s m args below meth c mc ms A Q C Hc locs cells slots ls hl hP hA hS h1 h2
  exact lv_ishr C.1 C.2.1 hd  (k _ _ _ _ _ _ _ _ _ _ _ _ _ _ C _ _ _ _ _ hl hP hA hS h1 h2)
theorem nk_idiv {x y : Int32} (hd : decode μ.2.1 pc = .ok (.idiv, 1)) (hne : ¬ y = 0) (k : nk_J G μ d Φ bc bs (pc + 1) L (.int (x / y) :: st) H) : nk_J G μ d Φ bc bs pc L (.int y :: .int x :: st) H := by
  intro p l e R s m args below meth c mc ms A Q C Hc locs cells slots ls hl hP hA hS h1 h2
  exact lv_idiv C.1 C.2.1 hd hne (k _ _ _ _ _ _ _ _ _ _ _ _ _ _ C _ _ _ _ _ hl hP hA hS h1 h2)
theorem nk_irem {x y : Int32} (hd : decode μ.2.1 pc = .ok (.irem, 1)) (hne : ¬ y = 0) (k : nk_J G μ d Φ bc bs (pc + 1) L (.int (x - x / y * y) :: st) H) : nk_J G μ d Φ bc bs pc L (.int y :: .int x :: st) H := by
  intro p l e R s m args below meth c mc ms A Q C Hc locs cells slots ls hl hP hA hS h1 h2
  exact lv_irem C.1 C.2.1 hd hne (k _ _ _ _ _ _ _ _ _ _ _ _ _ _ C _ _ _ _ _ hl hP hA hS h1 h2)
theorem nk_iushr {x y : Int32} (hd : decode μ.2.1 pc = .ok (.iushr, 1))  (k : nk_J G μ d Φ bc bs (pc + 1) L (.int ((x.toUInt32 >>> (y.toUInt32 &&& Int32.toUInt32 31)).toInt32) :: st) H) : nk_J G μ d Φ bc bs pc L (.int y :: .int x :: st) H := by
  intro p l e R s m args below meth c mc ms A Q C Hc locs cells slots ls hl hP hA hS h1 h2
  exact lv_iushr C.1 C.2.1 hd rfl (k _ _ _ _ _ _ _ _ _ _ _ _ _ _ C _ _ _ _ _ hl hP hA hS h1 h2)
theorem nk_ineg {x : Int32} (hd : decode μ.2.1 pc = .ok (.ineg, 1))  (k : nk_J G μ d Φ bc bs (pc + 1) L (.int (-x) :: st) H) : nk_J G μ d Φ bc bs pc L (.int x :: st) H := by
  intro p l e R s m args below meth c mc ms A Q C Hc locs cells slots ls hl hP hA hS h1 h2
  exact lv_ineg C.1 C.2.1 hd  (k _ _ _ _ _ _ _ _ _ _ _ _ _ _ C _ _ _ _ _ hl hP hA hS h1 h2)
theorem nk_ladd {x y : Int64} (hd : decode μ.2.1 pc = .ok (.ladd, 1))  (k : nk_J G μ d Φ bc bs (pc + 1) L (.long (x + y) :: st) H) : nk_J G μ d Φ bc bs pc L (.long y :: .long x :: st) H := by
  intro p l e R s m args below meth c mc ms A Q C Hc locs cells slots ls hl hP hA hS h1 h2
  exact lv_ladd C.1 C.2.1 hd  (k _ _ _ _ _ _ _ _ _ _ _ _ _ _ C _ _ _ _ _ hl hP hA hS h1 h2)
theorem nk_lsub {x y : Int64} (hd : decode μ.2.1 pc = .ok (.lsub, 1))  (k : nk_J G μ d Φ bc bs (pc + 1) L (.long (x - y) :: st) H) : nk_J G μ d Φ bc bs pc L (.long y :: .long x :: st) H := by
  intro p l e R s m args below meth c mc ms A Q C Hc locs cells slots ls hl hP hA hS h1 h2
  exact lv_lsub C.1 C.2.1 hd  (k _ _ _ _ _ _ _ _ _ _ _ _ _ _ C _ _ _ _ _ hl hP hA hS h1 h2)
theorem nk_lmul {x y : Int64} (hd : decode μ.2.1 pc = .ok (.lmul, 1))  (k : nk_J G μ d Φ bc bs (pc + 1) L (.long (x * y) :: st) H) : nk_J G μ d Φ bc bs pc L (.long y :: .long x :: st) H := by
  intro p l e R s m args below meth c mc ms A Q C Hc locs cells slots ls hl hP hA hS h1 h2
  exact lv_lmul C.1 C.2.1 hd  (k _ _ _ _ _ _ _ _ _ _ _ _ _ _ C _ _ _ _ _ hl hP hA hS h1 h2)
theorem nk_land {x y : Int64} (hd : decode μ.2.1 pc = .ok (.land, 1))  (k : nk_J G μ d Φ bc bs (pc + 1) L (.long (x &&& y) :: st) H) : nk_J G μ d Φ bc bs pc L (.long y :: .long x :: st) H := by
  intro p l e R s m args below meth c mc ms A Q C Hc locs cells slots ls hl hP hA hS h1 h2
  exact lv_land C.1 C.2.1 hd  (k _ _ _ _ _ _ _ _ _ _ _ _ _ _ C _ _ _ _ _ hl hP hA hS h1 h2)
theorem nk_lor {x y : Int64} (hd : decode μ.2.1 pc = .ok (.lor, 1))  (k : nk_J G μ d Φ bc bs (pc + 1) L (.long (x ||| y) :: st) H) : nk_J G μ d Φ bc bs pc L (.long y :: .long x :: st) H := by
  intro p l e R s m args below meth c mc ms A Q C Hc locs cells slots ls hl hP hA hS h1 h2
  exact lv_lor C.1 C.2.1 hd  (k _ _ _ _ _ _ _ _ _ _ _ _ _ _ C _ _ _ _ _ hl hP hA hS h1 h2)
theorem nk_ldiv {x y : Int64} (hd : decode μ.2.1 pc = .ok (.ldiv, 1)) (hne : ¬ y = 0) (k : nk_J G μ d Φ bc bs (pc + 1) L (.long (x / y) :: st) H) : nk_J G μ d Φ bc bs pc L (.long y :: .long x :: st) H := by
  intro p l e R s m args below meth c mc ms A Q C Hc locs cells slots ls hl hP hA hS h1 h2
  exact lv_ldiv C.1 C.2.1 hd hne (k _ _ _ _ _ _ _ _ _ _ _ _ _ _ C _ _ _ _ _ hl hP hA hS h1 h2)
theorem nk_lrem {x y : Int64} (hd : decode μ.2.1 pc = .ok (.lrem, 1)) (hne : ¬ y = 0) (k : nk_J G μ d Φ bc bs (pc + 1) L (.long (x - x / y * y) :: st) H) : nk_J G μ d Φ bc bs pc L (.long y :: .long x :: st) H := by
  intro p l e R s m args below meth c mc ms A Q C Hc locs cells slots ls hl hP hA hS h1 h2
  exact lv_lrem C.1 C.2.1 hd hne (k _ _ _ _ _ _ _ _ _ _ _ _ _ _ C _ _ _ _ _ hl hP hA hS h1 h2)
theorem nk_lshl {x : Int64} {y : Int32} (hd : decode μ.2.1 pc = .ok (.lshl, 1))  (k : nk_J G μ d Φ bc bs (pc + 1) L (.long (x <<< (y.toInt64 &&& 63)) :: st) H) : nk_J G μ d Φ bc bs pc L (.int y :: .long x :: st) H := by
  intro p l e R s m args below meth c mc ms A Q C Hc locs cells slots ls hl hP hA hS h1 h2
  exact lv_lshl C.1 C.2.1 hd rfl (k _ _ _ _ _ _ _ _ _ _ _ _ _ _ C _ _ _ _ _ hl hP hA hS h1 h2)
theorem nk_i2l {x : Int32} (hd : decode μ.2.1 pc = .ok (.i2l, 1))  (k : nk_J G μ d Φ bc bs (pc + 1) L (.long x.toInt64 :: st) H) : nk_J G μ d Φ bc bs pc L (.int x :: st) H := by
  intro p l e R s m args below meth c mc ms A Q C Hc locs cells slots ls hl hP hA hS h1 h2
  exact lv_i2l C.1 C.2.1 hd rfl (k _ _ _ _ _ _ _ _ _ _ _ _ _ _ C _ _ _ _ _ hl hP hA hS h1 h2)
theorem nk_l2i {x : Int64} (hd : decode μ.2.1 pc = .ok (.l2i, 1))  (k : nk_J G μ d Φ bc bs (pc + 1) L (.int x.toInt32 :: st) H) : nk_J G μ d Φ bc bs pc L (.long x :: st) H := by
  intro p l e R s m args below meth c mc ms A Q C Hc locs cells slots ls hl hP hA hS h1 h2
  exact lv_l2i C.1 C.2.1 hd rfl (k _ _ _ _ _ _ _ _ _ _ _ _ _ _ C _ _ _ _ _ hl hP hA hS h1 h2)
theorem nk_i2b {x : Int32} (hd : decode μ.2.1 pc = .ok (.i2b, 1))  (k : nk_J G μ d Φ bc bs (pc + 1) L (.int x.toInt8.toInt32 :: st) H) : nk_J G μ d Φ bc bs pc L (.int x :: st) H := by
  intro p l e R s m args below meth c mc ms A Q C Hc locs cells slots ls hl hP hA hS h1 h2
  exact lv_i2b C.1 C.2.1 hd rfl (k _ _ _ _ _ _ _ _ _ _ _ _ _ _ C _ _ _ _ _ hl hP hA hS h1 h2)
theorem nk_i2s {x : Int32} (hd : decode μ.2.1 pc = .ok (.i2s, 1))  (k : nk_J G μ d Φ bc bs (pc + 1) L (.int x.toInt16.toInt32 :: st) H) : nk_J G μ d Φ bc bs pc L (.int x :: st) H := by
  intro p l e R s m args below meth c mc ms A Q C Hc locs cells slots ls hl hP hA hS h1 h2
  exact lv_i2s C.1 C.2.1 hd rfl (k _ _ _ _ _ _ _ _ _ _ _ _ _ _ C _ _ _ _ _ hl hP hA hS h1 h2)
theorem nk_dup {v : Value} (hd : decode μ.2.1 pc = .ok (.dup, 1)) (hv : v.category = 1) (k : nk_J G μ d Φ bc bs (pc + 1) L (v :: v :: st) H) : nk_J G μ d Φ bc bs pc L (v :: st) H := by
  intro p l e R s m args below meth c mc ms A Q C Hc locs cells slots ls hl hP hA hS h1 h2
  exact lv_dup C.1 C.2.1 hd hv (k _ _ _ _ _ _ _ _ _ _ _ _ _ _ C _ _ _ _ _ hl hP hA hS h1 h2)
theorem nk_pop {v : Value} (hd : decode μ.2.1 pc = .ok (.pop, 1)) (hv : v.category = 1) (k : nk_J G μ d Φ bc bs (pc + 1) L (st) H) : nk_J G μ d Φ bc bs pc L (v :: st) H := by
  intro p l e R s m args below meth c mc ms A Q C Hc locs cells slots ls hl hP hA hS h1 h2
  exact lv_pop C.1 C.2.1 hd hv (k _ _ _ _ _ _ _ _ _ _ _ _ _ _ C _ _ _ _ _ hl hP hA hS h1 h2)
theorem nk_dup2 {v u : Value} (hd : decode μ.2.1 pc = .ok (.dup2, 1)) (hv : v.category = 1) (hu : u.category = 1) (k : nk_J G μ d Φ bc bs (pc + 1) L (v :: u :: v :: u :: st) H) : nk_J G μ d Φ bc bs pc L (v :: u :: st) H := by
  intro p l e R s m args below meth c mc ms A Q C Hc locs cells slots ls hl hP hA hS h1 h2
  exact lv_dup2_11 C.1 C.2.1 hd hv hu (k _ _ _ _ _ _ _ _ _ _ _ _ _ _ C _ _ _ _ _ hl hP hA hS h1 h2)
theorem nk_ifeq {x : Int32} {off : Int} {tgt : Nat} (hd : decode μ.2.1 pc = .ok (.ifCond .eq off, 3)) (ht : (pc : Int) + off = (tgt : Int)) (kt : x = 0 → nk_J G μ d Φ bc bs tgt L st H) (kf : ¬ x = 0 → nk_J G μ d Φ bc bs (pc + 3) L st H) : nk_J G μ d Φ bc bs pc L (.int x :: st) H := by
  intro p l e R s m args below meth c mc ms A Q C Hc locs cells slots ls hl hP hA hS h1 h2
  exact lv_if_eq C.1 C.2.1 hd ht (fun q => kt q _ _ _ _ _ _ _ _ _ _ _ _ _ _ C _ _ _ _ _ hl hP hA hS h1 h2) (fun q => kf q _ _ _ _ _ _ _ _ _ _ _ _ _ _ C _ _ _ _ _ hl hP hA hS h1 h2)
theorem nk_ifne {x : Int32} {off : Int} {tgt : Nat} (hd : decode μ.2.1 pc = .ok (.ifCond .ne off, 3)) (ht : (pc : Int) + off = (tgt : Int)) (kt : ¬ x = 0 → nk_J G μ d Φ bc bs tgt L st H) (kf : x = 0 → nk_J G μ d Φ bc bs (pc + 3) L st H) : nk_J G μ d Φ bc bs pc L (.int x :: st) H := by
  intro p l e R s m args below meth c mc ms A Q C Hc locs cells slots ls hl hP hA hS h1 h2
  exact lv_if_ne C.1 C.2.1 hd ht (fun q => kt q _ _ _ _ _ _ _ _ _ _ _ _ _ _ C _ _ _ _ _ hl hP hA hS h1 h2) (fun q => kf q _ _ _ _ _ _ _ _ _ _ _ _ _ _ C _ _ _ _ _ hl hP hA hS h1 h2)
theorem nk_iflt {x : Int32} {off : Int} {tgt : Nat} (hd : decode μ.2.1 pc = .ok (.ifCond .lt off, 3)) (ht : (pc : Int) + off = (tgt : Int)) (kt : x < 0 → nk_J G μ d Φ bc bs tgt L st H) (kf : ¬ x < 0 → nk_J G μ d Φ bc bs (pc + 3) L st H) : nk_J G μ d Φ bc bs pc L (.int x :: st) H := by
  intro p l e R s m args below meth c mc ms A Q C Hc locs cells slots ls hl hP hA hS h1 h2
  exact lv_if_lt C.1 C.2.1 hd ht (fun q => kt q _ _ _ _ _ _ _ _ _ _ _ _ _ _ C _ _ _ _ _ hl hP hA hS h1 h2) (fun q => kf q _ _ _ _ _ _ _ _ _ _ _ _ _ _ C _ _ _ _ _ hl hP hA hS h1 h2)
theorem nk_ifge {x : Int32} {off : Int} {tgt : Nat} (hd : decode μ.2.1 pc = .ok (.ifCond .ge off, 3)) (ht : (pc : Int) + off = (tgt : Int)) (kt : 0 ≤ x → nk_J G μ d Φ bc bs tgt L st H) (kf : ¬ 0 ≤ x → nk_J G μ d Φ bc bs (pc + 3) L st H) : nk_J G μ d Φ bc bs pc L (.int x :: st) H := by
  intro p l e R s m args below meth c mc ms A Q C Hc locs cells slots ls hl hP hA hS h1 h2
  exact lv_if_ge C.1 C.2.1 hd ht (fun q => kt q _ _ _ _ _ _ _ _ _ _ _ _ _ _ C _ _ _ _ _ hl hP hA hS h1 h2) (fun q => kf q _ _ _ _ _ _ _ _ _ _ _ _ _ _ C _ _ _ _ _ hl hP hA hS h1 h2)
theorem nk_ifgt {x : Int32} {off : Int} {tgt : Nat} (hd : decode μ.2.1 pc = .ok (.ifCond .gt off, 3)) (ht : (pc : Int) + off = (tgt : Int)) (kt : 0 < x → nk_J G μ d Φ bc bs tgt L st H) (kf : ¬ 0 < x → nk_J G μ d Φ bc bs (pc + 3) L st H) : nk_J G μ d Φ bc bs pc L (.int x :: st) H := by
  intro p l e R s m args below meth c mc ms A Q C Hc locs cells slots ls hl hP hA hS h1 h2
  exact lv_if_gt C.1 C.2.1 hd ht (fun q => kt q _ _ _ _ _ _ _ _ _ _ _ _ _ _ C _ _ _ _ _ hl hP hA hS h1 h2) (fun q => kf q _ _ _ _ _ _ _ _ _ _ _ _ _ _ C _ _ _ _ _ hl hP hA hS h1 h2)
theorem nk_ifle {x : Int32} {off : Int} {tgt : Nat} (hd : decode μ.2.1 pc = .ok (.ifCond .le off, 3)) (ht : (pc : Int) + off = (tgt : Int)) (kt : x ≤ 0 → nk_J G μ d Φ bc bs tgt L st H) (kf : ¬ x ≤ 0 → nk_J G μ d Φ bc bs (pc + 3) L st H) : nk_J G μ d Φ bc bs pc L (.int x :: st) H := by
  intro p l e R s m args below meth c mc ms A Q C Hc locs cells slots ls hl hP hA hS h1 h2
  exact lv_if_le C.1 C.2.1 hd ht (fun q => kt q _ _ _ _ _ _ _ _ _ _ _ _ _ _ C _ _ _ _ _ hl hP hA hS h1 h2) (fun q => kf q _ _ _ _ _ _ _ _ _ _ _ _ _ _ C _ _ _ _ _ hl hP hA hS h1 h2)
theorem nk_icmpeq {x y : Int32} {off : Int} {tgt : Nat} (hd : decode μ.2.1 pc = .ok (.if_icmp .eq off, 3)) (ht : (pc : Int) + off = (tgt : Int)) (kt : x = y → nk_J G μ d Φ bc bs tgt L st H) (kf : ¬ x = y → nk_J G μ d Φ bc bs (pc + 3) L st H) : nk_J G μ d Φ bc bs pc L (.int y :: .int x :: st) H := by
  intro p l e R s m args below meth c mc ms A Q C Hc locs cells slots ls hl hP hA hS h1 h2
  exact lv_icmp_eq C.1 C.2.1 hd ht (fun q => kt q _ _ _ _ _ _ _ _ _ _ _ _ _ _ C _ _ _ _ _ hl hP hA hS h1 h2) (fun q => kf q _ _ _ _ _ _ _ _ _ _ _ _ _ _ C _ _ _ _ _ hl hP hA hS h1 h2)
theorem nk_icmpne {x y : Int32} {off : Int} {tgt : Nat} (hd : decode μ.2.1 pc = .ok (.if_icmp .ne off, 3)) (ht : (pc : Int) + off = (tgt : Int)) (kt : ¬ x = y → nk_J G μ d Φ bc bs tgt L st H) (kf : x = y → nk_J G μ d Φ bc bs (pc + 3) L st H) : nk_J G μ d Φ bc bs pc L (.int y :: .int x :: st) H := by
  intro p l e R s m args below meth c mc ms A Q C Hc locs cells slots ls hl hP hA hS h1 h2
  exact lv_icmp_ne C.1 C.2.1 hd ht (fun q => kt q _ _ _ _ _ _ _ _ _ _ _ _ _ _ C _ _ _ _ _ hl hP hA hS h1 h2) (fun q => kf q _ _ _ _ _ _ _ _ _ _ _ _ _ _ C _ _ _ _ _ hl hP hA hS h1 h2)
theorem nk_icmplt {x y : Int32} {off : Int} {tgt : Nat} (hd : decode μ.2.1 pc = .ok (.if_icmp .lt off, 3)) (ht : (pc : Int) + off = (tgt : Int)) (kt : x < y → nk_J G μ d Φ bc bs tgt L st H) (kf : ¬ x < y → nk_J G μ d Φ bc bs (pc + 3) L st H) : nk_J G μ d Φ bc bs pc L (.int y :: .int x :: st) H := by
  intro p l e R s m args below meth c mc ms A Q C Hc locs cells slots ls hl hP hA hS h1 h2
  exact lv_icmp_lt C.1 C.2.1 hd ht (fun q => kt q _ _ _ _ _ _ _ _ _ _ _ _ _ _ C _ _ _ _ _ hl hP hA hS h1 h2) (fun q => kf q _ _ _ _ _ _ _ _ _ _ _ _ _ _ C _ _ _ _ _ hl hP hA hS h1 h2)
theorem nk_icmpge {x y : Int32} {off : Int} {tgt : Nat} (hd : decode μ.2.1 pc = .ok (.if_icmp .ge off, 3)) (ht : (pc : Int) + off = (tgt : Int)) (kt : y ≤ x → nk_J G μ d Φ bc bs tgt L st H) (kf : ¬ y ≤ x → nk_J G μ d Φ bc bs (pc + 3) L st H) : nk_J G μ d Φ bc bs pc L (.int y :: .int x :: st) H := by
  intro p l e R s m args below meth c mc ms A Q C Hc locs cells slots ls hl hP hA hS h1 h2
  exact lv_icmp_ge C.1 C.2.1 hd ht (fun q => kt q _ _ _ _ _ _ _ _ _ _ _ _ _ _ C _ _ _ _ _ hl hP hA hS h1 h2) (fun q => kf q _ _ _ _ _ _ _ _ _ _ _ _ _ _ C _ _ _ _ _ hl hP hA hS h1 h2)
theorem nk_icmpgt {x y : Int32} {off : Int} {tgt : Nat} (hd : decode μ.2.1 pc = .ok (.if_icmp .gt off, 3)) (ht : (pc : Int) + off = (tgt : Int)) (kt : y < x → nk_J G μ d Φ bc bs tgt L st H) (kf : ¬ y < x → nk_J G μ d Φ bc bs (pc + 3) L st H) : nk_J G μ d Φ bc bs pc L (.int y :: .int x :: st) H := by
  intro p l e R s m args below meth c mc ms A Q C Hc locs cells slots ls hl hP hA hS h1 h2
  exact lv_icmp_gt C.1 C.2.1 hd ht (fun q => kt q _ _ _ _ _ _ _ _ _ _ _ _ _ _ C _ _ _ _ _ hl hP hA hS h1 h2) (fun q => kf q _ _ _ _ _ _ _ _ _ _ _ _ _ _ C _ _ _ _ _ hl hP hA hS h1 h2)
theorem nk_icmple {x y : Int32} {off : Int} {tgt : Nat} (hd : decode μ.2.1 pc = .ok (.if_icmp .le off, 3)) (ht : (pc : Int) + off = (tgt : Int)) (kt : x ≤ y → nk_J G μ d Φ bc bs tgt L st H) (kf : ¬ x ≤ y → nk_J G μ d Φ bc bs (pc + 3) L st H) : nk_J G μ d Φ bc bs pc L (.int y :: .int x :: st) H := by
  intro p l e R s m args below meth c mc ms A Q C Hc locs cells slots ls hl hP hA hS h1 h2
  exact lv_icmp_le C.1 C.2.1 hd ht (fun q => kt q _ _ _ _ _ _ _ _ _ _ _ _ _ _ C _ _ _ _ _ hl hP hA hS h1 h2) (fun q => kf q _ _ _ _ _ _ _ _ _ _ _ _ _ _ C _ _ _ _ _ hl hP hA hS h1 h2)
theorem nk_goto  {off : Int} {tgt : Nat} (hd : decode μ.2.1 pc = .ok (.goto off, 3)) (ht : (pc : Int) + off = (tgt : Int)) (k : nk_J G μ d Φ bc bs tgt L st H) : nk_J G μ d Φ bc bs pc L (st) H := by
  intro p l e R s m args below meth c mc ms A Q C Hc locs cells slots ls hl hP hA hS h1 h2
  exact lv_goto C.1 C.2.1 hd ht (k _ _ _ _ _ _ _ _ _ _ _ _ _ _ C _ _ _ _ _ hl hP hA hS h1 h2)
theorem nk_ifnonnullR {x : Nat} {off : Int} {tgt : Nat} (hd : decode μ.2.1 pc = .ok (.ifnonnull off, 3)) (ht : (pc : Int) + off = (tgt : Int)) (k : nk_J G μ d Φ bc bs tgt L st H) : nk_J G μ d Φ bc bs pc L (.ref x :: st) H := by
  intro p l e R s m args below meth c mc ms A Q C Hc locs cells slots ls hl hP hA hS h1 h2
  exact lv_ifnonnull C.1 C.2.1 hd ht (k _ _ _ _ _ _ _ _ _ _ _ _ _ _ C _ _ _ _ _ hl hP hA hS h1 h2)
theorem nk_ifnullN  {off : Int} {tgt : Nat} (hd : decode μ.2.1 pc = .ok (.ifnull off, 3)) (ht : (pc : Int) + off = (tgt : Int)) (k : nk_J G μ d Φ bc bs tgt L st H) : nk_J G μ d Φ bc bs pc L (.null :: st) H := by
  intro p l e R s m args below meth c mc ms A Q C Hc locs cells slots ls hl hP hA hS h1 h2
  exact lv_ifnullN C.1 C.2.1 hd ht (k _ _ _ _ _ _ _ _ _ _ _ _ _ _ C _ _ _ _ _ hl hP hA hS h1 h2)
theorem nk_ifnullR {x : Nat} {off : Int} (hd : decode μ.2.1 pc = .ok (.ifnull off, 3)) (k : nk_J G μ d Φ bc bs (pc + 3) L st H) : nk_J G μ d Φ bc bs pc L (.ref x :: st) H := by
  intro p l e R s m args below meth c mc ms A Q C Hc locs cells slots ls hl hP hA hS h1 h2
  exact lv_ifnull C.1 C.2.1 hd (k _ _ _ _ _ _ _ _ _ _ _ _ _ _ C _ _ _ _ _ hl hP hA hS h1 h2)
theorem nk_ifnonnullN  {off : Int} (hd : decode μ.2.1 pc = .ok (.ifnonnull off, 3)) (k : nk_J G μ d Φ bc bs (pc + 3) L st H) : nk_J G μ d Φ bc bs pc L (.null :: st) H := by
  intro p l e R s m args below meth c mc ms A Q C Hc locs cells slots ls hl hP hA hS h1 h2
  exact lv_ifnonnullN C.1 C.2.1 hd (k _ _ _ _ _ _ _ _ _ _ _ _ _ _ C _ _ _ _ _ hl hP hA hS h1 h2)
theorem nk_lcmp {x y : Int64} (hd : decode μ.2.1 pc = .ok (.lcmp, 1)) (k : nk_J G μ d Φ bc bs (pc + 1) L (.int (lg_cmp x y) :: st) H) : nk_J G μ d Φ bc bs pc L (.long y :: .long x :: st) H := by
  intro p l e R s m args below meth c mc ms A Q C Hc locs cells slots ls hl hP hA hS h1 h2
  exact W.lcmp C.1 C.2.1 hd (k _ _ _ _ _ _ _ _ _ _ _ _ _ _ C _ _ _ _ _ hl hP hA hS h1 h2)
theorem nk_lookup {dflt : Int} {ps : Array (Int × Int)} {len : Nat} {x : Int32} {off : Int} {tgt : Nat} (hd : decode μ.2.1 pc = .ok (.lookupswitch dflt ps, len)) (hp : (ps.toList.zip (ps.toList.drop 1)).all (fun (a, next) => a.1 < next.1) = true) (ho : Op.lookupswitch.offset ps.toList dflt x.toInt = off) (ht : (pc : Int) + off = (tgt : Int)) (k : nk_J G μ d Φ bc bs tgt L st H) : nk_J G μ d Φ bc bs pc L (.int x :: st) H := by
  intro p l e R s m args below meth c mc ms A Q C Hc locs cells slots ls hl hP hA hS h1 h2
  exact lv_lookup C.1 C.2.1 hd hp ho ht (k _ _ _ _ _ _ _ _ _ _ _ _ _ _ C _ _ _ _ _ hl hP hA hS h1 h2)
theorem nk_tableOut {dflt lo hi : Int} {offs : Array Int} {len : Nat} {x : Int32} {tgt : Nat} (hd : decode μ.2.1 pc = .ok (.tableswitch dflt lo hi offs, len)) (h : x.toInt < lo ∨ hi < x.toInt) (ht : (pc : Int) + dflt = (tgt : Int)) (k : nk_J G μ d Φ bc bs tgt L st H) : nk_J G μ d Φ bc bs pc L (.int x :: st) H := by
  intro p l e R s m args below meth c mc ms A Q C Hc locs cells slots ls hl hP hA hS h1 h2
  exact lv_tableOut C.1 C.2.1 hd h ht (k _ _ _ _ _ _ _ _ _ _ _ _ _ _ C _ _ _ _ _ hl hP hA hS h1 h2)
theorem nk_tableIn {dflt lo hi : Int} {offs : Array Int} {len : Nat} {x : Int32} {off : Int} {tgt : Nat} (hd : decode μ.2.1 pc = .ok (.tableswitch dflt lo hi offs, len)) (ha : ¬ x.toInt < lo) (hb : ¬ hi < x.toInt) (ho : offs[(x.toInt - lo).toNat]? = some off) (ht : (pc : Int) + off = (tgt : Int)) (k : nk_J G μ d Φ bc bs tgt L st H) : nk_J G μ d Φ bc bs pc L (.int x :: st) H := by
  intro p l e R s m args below meth c mc ms A Q C Hc locs cells slots ls hl hP hA hS h1 h2
  exact lv_tableIn C.1 C.2.1 hd ha hb ho ht (k _ _ _ _ _ _ _ _ _ _ _ _ _ _ C _ _ _ _ _ hl hP hA hS h1 h2)
theorem nk_ldc {index : Nat} {v : Int32} (hw : Cond.constant μ.1.cls index v ∈ nk_tw) (hd : decode μ.2.1 pc = .ok (.ldc index, 2)) (k : nk_J G μ d Φ bc bs (pc + 2) L (.int v :: st) H) : nk_J G μ d Φ bc bs pc L st H := by
  intro p l e R s m args below meth c mc ms A Q C Hc locs cells slots ls hl hP hA hS h1 h2
  exact lv_ldc C.1 C.2.1 C.2.2.2.1 (C.2.2.2.2.2.1 _ hw) hd (k _ _ _ _ _ _ _ _ _ _ _ _ _ _ C _ _ _ _ _ hl hP hA hS h1 h2)
theorem nk_ldcw {index : Nat} {v : Int32} (hw : Cond.constant μ.1.cls index v ∈ nk_tw) (hd : decode μ.2.1 pc = .ok (.ldc_w index, 3)) (k : nk_J G μ d Φ bc bs (pc + 3) L (.int v :: st) H) : nk_J G μ d Φ bc bs pc L st H := by
  intro p l e R s m args below meth c mc ms A Q C Hc locs cells slots ls hl hP hA hS h1 h2
  exact lv_ldcw C.1 C.2.1 C.2.2.2.1 (C.2.2.2.2.2.1 _ hw) hd (k _ _ _ _ _ _ _ _ _ _ _ _ _ _ C _ _ _ _ _ hl hP hA hS h1 h2)
theorem nk_ldc2 {index : Nat} {v : Int64} (hw : Cond.constantLong μ.1.cls index v ∈ nk_tw) (hd : decode μ.2.1 pc = .ok (.ldc2_w index, 3)) (k : nk_J G μ d Φ bc bs (pc + 3) L (.long v :: st) H) : nk_J G μ d Φ bc bs pc L st H := by
  intro p l e R s m args below meth c mc ms A Q C Hc locs cells slots ls hl hP hA hS h1 h2
  exact lv_ldc2 C.1 C.2.1 C.2.2.2.1 (C.2.2.2.2.2.1 _ hw) hd (k _ _ _ _ _ _ _ _ _ _ _ _ _ _ C _ _ _ _ _ hl hP hA hS h1 h2)
/-- the returns -/
theorem nk_ret {ins : Instr} {r : Option Value} (hd : decode μ.2.1 pc = .ok (ins, 1)) (hr : nk_rO μ.2.2.2 ins r) (hf : Φ r H) : nk_J G μ d Φ bc bs pc L r.toList H := by
  intro p l e R s m args below meth c mc ms A Q C Hc locs cells slots ls hl hP hA hS h1 h2
  exact W.widen (by omega) (by omega) (C.2.2.2.2.2.2.2.2.2.2.2 pc ls Hc locs ins r H hd hr hf hP hA hS)
theorem nk_ireturn {v : Int32} (hd : decode μ.2.1 pc = .ok (.ireturn, 1)) (hr : μ.2.2.2 = some .int) (hf : Φ (some (.int v)) H) : nk_J G μ d Φ bc bs pc L [.int v] H :=
  nk_ret hd (Or.inr (Or.inl ⟨.int, v, hr, rfl, rfl, rfl⟩)) hf
theorem nk_zreturn {v : Int32} (hd : decode μ.2.1 pc = .ok (.ireturn, 1)) (hr : μ.2.2.2 = some .boolean) (hn : narrow .boolean (.int v) = .int v) (hf : Φ (some (.int v)) H) : nk_J G μ d Φ bc bs pc L [.int v] H :=
  nk_ret hd (Or.inr (Or.inl ⟨.boolean, v, hr, rfl, hn, rfl⟩)) hf
theorem nk_lreturn {v : Int64} (hd : decode μ.2.1 pc = .ok (.lreturn, 1)) (hr : μ.2.2.2 = some .long) (hf : Φ (some (.long v)) H) : nk_J G μ d Φ bc bs pc L [.long v] H :=
  nk_ret hd (Or.inr (Or.inr (Or.inl ⟨v, hr, rfl, rfl⟩))) hf
theorem nk_vreturn (hd : decode μ.2.1 pc = .ok (.return_, 1)) (hr : μ.2.2.2 = none) (hf : Φ none H) : nk_J G μ d Φ bc bs pc L [] H :=
  nk_ret hd (Or.inl ⟨hr, rfl, rfl⟩) hf
theorem nk_areturn {a : Nat} {n : String} (hd : decode μ.2.1 pc = .ok (.areturn, 1)) (hr : μ.2.2.2 = some (.object n)) (hf : Φ (some (.ref a)) H) : nk_J G μ d Φ bc bs pc L [.ref a] H :=
  nk_ret hd (Or.inr (Or.inr (Or.inr ⟨_, _, hr, Or.inl ⟨n, rfl⟩, Or.inr ⟨a, rfl⟩, rfl, rfl⟩))) hf
theorem nk_areturnN {n : String} (hd : decode μ.2.1 pc = .ok (.areturn, 1)) (hr : μ.2.2.2 = some (.object n)) (hf : Φ (some .null) H) : nk_J G μ d Φ bc bs pc L [.null] H :=
  nk_ret hd (Or.inr (Or.inr (Or.inr ⟨_, _, hr, Or.inl ⟨n, rfl⟩, Or.inl rfl, rfl, rfl⟩))) hf
/-- the budget may be cut; the heap, the stack, the locals told otherwise -/
theorem nk_J.less {bc' bs' : Nat} (h1 : bc' ≤ bc) (h2 : bs' ≤ bs) (k : nk_J G μ d Φ bc' bs' pc L st H) : nk_J G μ d Φ bc bs pc L st H :=
  fun p l e R s m args below meth c mc ms A Q C Hc locs cells slots ls hl hP hA hS g1 g2 => k p l e R s m args below meth c mc ms A Q C Hc locs cells slots ls hl hP hA hS (by omega) (by omega)
theorem nk_J.to {L' : List (Option Value)} {st' : List Value} {H' : nk_AH} (k : nk_J G μ d Φ bc bs pc L' st' H') (hL : L = L') (hst : st = st') (hH : H = H') : nk_J G μ d Φ bc bs pc L st H := by
  subst hL; subst hst; subst hH; exact k
end NKR
