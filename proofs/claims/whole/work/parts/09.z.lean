/-! stores into locals, told by the list alone (nk_s1, nk_s2 of part 03 reduce dearly when nested) -/
def nk_k2 (a : Option Value) : Option Value := match a with
  | some (.long _) => none
  | some (.double _) => none
  | x => x
def nk_t1 : List (Option Value) → Nat → Value → List (Option Value)
  | [], _, _ => []
  | _ :: l, 0, v => some v :: l
  | a :: l, 1, v => nk_k2 a :: nk_t1 l 0 v
  | a :: l, i + 2, v => a :: nk_t1 l (i + 1) v
def nk_tn : List (Option Value) → Nat → List (Option Value)
  | [], _ => []
  | _ :: l, 0 => none :: l
  | a :: l, i + 1 => a :: nk_tn l i
def nk_t2 (L : List (Option Value)) (i : Nat) (v : Value) : List (Option Value) := nk_tn (nk_t1 L i v) (i + 1)
theorem nk_tn_eq : ∀ (L : List (Option Value)) (i : Nat), nk_tn L i = L.set i none
  | [], _ => rfl
  | _ :: _, 0 => rfl
  | a :: l, i + 1 => by rw [nk_tn, nk_tn_eq l i]; rfl
theorem nk_t1_at : ∀ (L : List (Option Value)) (i j : Nat) (v w : Value), (nk_t1 L i v)[j]? = some (some w) → (j = i ∧ w = v) ∨ (j ≠ i ∧ L[j]? = some (some w) ∧ ¬ (j + 1 = i ∧ w.category = 2))
  | [], _, _, _, _, h => by cases h
  | a :: l, 0, 0, v, w, h => by cases h; exact Or.inl ⟨rfl, rfl⟩
  | a :: l, 0, j + 1, v, w, h => Or.inr ⟨by omega, h, by omega⟩
  | a :: l, 1, 0, v, w, h => by
    refine Or.inr ⟨by omega, ?_⟩
    have h : nk_k2 a = some w := Option.some.inj h
    unfold nk_k2 at h
    split at h
    · cases h
    · cases h
    · rename_i h1 h2
      subst h
      refine ⟨rfl, fun z => ?_⟩
      cases w with
      | long x => exact h1 x rfl
      | double x => exact h2 x rfl
      | _ => cases z.2
  | a :: l, 1, j + 1, v, w, h => by
    have h : (nk_t1 l 0 v)[j]? = some (some w) := h
    rcases nk_t1_at l 0 j v w h with ⟨rfl, rfl⟩ | ⟨h1, h2, h3⟩
    · exact Or.inl ⟨rfl, rfl⟩
    · exact Or.inr ⟨by omega, h2, by omega⟩
  | a :: l, i + 2, 0, v, w, h => Or.inr ⟨by omega, h, by omega⟩
  | a :: l, i + 2, j + 1, v, w, h => by
    have h : (nk_t1 l (i + 1) v)[j]? = some (some w) := h
    rcases nk_t1_at l (i + 1) j v w h with ⟨rfl, rfl⟩ | ⟨h1, h2, h3⟩
    · exact Or.inl ⟨rfl, rfl⟩
    · exact Or.inr ⟨by omega, h2, fun z => h3 ⟨by omega, z.2⟩⟩
theorem nk_t1_len : ∀ (L : List (Option Value)) (i : Nat) (v : Value), (nk_t1 L i v).length = L.length
  | [], _, _ => rfl
  | _ :: _, 0, _ => rfl
  | a :: l, 1, v => by rw [nk_t1, List.length_cons, nk_t1_len l 0 v, List.length_cons]
  | a :: l, i + 2, v => by rw [nk_t1, List.length_cons, nk_t1_len l (i + 1) v, List.length_cons]
theorem nk_L.t1 {ls' : Array Slot} {n i : Nat} {L : List (Option Value)} {v : Value} (hL : L.length = n) (h : lv_has ls' n ((i, v) :: (nk_al L).filter (fun q => !(q.1 == i) && !(q.1 + 1 == i && q.2.category == 2)))) : nk_L ls' n (nk_t1 L i v) := by
  refine ⟨h.1, by rw [nk_t1_len]; exact hL, h.2.1, fun j w hj => ?_⟩
  rcases nk_t1_at L i j v w hj with ⟨rfl, rfl⟩ | ⟨a, b, c⟩
  · exact h.2.2 _ List.mem_cons_self
  · refine h.2.2 (j, w) (List.mem_cons_of_mem _ (List.mem_filter.mpr ⟨nk_al_mem.mpr b, ?_⟩))
    simp only [Bool.and_eq_true, Bool.not_eq_true', beq_eq_false_iff_ne, ne_eq, Bool.and_eq_false_iff]
    refine ⟨a, ?_⟩
    by_cases z : j + 1 = i
    · exact Or.inr (fun q => c ⟨z, q⟩)
    · exact Or.inl z
theorem nk_L.t2 {ls' : Array Slot} {n i : Nat} {L : List (Option Value)} {v : Value} (hL : L.length = n) (h : lv_has ls' n ((i, v) :: (nk_al L).filter (fun q => !(q.1 == i) && (!(q.1 == i + 1) && !(q.1 + 1 == i && q.2.category == 2))))) : nk_L ls' n (nk_t2 L i v) := by
  refine ⟨h.1, by rw [nk_t2, nk_tn_eq, List.length_set, nk_t1_len]; exact hL, h.2.1, fun j w hj => ?_⟩
  rw [nk_t2, nk_tn_eq] at hj
  by_cases q : i + 1 = j
  · subst q
    rw [List.getElem?_set] at hj
    simp at hj
  · rw [List.getElem?_set_ne q] at hj
    rcases nk_t1_at L i j v w hj with ⟨rfl, rfl⟩ | ⟨a, b, c⟩
    · exact h.2.2 _ List.mem_cons_self
    · refine h.2.2 (j, w) (List.mem_cons_of_mem _ (List.mem_filter.mpr ⟨nk_al_mem.mpr b, ?_⟩))
      simp only [Bool.and_eq_true, Bool.not_eq_true', beq_eq_false_iff_ne, ne_eq, Bool.and_eq_false_iff]
      refine ⟨a, fun z => q z.symm, ?_⟩
      by_cases z : j + 1 = i
      · exact Or.inr (fun q => c ⟨z, q⟩)
      · exact Or.inl z
section NKT
variable {G : nk_EG} {μ : nk_MI} {d : Nat} {Φ : Option Value → nk_AH → Prop} {bc bs pc : Nat} {L : List (Option Value)} {st : List Value} {H : nk_AH}
theorem nk_istore_nT {k0 : Fin 4} {i : Nat} {x : Int32} (hd : decode μ.2.1 pc = .ok (.istore_n k0, 1)) (hi : (k0 : Nat) = i) (hn : i < μ.2.2.1) (k : nk_J G μ d Φ bc bs (pc + 1) (nk_t1 L i (.int x)) st H) : nk_J G μ d Φ bc bs pc L (.int x :: st) H := by
  intro p l e R s m args below meth c mc ms A Q C Hc locs cells slots ls hl hP hA hS h1 h2
  exact lv_istore_n C.1 C.2.1 hd hi hl.has hn rfl (fun ls' hl' => k _ _ _ _ _ _ _ _ _ _ _ _ _ _ C _ _ _ _ _ (nk_L.t1 hl.2.1 hl') hP hA hS h1 h2)
theorem nk_istoreT {i : Nat} {x : Int32} (hd : decode μ.2.1 pc = .ok (.istore i, 2))  (hn : i < μ.2.2.1) (k : nk_J G μ d Φ bc bs (pc + 2) (nk_t1 L i (.int x)) st H) : nk_J G μ d Φ bc bs pc L (.int x :: st) H := by
  intro p l e R s m args below meth c mc ms A Q C Hc locs cells slots ls hl hP hA hS h1 h2
  exact lv_istore C.1 C.2.1 hd  hl.has hn rfl (fun ls' hl' => k _ _ _ _ _ _ _ _ _ _ _ _ _ _ C _ _ _ _ _ (nk_L.t1 hl.2.1 hl') hP hA hS h1 h2)
theorem nk_lstore_nT {k0 : Fin 4} {i : Nat} {x : Int64} (hd : decode μ.2.1 pc = .ok (.lstore_n k0, 1)) (hi : (k0 : Nat) = i) (hn : i + 1 < μ.2.2.1) (k : nk_J G μ d Φ bc bs (pc + 1) (nk_t2 L i (.long x)) st H) : nk_J G μ d Φ bc bs pc L (.long x :: st) H := by
  intro p l e R s m args below meth c mc ms A Q C Hc locs cells slots ls hl hP hA hS h1 h2
  exact lv_lstore_n C.1 C.2.1 hd hi hl.has hn rfl (fun ls' hl' => k _ _ _ _ _ _ _ _ _ _ _ _ _ _ C _ _ _ _ _ (nk_L.t2 hl.2.1 hl') hP hA hS h1 h2)
theorem nk_lstoreT {i : Nat} {x : Int64} (hd : decode μ.2.1 pc = .ok (.lstore i, 2))  (hn : i + 1 < μ.2.2.1) (k : nk_J G μ d Φ bc bs (pc + 2) (nk_t2 L i (.long x)) st H) : nk_J G μ d Φ bc bs pc L (.long x :: st) H := by
  intro p l e R s m args below meth c mc ms A Q C Hc locs cells slots ls hl hP hA hS h1 h2
  exact lv_lstore C.1 C.2.1 hd  hl.has hn rfl (fun ls' hl' => k _ _ _ _ _ _ _ _ _ _ _ _ _ _ C _ _ _ _ _ (nk_L.t2 hl.2.1 hl') hP hA hS h1 h2)
theorem nk_astore_nT {k0 : Fin 4} {i : Nat} {x : Nat} (hd : decode μ.2.1 pc = .ok (.astore_n k0, 1)) (hi : (k0 : Nat) = i) (hn : i < μ.2.2.1) (k : nk_J G μ d Φ bc bs (pc + 1) (nk_t1 L i (.ref x)) st H) : nk_J G μ d Φ bc bs pc L (.ref x :: st) H := by
  intro p l e R s m args below meth c mc ms A Q C Hc locs cells slots ls hl hP hA hS h1 h2
  exact lv_astore_n C.1 C.2.1 hd hi hl.has hn rfl (fun ls' hl' => k _ _ _ _ _ _ _ _ _ _ _ _ _ _ C _ _ _ _ _ (nk_L.t1 hl.2.1 hl') hP hA hS h1 h2)
theorem nk_astoreT {i : Nat} {x : Nat} (hd : decode μ.2.1 pc = .ok (.astore i, 2))  (hn : i < μ.2.2.1) (k : nk_J G μ d Φ bc bs (pc + 2) (nk_t1 L i (.ref x)) st H) : nk_J G μ d Φ bc bs pc L (.ref x :: st) H := by
  intro p l e R s m args below meth c mc ms A Q C Hc locs cells slots ls hl hP hA hS h1 h2
  exact lv_astore C.1 C.2.1 hd  hl.has hn rfl (fun ls' hl' => k _ _ _ _ _ _ _ _ _ _ _ _ _ _ C _ _ _ _ _ (nk_L.t1 hl.2.1 hl') hP hA hS h1 h2)
theorem nk_astore_nNT {k0 : Fin 4} {i : Nat} (hd : decode μ.2.1 pc = .ok (.astore_n k0, 1)) (hi : (k0 : Nat) = i) (hn : i < μ.2.2.1) (k : nk_J G μ d Φ bc bs (pc + 1) (nk_t1 L i (.null)) st H) : nk_J G μ d Φ bc bs pc L (.null :: st) H := by
  intro p l e R s m args below meth c mc ms A Q C Hc locs cells slots ls hl hP hA hS h1 h2
  exact lv_astore_nN C.1 C.2.1 hd hi hl.has hn rfl (fun ls' hl' => k _ _ _ _ _ _ _ _ _ _ _ _ _ _ C _ _ _ _ _ (nk_L.t1 hl.2.1 hl') hP hA hS h1 h2)
theorem nk_astoreNT {i : Nat} (hd : decode μ.2.1 pc = .ok (.astore i, 2))  (hn : i < μ.2.2.1) (k : nk_J G μ d Φ bc bs (pc + 2) (nk_t1 L i (.null)) st H) : nk_J G μ d Φ bc bs pc L (.null :: st) H := by
  intro p l e R s m args below meth c mc ms A Q C Hc locs cells slots ls hl hP hA hS h1 h2
  exact lv_astoreN C.1 C.2.1 hd  hl.has hn rfl (fun ls' hl' => k _ _ _ _ _ _ _ _ _ _ _ _ _ _ C _ _ _ _ _ (nk_L.t1 hl.2.1 hl') hP hA hS h1 h2)
theorem nk_iincT {i : Nat} {n : Int} {x v : Int32} (hd : decode μ.2.1 pc = .ok (.iinc i n, 3)) (hx : L[i]? = some (some (.int x))) (hv : x + Int32.ofInt n = v) (hn : i < μ.2.2.1) (k : nk_J G μ d Φ bc bs (pc + 3) (nk_t1 L i (.int v)) st H) : nk_J G μ d Φ bc bs pc L st H := by
  intro p l e R s m args below meth c mc ms A Q C Hc locs cells slots ls hl hP hA hS h1 h2
  obtain ⟨q, hq⟩ := List.getElem?_of_mem (nk_al_mem.mpr hx)
  exact lv_iinc C.1 C.2.1 hd hl.has hq hv hn rfl (fun ls' hl' => k _ _ _ _ _ _ _ _ _ _ _ _ _ _ C _ _ _ _ _ (nk_L.t1 hl.2.1 hl') hP hA hS h1 h2)
theorem nk_astore_nQT {k0 : Fin 4} {i : Nat} {r : Option Nat} (hd : decode μ.2.1 pc = .ok (.astore_n k0, 1)) (hi : (k0 : Nat) = i) (hn : i < μ.2.2.1) (k : nk_J G μ d Φ bc bs (pc + 1) (nk_t1 L i (va_rf r)) st H) : nk_J G μ d Φ bc bs pc L (va_rf r :: st) H := by
  cases r with
  | none => exact nk_astore_nNT hd hi hn k
  | some x => exact nk_astore_nT hd hi hn k
theorem nk_astoreQT {i : Nat} {r : Option Nat} (hd : decode μ.2.1 pc = .ok (.astore i, 2)) (hn : i < μ.2.2.1) (k : nk_J G μ d Φ bc bs (pc + 2) (nk_t1 L i (va_rf r)) st H) : nk_J G μ d Φ bc bs pc L (va_rf r :: st) H := by
  cases r with
  | none => exact nk_astoreNT hd hn k
  | some x => exact nk_astoreT hd hn k
end NKT
