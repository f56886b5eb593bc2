/-! rows that read or write the heap -/
def nk_fl (own : String) (index ci k : Nat) : Prop := ∃ (C : String) (T : u_T) (N : Nat), vwCl[ci]? = some (C, T, N) ∧ (∀ w ∈ u_ws C T N, w ∈ nk_tw) ∧ k < N ∧ Cond.fieldLink own index (T k).1 (T k).2.1 (T k).2.2.1 ∈ nk_tw
def nk_fp (own : String) (index ci k : Nat) (ty : FieldType) (fin : Bool) : Prop := ∃ (C : String) (T : u_T) (N : Nat) (ty0 : Nat → FieldType), vwCl[ci]? = some (C, T, N) ∧ (∀ w ∈ u_ws C T N, w ∈ nk_tw) ∧ (∀ k, k < N → parseFieldDescriptor (T k).2.2.1 = some (ty0 k)) ∧ (∀ a, a < N → ∀ b, b < N → a ≠ b → (T a).2.1 ≠ (T b).2.1) ∧ k < N ∧ Cond.fieldLink own index (T k).1 (T k).2.1 (T k).2.2.1 ∈ nk_tw ∧ (T k).2.2.2 = fin ∧ parseFieldDescriptor (T k).2.2.1 = some ty ∧ (T k).1 = C
def nk_nw (own : String) (index ci N : Nat) (fs : List Value) : Prop := ∃ (C : String) (T : u_T) (ty0 : Nat → FieldType), vwCl[ci]? = some (C, T, N) ∧ (∀ w ∈ u_ws C T N, w ∈ nk_tw) ∧ (∀ k, k < N → parseFieldDescriptor (T k).2.2.1 = some (ty0 k)) ∧ Cond.classLink own index C ∈ nk_tw ∧ Cond.instantiable C N ∈ nk_tw ∧ Cond.initialized C ∈ nk_tw ∧ ∀ j, j < N → defaultValue (ty0 j) = vp_V fs j
theorem nk_tys {G : nk_EG} {t0 : Nat} {ty : FieldType} (h : nk_Ty[t0]? = some ty) : (nk_Ts G)[t0]? = some (G.2.1 ty, ty) := by
  rw [List.getElem?_map, h]; rfl
section NKH
variable {G : nk_EG} {μ : nk_MI} {d : Nat} {Φ : Option Value → nk_AH → Prop} {bc bs pc : Nat} {L : List (Option Value)} {st : List Value} {H : nk_AH} {a : Nat}
theorem nk_getf {index ci i : Nat} {fs : List Value} {v : Value} (f : nk_fl μ.1.cls index ci i) (hd : decode μ.2.1 pc = .ok (.getfield index, 3)) (hH : H a = some (.inr (ci, fs))) (hv : fs[i]? = some v) (k : nk_J G μ d Φ bc bs (pc + 3) L (v :: st) H) : nk_J G μ d Φ bc bs pc L (.ref a :: st) H := by
  intro p l e R s m args below meth c mc ms A Q C Hc locs cells slots ls hl hP hA hS h1 h2
  obtain ⟨Cn, T, N, f1, f2, f3, f4⟩ := f
  have hw : va_P G.1 vwCl [(a, nk_e G.2.1 (.inr (ci, fs)))] Hc := fun k q hk => by
    cases k with
    | zero => cases hk; exact hP a _ hH
    | succ k => cases hk
  exact va_get (D := G.1) C.1 C.2.1 C.2.2.2.2.2.1 f2 C.2.2.2.1 C.2.2.2.2.2.2.2.1 hw 0 rfl f1 i f3 (C.2.2.2.2.2.1 _ f4) (fun _ h9 => h9) hv hd (k _ _ _ _ _ _ _ _ _ _ _ _ _ _ C _ _ _ _ _ hl hP hA hS h1 h2)
theorem nk_putf {index ci i : Nat} {fs fs' : List Value} {v : Value} {ty : FieldType} (f : nk_fp μ.1.cls index ci i ty false) (hd : decode μ.2.1 pc = .ok (.putfield index, 3)) (hH : H a = some (.inr (ci, fs))) (hn : narrow ty v = v) (hfit : fits ty v = true) (hi : i < fs.length) (hfs : fs.set i v = fs') (k : nk_J G μ d Φ bc bs (pc + 3) L st (nk_u H a (.inr (ci, fs')))) : nk_J G μ d Φ bc bs pc L (v :: .ref a :: st) H := by
  intro p l e R s m args below meth c mc ms A Q C Hc locs cells slots ls hl hP hA hS h1 h2
  subst hfs
  obtain ⟨Cn, T, N, ty0, f1, f2, f3, f4, f5, f6, f7, f8, f9⟩ := f
  obtain ⟨Ls, n1, n2, n3⟩ := nk_list hP
  obtain ⟨q0, hq⟩ := nk_get (G := G) n2 hH
  have hD : va_D A (va_pl Ls (nk_f G H)) := nk_Dpl n1 (fun b hb => hA b ((n2 b).mp hb))
  exact va_put (D := G.1) C.1 C.2.1 C.2.2.2.2.2.1 f2 ty0 f3 f4 C.2.2.2.1 C.2.2.2.2.2.2.2.1 n3 hD hS q0 hq f1 i f5 (C.2.2.2.2.2.1 _ f6) (fun _ h9 => h9) f7 f8 hn hfit hi hd (fun H1 locs1 gP gD gS =>
    k _ _ _ _ _ _ _ _ _ _ _ _ _ _ C _ _ _ _ _ hl (nk_set (e' := .inr (ci, fs.set i v)) n2 hD hH hq gP) (fun b hb => (nk_u_dom hb).elim (fun z => by rw [z]; exact hA a (by rw [hH]; rfl)) (hA b)) gS h1 h2)
theorem nk_putF {index ci i : Nat} {fs fs' : List Value} {v : Value} {ty : FieldType} (f : nk_fp μ.1.cls index ci i ty true) (hin : μ.1.name = "<init>") (hown : ∀ q, vwCl[ci]? = some q → q.1 = μ.1.cls) (hd : decode μ.2.1 pc = .ok (.putfield index, 3)) (hH : H a = some (.inr (ci, fs))) (hn : narrow ty v = v) (hfit : fits ty v = true) (hi : i < fs.length) (hfs : fs.set i v = fs') (k : nk_J G μ d Φ bc bs (pc + 3) L st (nk_u H a (.inr (ci, fs')))) : nk_J G μ d Φ bc bs pc L (v :: .ref a :: st) H := by
  intro p l e R s m args below meth c mc ms A Q C Hc locs cells slots ls hl hP hA hS h1 h2
  subst hfs
  obtain ⟨Cn, T, N, ty0, f1, f2, f3, f4, f5, f6, f7, f8, f9⟩ := f
  obtain ⟨Ls, n1, n2, n3⟩ := nk_list hP
  obtain ⟨q0, hq⟩ := nk_get (G := G) n2 hH
  have hD : va_D A (va_pl Ls (nk_f G H)) := nk_Dpl n1 (fun b hb => hA b ((n2 b).mp hb))
  exact va_putF (D := G.1) C.1 C.2.1 C.2.2.2.2.2.1 f2 ty0 f3 f4 C.2.2.2.1 C.2.2.2.2.2.2.2.1 n3 hD hS q0 hq f1 i f5 (C.2.2.2.2.2.1 _ f6) (fun _ h9 => h9) f7 (C.2.2.2.2.1.trans hin) (f9.trans (hown _ f1)) f8 hn hfit hi hd (fun H1 locs1 gP gD gS =>
    k _ _ _ _ _ _ _ _ _ _ _ _ _ _ C _ _ _ _ _ hl (nk_set (e' := .inr (ci, fs.set i v)) n2 hD hH hq gP) (fun b hb => (nk_u_dom hb).elim (fun z => by rw [z]; exact hA a (by rw [hH]; rfl)) (hA b)) gS h1 h2)
theorem nk_new {index ci N bc' bs' : Nat} {fs : List Value} (f : nk_nw μ.1.cls index ci N fs) (hd : decode μ.2.1 pc = .ok (.new index, 3)) (hb : bc' + 1 ≤ bc ∧ bs' + N ≤ bs) (k : ∀ q : Nat, H q = none → nk_J G μ d Φ bc' bs' (pc + 3) L (.ref q :: st) (nk_u H q (.inr (ci, fs)))) : nk_J G μ d Φ bc bs pc L st H := by
  intro p l e R s m args below meth c mc ms A Q C Hc locs cells slots ls hl hP hA hS h1 h2
  obtain ⟨Cn, T, ty0, f1, f2, f3, f4, f5, f6, f7⟩ := f
  obtain ⟨Ls, n1, n2, n3⟩ := nk_list hP
  have hD : va_D A (va_pl Ls (nk_f G H)) := nk_Dpl n1 (fun b hb => hA b ((n2 b).mp hb))
  have hr := C.2.2.2.2.2.2.1
  refine va_new (D := G.1) (fs := fs) C.1 C.2.1 C.2.2.2.2.2.1 f2 ty0 f3 C.2.2.2.1 (C.2.2.2.2.2.1 _ f4) (C.2.2.2.2.2.1 _ f5) (C.2.2.2.2.2.1 _ f6) C.2.2.2.2.2.2.2.1 n3 hD hS C.2.2.2.2.2.2.2.2.2.2.1 f1 f7 (by omega) (by omega) hd (fun q H1 gP gD gS => ?_)
  obtain ⟨g1, g2, g3⟩ := nk_push (e := .inr (ci, fs)) n2 gD gP
  exact k q g1 _ _ _ _ _ _ _ _ _ _ _ _ _ _ C _ _ _ _ _ hl g3 (fun b hb => (nk_u_dom hb).elim (fun z => by rw [z]; exact g2) (hA b)) gS (by omega) (by omega)
theorem nk_iald {n : Nat} {f : Nat → Int32} {i : Int32} (hd : decode μ.2.1 pc = .ok (.iaload, 1)) (hH : H a = some (.inl (.int, n, .inl f))) (hin : vp_in i n) (k : nk_J G μ d Φ bc bs (pc + 1) L (.int (f i.toNatClampNeg) :: st) H) : nk_J G μ d Φ bc bs pc L (.int i :: .ref a :: st) H := by
  intro p l e R s m args below meth c mc ms A Q C Hc locs cells slots ls hl hP hA hS h1 h2
  obtain ⟨Ls, n1, n2, n3⟩ := nk_list hP
  obtain ⟨q0, hq⟩ := nk_get (G := G) n2 hH
  exact va_iald C.1 C.2.1 C.2.2.2.2.2.2.2.1 n3 q0 0 hq (nk_tys (t0 := 0) rfl) hin hd (k _ _ _ _ _ _ _ _ _ _ _ _ _ _ C _ _ _ _ _ hl hP hA hS h1 h2)
theorem nk_zald {n : Nat} {f : Nat → Int32} {i : Int32} (hd : decode μ.2.1 pc = .ok (.baload, 1)) (hH : H a = some (.inl (.boolean, n, .inl f))) (hin : vp_in i n) (k : nk_J G μ d Φ bc bs (pc + 1) L (.int (f i.toNatClampNeg) :: st) H) : nk_J G μ d Φ bc bs pc L (.int i :: .ref a :: st) H := by
  intro p l e R s m args below meth c mc ms A Q C Hc locs cells slots ls hl hP hA hS h1 h2
  obtain ⟨Ls, n1, n2, n3⟩ := nk_list hP
  obtain ⟨q0, hq⟩ := nk_get (G := G) n2 hH
  exact va_zald C.1 C.2.1 C.2.2.2.2.2.2.2.1 n3 q0 1 hq (nk_tys (t0 := 1) rfl) hin hd (k _ _ _ _ _ _ _ _ _ _ _ _ _ _ C _ _ _ _ _ hl hP hA hS h1 h2)
theorem nk_aald {n : Nat} {ty : FieldType} {f : Nat → Option Nat} {i : Int32} {v : Value} (t0 : Nat) (ht : nk_Ty[t0]? = some ty) (hr : ty.isReference = true) (hd : decode μ.2.1 pc = .ok (.aaload, 1)) (hH : H a = some (.inl (ty, n, .inr (.inr (.inr (.inr f)))))) (hin : vp_in i n) (hv : va_rf (f i.toNatClampNeg) = v) (k : nk_J G μ d Φ bc bs (pc + 1) L (v :: st) H) : nk_J G μ d Φ bc bs pc L (.int i :: .ref a :: st) H := by
  intro p l e R s m args below meth c mc ms A Q C Hc locs cells slots ls hl hP hA hS h1 h2
  subst hv
  have hlt : i.toNatClampNeg < n := Nat.not_le.mp fun q => hin (Or.inr q)
  have hc : Hc[a]? = some (vp_cell (G.2.1 ty) (n, .inr (.inr (.inr (.inr f))))) := hP a _ hH
  have hK := C.2.2.2.2.2.2.2.1
  exact W.aald (v := va_rf (f i.toNatClampNeg)) (ty := ty) C.1 C.2.1 hc ((hK.2 t0 _ (nk_tys ht)).1 n (fun j => va_rf (f j))) hr (fun q => by cases q) (by show ¬ (i < 0 ∨ (arrV _ _ _).slots.size ≤ _); rw [arrV_size]; exact hin) (by show (arrV _ _ _).slots[_]? = _; rw [arrV_read _ _ hlt]) rfl rfl hd (k _ _ _ _ _ _ _ _ _ _ _ _ _ _ C _ _ _ _ _ hl hP hA hS h1 h2)
theorem nk_iast {n : Nat} {f : Nat → Int32} {i x : Int32} (hd : decode μ.2.1 pc = .ok (.iastore, 1)) (hH : H a = some (.inl (.int, n, .inl f))) (hin : vp_in i n) (k : nk_J G μ d Φ bc bs (pc + 1) L st (nk_u H a (.inl (.int, n, .inl (upd f i.toNatClampNeg x))))) : nk_J G μ d Φ bc bs pc L (.int x :: .int i :: .ref a :: st) H := by
  intro p l e R s m args below meth c mc ms A Q C Hc locs cells slots ls hl hP hA hS h1 h2
  obtain ⟨Ls, n1, n2, n3⟩ := nk_list hP
  obtain ⟨q0, hq⟩ := nk_get (G := G) n2 hH
  have hD : va_D A (va_pl Ls (nk_f G H)) := nk_Dpl n1 (fun b hb => hA b ((n2 b).mp hb))
  exact va_iast C.1 C.2.1 C.2.2.2.2.2.2.2.1 n3 hD hS q0 0 hq (nk_tys (t0 := 0) rfl) hin hd (fun H1 locs1 gP gD gS =>
    k _ _ _ _ _ _ _ _ _ _ _ _ _ _ C _ _ _ _ _ hl (nk_set (e' := .inl (.int, n, .inl (upd f i.toNatClampNeg x))) n2 hD hH hq gP) (fun b hb => (nk_u_dom hb).elim (fun z => by rw [z]; exact hA a (by rw [hH]; rfl)) (hA b)) gS h1 h2)
theorem nk_zast {n : Nat} {f : Nat → Int32} {i x : Int32} (hd : decode μ.2.1 pc = .ok (.bastore, 1)) (hH : H a = some (.inl (.boolean, n, .inl f))) (hin : vp_in i n) (k : nk_J G μ d Φ bc bs (pc + 1) L st (nk_u H a (.inl (.boolean, n, .inl (upd f i.toNatClampNeg (vp_nar .boolean x)))))) : nk_J G μ d Φ bc bs pc L (.int x :: .int i :: .ref a :: st) H := by
  intro p l e R s m args below meth c mc ms A Q C Hc locs cells slots ls hl hP hA hS h1 h2
  obtain ⟨Ls, n1, n2, n3⟩ := nk_list hP
  obtain ⟨q0, hq⟩ := nk_get (G := G) n2 hH
  have hD : va_D A (va_pl Ls (nk_f G H)) := nk_Dpl n1 (fun b hb => hA b ((n2 b).mp hb))
  exact va_zast C.1 C.2.1 C.2.2.2.2.2.2.2.1 n3 hD hS q0 1 hq (nk_tys (t0 := 1) rfl) hin hd (fun H1 locs1 gP gD gS =>
    k _ _ _ _ _ _ _ _ _ _ _ _ _ _ C _ _ _ _ _ hl (nk_set (e' := .inl (.boolean, n, .inl (upd f i.toNatClampNeg (vp_nar .boolean x)))) n2 hD hH hq gP) (fun b hb => (nk_u_dom hb).elim (fun z => by rw [z]; exact hA a (by rw [hH]; rfl)) (hA b)) gS h1 h2)
theorem nk_aast {n v ci : Nat} {r : vw_C} {vs : List Value} {f : Nat → Option Nat} {i : Int32} (t0 : Nat) (ht : nk_Ty[t0]? = some (.object r.1)) (hc : vwCl[ci]? = some r) (hd : decode μ.2.1 pc = .ok (.aastore, 1)) (hH : H a = some (.inl (.object r.1, n, .inr (.inr (.inr (.inr f)))))) (hv : H v = some (.inr (ci, vs))) (hin : vp_in i n) (k : nk_J G μ d Φ bc bs (pc + 1) L st (nk_u H a (.inl (.object r.1, n, .inr (.inr (.inr (.inr (va_up f i.toNatClampNeg (some v)))))))) ) : nk_J G μ d Φ bc bs pc L (.ref v :: .int i :: .ref a :: st) H := by
  intro p l e R s m args below meth c mc ms A Q C Hc locs cells slots ls hl hP hA hS h1 h2
  obtain ⟨Ls, n1, n2, n3⟩ := nk_list hP
  obtain ⟨q0, hq⟩ := nk_get (G := G) n2 hH
  obtain ⟨q1, hq1⟩ := nk_get (G := G) n2 hv
  have hD : va_D A (va_pl Ls (nk_f G H)) := nk_Dpl n1 (fun b hb => hA b ((n2 b).mp hb))
  exact va_astq C.1 C.2.1 C.2.2.2.2.2.2.2.1 n3 hD hS q0 t0 q1 ci hq (nk_tys ht) hq1 hc hin hd (fun H1 locs1 gP gD gS =>
    k _ _ _ _ _ _ _ _ _ _ _ _ _ _ C _ _ _ _ _ hl (nk_set (e' := .inl (.object r.1, n, .inr (.inr (.inr (.inr (va_up f i.toNatClampNeg (some v))))))) n2 hD hH hq gP) (fun b hb => (nk_u_dom hb).elim (fun z => by rw [z]; exact hA a (by rw [hH]; rfl)) (hA b)) gS h1 h2)
theorem nk_aastN {n : Nat} {Cn : String} {f : Nat → Option Nat} {i : Int32} (t0 : Nat) (ht : nk_Ty[t0]? = some (.object Cn)) (hd : decode μ.2.1 pc = .ok (.aastore, 1)) (hH : H a = some (.inl (.object Cn, n, .inr (.inr (.inr (.inr f)))))) (hin : vp_in i n) (k : nk_J G μ d Φ bc bs (pc + 1) L st (nk_u H a (.inl (.object Cn, n, .inr (.inr (.inr (.inr (va_up f i.toNatClampNeg none)))))))) : nk_J G μ d Φ bc bs pc L (.null :: .int i :: .ref a :: st) H := by
  intro p l e R s m args below meth c mc ms A Q C Hc locs cells slots ls hl hP hA hS h1 h2
  obtain ⟨Ls, n1, n2, n3⟩ := nk_list hP
  obtain ⟨q0, hq⟩ := nk_get (G := G) n2 hH
  have hD : va_D A (va_pl Ls (nk_f G H)) := nk_Dpl n1 (fun b hb => hA b ((n2 b).mp hb))
  exact va_astqN C.1 C.2.1 C.2.2.2.2.2.2.2.1 n3 hD hS q0 t0 hq (nk_tys ht) hin hd (fun H1 locs1 gP gD gS =>
    k _ _ _ _ _ _ _ _ _ _ _ _ _ _ C _ _ _ _ _ hl (nk_set (e' := .inl (.object Cn, n, .inr (.inr (.inr (.inr (va_up f i.toNatClampNeg none)))))) n2 hD hH hq gP) (fun b hb => (nk_u_dom hb).elim (fun z => by rw [z]; exact hA a (by rw [hH]; rfl)) (hA b)) gS h1 h2)
theorem nk_alen {ty : FieldType} {x : vp_A} {v : Int32} (t0 : Nat) (ht : nk_Ty[t0]? = some ty) (hd : decode μ.2.1 pc = .ok (.arraylength, 1)) (hH : H a = some (.inl (ty, x))) (hv : Int32.ofNat x.1 = v) (k : nk_J G μ d Φ bc bs (pc + 1) L (.int v :: st) H) : nk_J G μ d Φ bc bs pc L (.ref a :: st) H := by
  intro p l e R s m args below meth c mc ms A Q C Hc locs cells slots ls hl hP hA hS h1 h2
  obtain ⟨Ls, n1, n2, n3⟩ := nk_list hP
  obtain ⟨q0, hq⟩ := nk_get (G := G) n2 hH
  exact va_alen C.1 C.2.1 C.2.2.2.2.2.2.2.1 n3 q0 t0 hq (nk_tys ht) hv hd (k _ _ _ _ _ _ _ _ _ _ _ _ _ _ C _ _ _ _ _ hl hP hA hS h1 h2)
theorem nk_tld {t n : Nat} {f : Nat → Int32} {i : Int32} (hd : decode μ.2.1 pc = .ok (.iaload, 1)) (hG : G.2.2.1 t = some (n, f)) (hin : vp_in i n) (k : nk_J G μ d Φ bc bs (pc + 1) L (.int (f i.toNatClampNeg) :: st) H) : nk_J G μ d Φ bc bs pc L (.int i :: .ref t :: st) H := by
  intro p l e R s m args below meth c mc ms A Q C Hc locs cells slots ls hl hP hA hS h1 h2
  exact va_ti C.1 C.2.1 (C.2.2.2.2.2.2.2.2.1.1 t n f hG) hS hin rfl hd (k _ _ _ _ _ _ _ _ _ _ _ _ _ _ C _ _ _ _ _ hl hP hA hS h1 h2)
theorem nk_tlen {t n : Nat} {f : Nat → Int32} {v : Int32} (hd : decode μ.2.1 pc = .ok (.arraylength, 1)) (hG : G.2.2.1 t = some (n, f)) (hv : Int32.ofNat n = v) (k : nk_J G μ d Φ bc bs (pc + 1) L (.int v :: st) H) : nk_J G μ d Φ bc bs pc L (.ref t :: st) H := by
  intro p l e R s m args below meth c mc ms A Q C Hc locs cells slots ls hl hP hA hS h1 h2
  exact va_tlen C.1 C.2.1 (C.2.2.2.2.2.2.2.2.1.1 t n f hG) hS hv hd (k _ _ _ _ _ _ _ _ _ _ _ _ _ _ C _ _ _ _ _ hl hP hA hS h1 h2)
theorem nk_gets {index : Nat} {q : String × String × String} (j : Nat) (hj : nk_sZ[j]? = some q) (hw : Cond.fieldLink μ.1.cls index q.1 q.2.1 q.2.2 ∈ nk_tw) (hd : decode μ.2.1 pc = .ok (.getstatic index, 3)) (k : nk_J G μ d Φ bc bs (pc + 3) L (.ref (G.2.2.2 j) :: st) H) : nk_J G μ d Φ bc bs pc L st H := by
  intro p l e R s m args below meth c mc ms A Q C Hc locs cells slots ls hl hP hA hS h1 h2
  exact va_gets C.1 C.2.1 (C.2.2.2.2.2.2.2.2.1.2 j q hj) hS C.2.2.2.1 (C.2.2.2.2.2.1 _ hw) (fun _ h9 => h9) hd (k _ _ _ _ _ _ _ _ _ _ _ _ _ _ C _ _ _ _ _ hl hP hA hS h1 h2)
theorem nk_newi {n : Int32} {N bc' bs' : Nat} (hw : Cond.arrayClass .int ∈ nk_tw) (hd : decode μ.2.1 pc = .ok (.newarray .int, 2)) (hn : n = nI N) (hN : N ≤ 65536) (hb : bc' + 1 ≤ bc ∧ bs' + N ≤ bs) (k : ∀ q : Nat, H q = none → nk_J G μ d Φ bc' bs' (pc + 2) L (.ref q :: st) (nk_u H q (.inl (.int, N, .inl (fun _ => 0))))) : nk_J G μ d Φ bc bs pc L (.int n :: st) H := by
  intro p l e R s m args below meth c mc ms A Q C Hc locs cells slots ls hl hP hA hS h1 h2
  subst hn
  obtain ⟨Ls, n1, n2, n3⟩ := nk_list hP
  have hD : va_D A (va_pl Ls (nk_f G H)) := nk_Dpl n1 (fun b hb => hA b ((n2 b).mp hb))
  have hr := C.2.2.2.2.2.2.1
  have hK := C.2.2.2.2.2.2.2.1
  have hN2 : N < 2 ^ 31 := Nat.lt_of_le_of_lt hN (Nat.le_of_ble_eq_true rfl : 65536 + 1 ≤ 2 ^ 31)
  refine va_newa (atype := .int) (ty := .int) (a0 := (N, .inl (fun _ => 0))) (D := G.1) C.1 C.2.1 (C.2.2.2.2.2.1 _ hw) rfl hK n3 hD hS C.2.2.2.2.2.2.2.2.2.2.1 (fun _ => rfl) (nI_pos hN2) (nI_clamp hN2) (by show N * 4 ≤ 536870912; omega) (by omega) (by omega) hd (fun q cA H1 gK gP gD gS => ?_)
  have hc : cA = G.2.1 .int := nk_cA (gK.2 6 _ (by rfl)).2 (hK.2 0 _ (nk_tys (t0 := 0) rfl)).2
  subst hc
  obtain ⟨g1, g2, g3⟩ := nk_push (e := .inl (.int, N, .inl (fun _ => 0))) n2 gD gP
  exact k q g1 _ _ _ _ _ _ _ _ _ _ _ _ _ _ C _ _ _ _ _ hl g3 (fun b hb => (nk_u_dom hb).elim (fun z => by rw [z]; exact g2) (hA b)) gS (by omega) (by omega)
theorem nk_newz {n : Int32} {N bc' bs' : Nat} (hw : Cond.arrayClass .boolean ∈ nk_tw) (hd : decode μ.2.1 pc = .ok (.newarray .boolean, 2)) (hn : n = nI N) (hN : N ≤ 65536) (hb : bc' + 1 ≤ bc ∧ bs' + N ≤ bs) (k : ∀ q : Nat, H q = none → nk_J G μ d Φ bc' bs' (pc + 2) L (.ref q :: st) (nk_u H q (.inl (.boolean, N, .inl (fun _ => 0))))) : nk_J G μ d Φ bc bs pc L (.int n :: st) H := by
  intro p l e R s m args below meth c mc ms A Q C Hc locs cells slots ls hl hP hA hS h1 h2
  subst hn
  obtain ⟨Ls, n1, n2, n3⟩ := nk_list hP
  have hD : va_D A (va_pl Ls (nk_f G H)) := nk_Dpl n1 (fun b hb => hA b ((n2 b).mp hb))
  have hr := C.2.2.2.2.2.2.1
  have hK := C.2.2.2.2.2.2.2.1
  have hN2 : N < 2 ^ 31 := Nat.lt_of_le_of_lt hN (Nat.le_of_ble_eq_true rfl : 65536 + 1 ≤ 2 ^ 31)
  refine va_newa (atype := .boolean) (ty := .boolean) (a0 := (N, .inl (fun _ => 0))) (D := G.1) C.1 C.2.1 (C.2.2.2.2.2.1 _ hw) rfl hK n3 hD hS C.2.2.2.2.2.2.2.2.2.2.1 (fun _ => rfl) (nI_pos hN2) (nI_clamp hN2) (by show N * 1 ≤ 536870912; omega) (by omega) (by omega) hd (fun q cA H1 gK gP gD gS => ?_)
  have hc : cA = G.2.1 .boolean := nk_cA (gK.2 6 _ (by rfl)).2 (hK.2 1 _ (nk_tys (t0 := 1) rfl)).2
  subst hc
  obtain ⟨g1, g2, g3⟩ := nk_push (e := .inl (.boolean, N, .inl (fun _ => 0))) n2 gD gP
  exact k q g1 _ _ _ _ _ _ _ _ _ _ _ _ _ _ C _ _ _ _ _ hl g3 (fun b hb => (nk_u_dom hb).elim (fun z => by rw [z]; exact g2) (hA b)) gS (by omega) (by omega)
theorem nk_newq {n : Int32} {Cn : String} {N index bc' bs' : Nat} (t0 : Nat) (ht : nk_Ty[t0]? = some (.object Cn)) (ho : ∀ s, nk_N s → va_AO Cn s) (hw : Cond.classLink μ.1.cls index Cn ∈ nk_tw) (hd : decode μ.2.1 pc = .ok (.anewarray index, 3)) (hn : n = nI N) (hN : N ≤ 65536) (hb : bc' + 1 ≤ bc ∧ bs' + N ≤ bs) (k : ∀ q : Nat, H q = none → nk_J G μ d Φ bc' bs' (pc + 3) L (.ref q :: st) (nk_u H q (.inl (.object Cn, N, .inr (.inr (.inr (.inr (fun _ => none)))))))) : nk_J G μ d Φ bc bs pc L (.int n :: st) H := by
  intro p l e R s m args below meth c mc ms A Q C Hc locs cells slots ls hl hP hA hS h1 h2
  subst hn
  obtain ⟨Ls, n1, n2, n3⟩ := nk_list hP
  have hD : va_D A (va_pl Ls (nk_f G H)) := nk_Dpl n1 (fun b hb => hA b ((n2 b).mp hb))
  have hr := C.2.2.2.2.2.2.1
  have hK := C.2.2.2.2.2.2.2.1
  have hN2 : N < 2 ^ 31 := Nat.lt_of_le_of_lt hN (Nat.le_of_ble_eq_true rfl : 65536 + 1 ≤ 2 ^ 31)
  refine va_newq (D := G.1) C.1 C.2.1 C.2.2.2.1 (C.2.2.2.2.2.1 _ hw) (ho s C.2.2.2.2.2.2.2.2.2.1) hK n3 hD hS C.2.2.2.2.2.2.2.2.2.2.1 (nI_pos hN2) (nI_clamp hN2) (by omega) (by omega) (by omega) hd (fun q cA H1 gK gP gD gS => ?_)
  have hc : cA = G.2.1 (.object Cn) := nk_cA (gK.2 6 _ (by rfl)).2 (hK.2 t0 _ (nk_tys ht)).2
  subst hc
  obtain ⟨g1, g2, g3⟩ := nk_push (e := .inl (.object Cn, N, .inr (.inr (.inr (.inr (fun _ => none)))))) n2 gD gP
  exact k q g1 _ _ _ _ _ _ _ _ _ _ _ _ _ _ C _ _ _ _ _ hl g3 (fun b hb => (nk_u_dom hb).elim (fun z => by rw [z]; exact g2) (hA b)) gS (by omega) (by omega)
theorem nk_copy {index a0 n0 n1 : Nat} {f g : Nat → Int32} {sp dp n : Int32} (hw : Cond.methodLink μ.1.cls index arraycopyName ∈ nk_tw) (hwn : Cond.native arraycopyName ∈ nk_tw) (hws : Cond.static arraycopyName ∈ nk_tw) (hwi : Cond.initialized "java/lang/System" ∈ nk_tw) (hd : decode μ.2.1 pc = .ok (.invokestatic index, 3)) (h0 : H a0 = some (.inl (.int, n0, .inl f))) (hH : H a = some (.inl (.int, n1, .inl g))) (k1 : ¬ sp < 0) (k2 : ¬ dp < 0) (k3 : ¬ n < 0) (k4 : sp.toNatClampNeg + n.toNatClampNeg ≤ n0) (k5 : dp.toNatClampNeg + n.toNatClampNeg ≤ n1) (hdp : 1 ≤ d) (hst : (st.map fun v => v.category).sum ≤ 8)
    (k : nk_J G μ d Φ bc bs (pc + 3) L st (nk_u H a (.inl (.int, n1, .inl (va_cpy f g sp.toNatClampNeg dp.toNatClampNeg n.toNatClampNeg))))) : nk_J G μ d Φ bc bs pc L (.int n :: .int dp :: .ref a :: .int sp :: .ref a0 :: st) H := by
  intro p l e R s m args below meth c mc ms A Q C Hc locs cells slots ls hl hP hA hS h1 h2
  obtain ⟨Ls, n1', n2, n3⟩ := nk_list hP
  obtain ⟨q0, hq0⟩ := nk_get (G := G) n2 h0
  obtain ⟨q1, hq1⟩ := nk_get (G := G) n2 hH
  have hD : va_D A (va_pl Ls (nk_f G H)) := nk_Dpl n1' (fun b hb => hA b ((n2 b).mp hb))
  have hr := C.2.2.2.2.2.2.1
  have hnw : nativeFrameWords "java/lang/System" "arraycopy" 5 = 7 := by decide +kernel
  exact va_copyi C.1 C.2.1 (C.2.2.1.trans hl.1.symm) C.2.2.2.1 (C.2.2.2.2.2.1 _ hw) (C.2.2.2.2.2.1 _ hwn) (C.2.2.2.2.2.1 _ hws) (C.2.2.2.2.2.1 _ hwi) C.2.2.2.2.2.2.2.1 n3 hD hS q0 q1 0 0 hq0 hq1 (nk_tys (t0 := 0) rfl) (nk_tys (t0 := 0) rfl) rfl k1 k2 k3 k4 k5 (fun _ _ => rfl) (by omega) (by omega) hd (fun H1 locs1 gP gD gS =>
    k _ _ _ _ _ _ _ _ _ _ _ _ _ _ C _ _ _ _ _ hl (nk_set (e' := .inl (.int, n1, .inl (va_cpy f g sp.toNatClampNeg dp.toNatClampNeg n.toNatClampNeg))) n2 hD hH hq1 gP) (fun b hb => (nk_u_dom hb).elim (fun z => by rw [z]; exact hA a (by rw [hH]; rfl)) (hA b)) gS h1 h2)
end NKH
