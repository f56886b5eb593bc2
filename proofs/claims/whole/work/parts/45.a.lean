/-! rows: an array's clone, a cast that holds; the words of a set changed -/
section NKL
variable {G : nk_EG} {μ : nk_MI} {d : Nat} {Φ : Option Value → nk_AH → Prop} {bc bs pc : Nat} {L : List (Option Value)} {st : List Value} {H : nk_AH} {a : Nat}
theorem nk_clone {index n bc' bs' : Nat} {f : Nat → Int32} (hw : Cond.methodLink μ.1.cls index ⟨"[I", "clone", "()Ljava/lang/Object;"⟩ ∈ nk_tw) (hd : decode μ.2.1 pc = .ok (.invokevirtual index, 3)) (hH : H a = some (.inl (.int, n, .inl f))) (hdp : 1 ≤ d) (hcat : (st.map fun v => v.category).sum ≤ 8) (hb : bc' + 1 ≤ bc ∧ bs' + n ≤ bs) (k : ∀ q : Nat, H q = none → nk_J G μ d Φ bc' bs' (pc + 3) L (.ref q :: st) (nk_u H q (.inl (.int, n, .inl f)))) : nk_J G μ d Φ bc bs pc L (.ref a :: st) H := by
  intro p l e R s m args below meth c mc ms A Q C Hc locs cells slots ls hl hP hA hS h1 h2
  obtain ⟨Ls, n1, n2, n3⟩ := nk_list hP
  obtain ⟨q0, hq⟩ := nk_get (G := G) n2 hH
  have hD : va_D A (va_pl Ls (nk_f G H)) := nk_Dpl n1 (fun b hb => hA b ((n2 b).mp hb))
  have hr := C.2.2.2.2.2.2.1
  have hK := C.2.2.2.2.2.2.2.1
  have hts := C.2.2.2.2.2.1
  have w2 : Cond.sameMethod "[I" "java/lang/Object" "clone" "()Ljava/lang/Object;" ∈ nk_tw := nk_in 482 (by decide +kernel) rfl
  have w3 : Cond.native ⟨"java/lang/Object", "clone", "()Ljava/lang/Object;"⟩ ∈ nk_tw := nk_in 483 (by decide +kernel) rfl
  have w4 : Cond.instanceMethod ⟨"java/lang/Object", "clone", "()Ljava/lang/Object;"⟩ ∈ nk_tw := nk_in 484 (by decide +kernel) rfl
  have w5 : Cond.selects "[I" ⟨"[I", "clone", "()Ljava/lang/Object;"⟩ ⟨"java/lang/Object", "clone", "()Ljava/lang/Object;"⟩ ∈ nk_tw := nk_in 485 (by decide +kernel) rfl
  refine va_clone (D := G.1) C.1 C.2.1 (C.2.2.1.trans hl.1.symm) C.2.2.2.1 (hts _ hw) (hts _ w2) (hts _ w3) (hts _ w4) (hts _ w5) C.2.2.2.2.2.2.2.2.2.1.2.1 hK n3 hD hS C.2.2.2.2.2.2.2.2.2.2.1 q0 0 hq (nk_tys (t0 := 0) rfl) (va_nm_int (hK.2 0 _ (nk_tys (t0 := 0) rfl)).2) (fun i v hv => va_fit (ty := .int) (F := fun j => .int (f j)) (fun i _ => rfl) i v hv) (by omega) (by omega) (by omega) (by show slots + n ≤ _; omega) hd (fun q H1 gK gP gD gS => ?_)
  obtain ⟨g1, g2, g3⟩ := nk_push (e := .inl (.int, n, .inl f)) n2 gD gP
  exact k q g1 _ _ _ _ _ _ _ _ _ _ _ _ _ _ C _ _ _ _ _ hl g3 (fun b hb => (nk_u_dom hb).elim (fun z => by rw [z]; exact g2) (hA b)) gS (by omega) (by show slots + n + bs' ≤ _; omega)
theorem nk_castI {index n : Nat} {f : Nat → Int32} (hw : Cond.classLink μ.1.cls index "[I" ∈ nk_tw) (hd : decode μ.2.1 pc = .ok (.checkcast index, 3)) (hH : H a = some (.inl (.int, n, .inl f))) (k : nk_J G μ d Φ bc bs (pc + 3) L (.ref a :: st) H) : nk_J G μ d Φ bc bs pc L (.ref a :: st) H := by
  intro p l e R s m args below meth c mc ms A Q C Hc locs cells slots ls hl hP hA hS h1 h2
  obtain ⟨Ls, n1, n2, n3⟩ := nk_list hP
  obtain ⟨q0, hq⟩ := nk_get (G := G) n2 hH
  have hK := C.2.2.2.2.2.2.2.1
  exact va_castA (D := G.1) C.1 C.2.1 C.2.2.2.1 (C.2.2.2.2.2.1 _ hw) n3 q0 hq (va_nm_int (hK.2 0 _ (nk_tys (t0 := 0) rfl)).2) hd (k _ _ _ _ _ _ _ _ _ _ _ _ _ _ C _ _ _ _ _ hl hP hA hS h1 h2)
end NKL
theorem cK.u {H : nk_AH} {q w j b : Nat} {κ : Int32} {f f' : Nat → Int32} (hk : cK H q w j κ b f) : cK (nk_u H w (.inl (.int, nk_wm b, .inl f'))) q w j κ b f' := by
  have hne : q ≠ w := fun z => by
    have h1 := hk.1
    rw [z, hk.2] at h1
    cases h1
  exact ⟨by rw [nk_u_ne hne]; exact hk.1, nk_u_self _ _ _⟩
theorem cK.ne {H : nk_AH} {q w j b : Nat} {κ : Int32} {f : Nat → Int32} (hk : cK H q w j κ b f) : q ≠ w := fun z => by
  have h1 := hk.1
  rw [z, hk.2] at h1
  cases h1
/-- the words of a set when a span of keys is turned, up to word v -/
def tn (f : Nat → Int32) (a c : Int) (v : Nat) : Nat → Int32 := fun u => if u < v then f u ^^^ sw u a c else f u
theorem sw_0 {u : Nat} {a c : Int} (h : ∀ i, i < 32 → ¬ (a ≤ ((32 * u + i : Nat) : Int) ∧ ((32 * u + i : Nat) : Int) ≤ c)) : sw u a c = 0 := b_ext (fun i hi => by rw [bt_sw hi, b_0]; exact decide_eq_false (h i hi))
theorem b_x0 (x : Int32) : x ^^^ 0 = x := b_ext (fun i hi => by rw [b_xor, b_0]; simp)
theorem tn_s (f : Nat → Int32) (a c : Int) (v : Nat) : upd (tn f a c v) v (tn f a c v v ^^^ sw v a c) = tn f a c (v + 1) := by
  funext u
  unfold upd tn
  rw [if_neg (Nat.lt_irrefl v)]
  by_cases q : u = v
  · subst q
    rw [if_pos rfl, if_pos (Nat.lt_succ_self u)]
  · rw [if_neg q]
    by_cases z : u < v
    · rw [if_pos z, if_pos (by omega)]
    · rw [if_neg z, if_neg (by omega)]
theorem tn_0 {f : Nat → Int32} {a c : Nat} : tn f (a : Int) (c : Int) (a / 32) = f := by
  funext u
  unfold tn
  by_cases q : u < a / 32
  · rw [if_pos q, sw_0 (fun i hi => by omega), b_x0]
  · rw [if_neg q]
def tnf (f : Nat → Int32) (a c : Int) : Nat → Int32 := fun u => f u ^^^ sw u a c
theorem tn_end {f : Nat → Int32} {a c : Nat} : tn f (a : Int) (c : Int) (c / 32 + 1) = tnf f (a : Int) (c : Int) := by
  funext u
  unfold tn tnf
  by_cases q : u < c / 32 + 1
  · rw [if_pos q]
  · rw [if_neg q, sw_0 (fun i hi => by omega), b_x0]
def jn (how x y : Int32) : Int32 := if how = 0 then x &&& y else if how = 1 then x ||| y else if how = 2 then x ^^^ y else x &&& (y ^^^ -1)
/-- as many bits as a word has, from key k on -/
def co (f : Nat → Int32) (n : Nat) (k : Int) : Int32 := wd (fun i => decide (0 ≤ k + i ∧ k + i < 32 * n) && gm f (k + i).toNat)
theorem co_w {f : Nat → Int32} {n : Nat} {x : Int} : (if 0 ≤ x ∧ x < n then f x.toNat else 0 : Int32) = wd (fun i => decide (0 ≤ 32 * x + i ∧ 32 * x + i < 32 * n) && gm f (32 * x + i).toNat) := by
  apply b_ext
  intro i hi
  rw [bt_wd hi]
  by_cases q : 0 ≤ x ∧ x < n
  · rw [if_pos q, decide_eq_true (by omega), Bool.true_and]
    obtain ⟨y, rfl⟩ := Int.eq_ofNat_of_zero_le q.1
    rw [show (32 * (y : Int) + (i : Int)).toNat = 32 * y + i by omega, gm_w hi]; rfl
  · rw [if_neg q, decide_eq_false (by omega), b_0, Bool.false_and]
theorem co_eq {f : Nat → Int32} {n r : Nat} {x : Int} (hr : r < 32) (w0 w1 : Int32) (h0 : w0 = if 0 ≤ x ∧ x < n then f x.toNat else 0) (h1 : w1 = if 0 ≤ x + 1 ∧ x + 1 < n then f (x + 1).toNat else 0) : (if r = 0 then ju w0 r else ju w0 r ||| (w1 <<< (nI (32 - r) &&& 31))) = co f n (32 * x + r) := by
  rw [h0, h1, co_w, co_w]
  apply b_ext
  intro i hi
  unfold co
  rw [bt_wd hi]
  by_cases q : r = 0
  · subst q
    rw [if_pos rfl, b_ushr 0 (by omega), Nat.zero_add, bt_wd hi, show 32 * x + ((0 : Nat) : Int) + (i : Int) = 32 * x + (i : Int) by omega]
  · rw [if_neg q, b_or, b_ushr r hr, b_shl (32 - r) (by omega) _ hi]
    by_cases z : r + i < 32
    · rw [bt_wd z, decide_eq_false (p := 32 - r ≤ i) (by omega), Bool.false_and, Bool.or_false]
      rw [show 32 * x + ((r + i : Nat) : Int) = 32 * x + (r : Int) + (i : Int) by omega]
    · rw [b_big (i := r + i) (by omega), Bool.false_or, decide_eq_true (by omega), Bool.true_and, bt_wd (by omega)]
      rw [show 32 * (x + 1) + ((i - (32 - r) : Nat) : Int) = 32 * x + (r : Int) + (i : Int) by omega]
