/-! contracts and calls -/
def nk_Pre (G : nk_EG) (H : nk_AH) (sz : Nat) (av : List Value) : Array Value → State → Prop := fun v U => v = av.toArray ∧ U.heap.size = sz ∧ nk_P G H U.heap ∧ nk_K G U ∧ nk_Z G (nk_A H sz) U U.heap ∧ nk_N U
def nk_Q (G : nk_EG) (H : nk_AH) (sz : Nat) (Φ : Option Value → nk_AH → Prop) : Array Value → State → Outcome → State → Prop := fun _ s o t => ∃ (r : Option Value) (H' : nk_AH), o = .returned r ∧ Φ r H' ∧ nk_P G H' t.heap ∧ (∀ a : Nat, (H' a).isSome = true → nk_A H sz a) ∧ va_F (nk_A H sz) s t
abbrev nk_ws (μ : nk_MI) : List Cond := .code μ.1 μ.2.1 μ.2.2.1 μ.2.2.2 :: nk_tw
abbrev nk_rm (d mc ms : Nat) : Room := { frames := d, cells := mc, slots := ms, locals := 64 * d }
/-- the contract of a method: with these arguments, on this heap, it returns, and Φ -/
def nk_S (G : nk_EG) (μ : nk_MI) (d mc ms : Nat) (av : List Value) (H : nk_AH) (Φ : Option Value → nk_AH → Prop) : Prop := ∀ (l : Launch) (sz : Nat), Met l μ.1 (nk_ws μ) (nk_rm d mc ms) (nk_Pre G H sz av) (nk_Q G H sz Φ) mc ms (nk_A H sz)
theorem nk_N.same {u U : State} (h : u.vm = U.vm) (hN : nk_N u) : nk_N U :=
  ⟨fun q hq => va_Nw.same rfl h (hN.1 q hq), va_Nw.same rfl h hN.2.1, va_AO.moved (by rw [h]; exact Vm.Alike.refl _) hN.2.2.1, va_AO.moved (by rw [h]; exact Vm.Alike.refl _) hN.2.2.2.1, va_AO.moved (by rw [h]; exact Vm.Alike.refl _) hN.2.2.2.2.1, over_moved (by rw [h]; exact Vm.Alike.refl _) hN.2.2.2.2.2⟩
theorem nk_N.warm {u U : State} (h : u.WarmedH U.vm) (hN : nk_N u) : nk_N U :=
  ⟨fun q hq => va_Nw.warmM h (hN.1 q hq), va_Nw.warmC h hN.2.1, va_AO.moved h.alike hN.2.2.1, va_AO.moved h.alike hN.2.2.2.1, va_AO.moved h.alike hN.2.2.2.2.1, over_moved h.alike hN.2.2.2.2.2⟩
theorem nk_Z.moved {G : nk_EG} {A : Nat → Prop} {u U : State} {Hc : Heap} (h : u.vm.Alike U.vm) (hZ : nk_Z G A u Hc) : nk_Z G A U Hc :=
  ⟨fun t n f ht => va_T.moved h (hZ.1 t n f ht), fun k q hk => va_Z.moved h (hZ.2 k q hk)⟩
theorem va_T.nkLt {ty : FieldType} {t N : Nat} {f : Nat → Value} {A : Nat → Prop} {U : State} {H : Heap} (h : va_T ty t N f A U H) : t < H.size := by
  obtain ⟨cell, h1, -⟩ := h
  exact (Array.getElem?_eq_some_iff.mp h1).1
theorem nk_Z.next {G : nk_EG} {A : Nat → Prop} {s : State} {Hc : Heap} {locs : List Loc} {H : nk_AH} (hZ : nk_Z G A s s.heap) (hA : ∀ a : Nat, (H a).isSome = true → A a) (hA2 : ∀ q : Nat, s.heap.size ≤ q → A q) (hS : va_S A s.heap Hc locs) : nk_Z G (nk_A H Hc.size) s Hc := by
  have hn : ∀ q, nk_A H Hc.size q → A q := fun q hq => hq.elim (hA q) (fun z => hA2 q (Nat.le_trans hS.1 z))
  exact ⟨fun t n f ht => ((hZ.1 t n f ht).kept hS.2.1).narrow hn, fun k q hk => ((hZ.2 k q hk).kept hS.2.1).narrow hn⟩
theorem nk_blind {G : nk_EG} {H : nk_AH} {sz : Nat} {av : List Value} : FrameBlind (nk_Pre G H sz av) := fun a U g mk q =>
  ⟨q.1, q.2.1, q.2.2.1, va_K.moved (u := U) (U := U.calling g mk a) (Vm.Alike.refl U.vm) q.2.2.2.1, nk_Z.moved (u := U) (U := U.calling g mk a) (Vm.Alike.refl U.vm) q.2.2.2.2.1, nk_N.same (u := U) (U := U.calling g mk a) rfl q.2.2.2.2.2⟩
def nk_sv (x : Slot) : Option Value := match x with
  | .val v => some v
  | _ => none
def nk_ent (av : List Value) (n : Nat) : List (Option Value) := (lg_sl av ++ List.replicate (n - (lg_sl av).length) Slot.unset).map nk_sv
theorem nk_ent_L {av : List Value} {n : Nat} (h : (lg_sl av).length ≤ n) : nk_L ((lg_sl av ++ List.replicate (n - (lg_sl av).length) Slot.unset).toArray) n (nk_ent av n) := by
  have hh := lv_entry av h
  refine ⟨hh.1, ?_, hh.2.1, fun i v hi => ?_⟩
  · have := hh.1
    rw [nk_ent, List.length_map]
    simpa using this
  · rw [nk_ent, List.getElem?_map] at hi
    rw [List.getElem?_toArray]
    cases hx : (lg_sl av ++ List.replicate (n - (lg_sl av).length) Slot.unset)[i]? with
    | none => rw [hx] at hi; cases hi
    | some x =>
      rw [hx] at hi
      cases x with
      | val w => cases hi; rfl
      | _ => cases hi
theorem nk_S.of {G : nk_EG} {μ : nk_MI} {d mc ms : Nat} {av : List Value} {H : nk_AH} {Φ : Option Value → nk_AH → Prop} (hp : plainName μ.1.cls = true) (hlen : (lg_sl av).length ≤ μ.2.2.1) {L : List (Option Value)} (hL : nk_ent av μ.2.2.1 = L) (k : nk_J G μ d Φ mc ms 0 L [] H) : nk_S G μ d mc ms av H Φ := by
  intro l sz
  subst hL
  refine Met.ofW (cc := μ.2.1) (maxL := μ.2.2.1) (ret := μ.2.2.2) hp rfl ?_
  intro p e s m args below meth c s₁ B hml hv
  obtain ⟨rfl, hsz, hP, hK, hZ, hN⟩ := hv
  subst hsz
  have hlocks := B.notSynchronized
  have hr := B.returns
  have hts := atoms_spec (ws := nk_ws μ) B.pre
  rw [lg_entry_eq]
  refine k p l e _ s m _ below meth c mc ms (nk_A H s.heap.size) _ ⟨B.exec, B.bytes, hml, findClass_of_methodNamed B.named, (name_of_methodNamed B.named B.method).1, fun w hw => hts w (List.mem_cons_of_mem _ hw), ⟨Nat.le_refl _, Nat.le_refl _, Nat.le_refl _, Nat.le_refl _⟩, hK, hZ, hN, fun q hq => Or.inr hq, ?_⟩ _ _ 0 0 _ (nk_ent_L hlen) hP (fun a ha => Or.inl ha) va_S.rf (by omega) (by omega)
  intro pc ls Hc locs ins r H' hd hro hf hP' hA' hS'
  have hq : ∀ t : State, t.heap = Hc → s.WarmedH t.vm → nk_Q G H s.heap.size Φ av.toArray s (.returned r) t := fun t ht _ => ⟨r, H', rfl, hf, by rw [ht]; exact hP', hA', hS'.F ht⟩
  rcases hro with ⟨h1, rfl, rfl⟩ | ⟨ty, v, h1, rfl, h3, rfl⟩ | ⟨v, h1, rfl, rfl⟩ | ⟨rt, v, h1, h2, h3, rfl, rfl⟩
  · exact W.vret B.exec B.bytes (hr.trans h1) hq hS'.2.2 hd
  · exact W.zret B.exec B.bytes (hr.trans h1) h3 hq hS'.2.2 hd
  · exact W.lret B.exec B.bytes (hr.trans h1) hq hS'.2.2 hd
  · exact W.aret B.exec B.bytes (hr.trans h1) h2 h3 hq hS'.2.2 hd
theorem nk_S.mono {G : nk_EG} {μ : nk_MI} {d mc ms : Nat} {av : List Value} {H : nk_AH} {Φ Ψ : Option Value → nk_AH → Prop} (h : nk_S G μ d mc ms av H Φ) (hi : ∀ r H', Φ r H' → Ψ r H') : nk_S G μ d mc ms av H Ψ := by
  intro l sz p e ha hc hk s m args below hf happ hpre htr
  obtain ⟨t, o, h1, h2, h3, ⟨r, H', g1, g2, g3⟩, h5⟩ := h l sz p e ha hc hk s m args below hf happ hpre htr
  exact ⟨t, o, h1, h2, h3, ⟨r, H', g1, hi r H' g2, g3⟩, h5⟩
section NKC
variable {p : Program} {l : Launch} {e : Env} {R : Room} {s : State} {m : MethodId} {args : Array Value} {below : List Frame} {meth : Method} {c : Code} {Hc : Heap} {locs : List Loc} {cells slots : Nat} {Q : State → Prop}
variable {G : nk_EG} {pc : Nat} {ls : Array Slot} {rest st0 : List Value} {aa : Array Value} {A : Nat → Prop} {mc' ms' : Nat} {H : nk_AH} {Ψ : Option Value → nk_AH → Prop}
theorem nk_back (hr : va_Run p l e R s m args below meth c Hc locs cells slots mc' ms' (F0 m pc ls st0) rest (nk_Q G H Hc.size Ψ aa) (nk_A H Hc.size)) (hA : ∀ a : Nat, (H a).isSome = true → A a) (hA2 : ∀ q : Nat, s.heap.size ≤ q → A q) (hS : va_S A s.heap Hc locs)
    (kk : ∀ (r : Option Value) (H' : nk_AH) (H1 : Heap) (locs1 : List Loc), Ψ r H' → nk_P G H' H1 → (∀ a : Nat, (H' a).isSome = true → A a) → va_S A s.heap H1 locs1 → W p l e R s m args below meth c H1 locs1 (cells + mc') (slots + ms') Q (F0 m (pc + 3) ls (r.toList ++ rest))) : W p l e R s m args below meth c Hc locs cells slots Q (F0 m pc ls st0) := by
  have hn : ∀ q, nk_A H Hc.size q → A q := fun q hq => hq.elim (hA q) (fun z => hA2 q (Nat.le_trans hS.1 z))
  intro T hT X
  obtain ⟨v, st₀, t, T', L, h0, X', hL, e1, e2, ⟨r, H', g1, g2, g3, g4, g5, g6⟩, st⟩ := hr T hT X
  cases g1
  rw [h0] at g5 g6
  obtain ⟨t2, a1, b1⟩ := kk v H' T'.heap (locs ++ L) g2 (by rw [e1]; exact g3) (fun a ha => hn a (g4 a ha))
    ⟨Nat.le_trans hS.1 (by rw [e1]; exact g5), fun q k1 k2 => by rw [e1, g6 q (Nat.lt_of_lt_of_le k1 hS.1) (fun z => k2 (hn q z))]; exact hS.2.1 q k1 k2, fun q hq => by
      rcases List.mem_append.mp hq with h | h
      · exact hS.2.2 q h
      · exact hn _ (hL q h)⟩ T' rfl X'
  exact ⟨t2, st t2 a1, b1⟩
end NKC
def nk_ln (μ : nk_MI) (n : Nat) : Prop := Cond.initialized μ.1.cls ∈ nk_tw ∧ Cond.code μ.1 μ.2.1 μ.2.2.1 μ.2.2.2 ∈ nk_tw ∧ (μ.1.cls ≠ "java/lang/invoke/MethodHandle" ∧ μ.1.cls ≠ "java/lang/invoke/VarHandle" ∧ (parseMethodDescriptor μ.1.desc).map (fun d => d.parameters.length) = some n) ∧ μ.2.2.1 ≤ 40
def nk_lS (own : String) (index : Nat) (μ : nk_MI) (n : Nat) : Prop := nk_ln μ n ∧ Cond.methodLink own index μ.1 ∈ nk_tw ∧ Cond.static μ.1 ∈ nk_tw
def nk_lSN (own : String) (index : Nat) (μ : nk_MI) (n : Nat) : Prop := nk_ln μ n ∧ (own, index, μ.1) ∈ nk_Nm ∧ Cond.static μ.1 ∈ nk_tw
def nk_lI (own : String) (index : Nat) (μ : nk_MI) (n : Nat) : Prop := nk_ln μ n ∧ Cond.methodLink own index μ.1 ∈ nk_tw ∧ Cond.instanceMethod μ.1 ∈ nk_tw ∧ μ.1.name = "<init>" ∧ μ.2.2.2 = none
def nk_lIN (own : String) (index : Nat) (μ : nk_MI) (n : Nat) : Prop := nk_ln μ n ∧ (own, index, μ.1) ∈ nk_Nm ∧ Cond.instanceMethod μ.1 ∈ nk_tw ∧ μ.1.name = "<init>" ∧ μ.2.2.2 = none
def nk_lV (own : String) (index ci : Nat) (μ : nk_MI) (n : Nat) : Prop := nk_ln μ n ∧ Cond.methodLink own index μ.1 ∈ nk_tw ∧ Cond.instanceMethod μ.1 ∈ nk_tw ∧ Cond.selects μ.1.cls μ.1 μ.1 ∈ nk_tw ∧ ∃ q : vw_C, vwCl[ci]? = some q ∧ q.1 = μ.1.cls
theorem nk_good {μ : nk_MI} (hc : Cond.code μ.1 μ.2.1 μ.2.2.1 μ.2.2.2 ∈ nk_tw) : GoodIn nk_tw (nk_ws μ) := fun w hw => by
  have h : w ∈ nk_tw := (List.mem_cons.mp hw).elim (fun z => by rw [z]; exact hc) id
  exact ⟨h, good_of_word (List.mem_filter.mp h).2⟩
section NKD
variable {G : nk_EG} {μ μ' : nk_MI} {d d' : Nat} {Φ Ψ : Option Value → nk_AH → Prop} {bc bs bc' bs' mc' ms' pc index n : Nat} {L : List (Option Value)} {st rest av : List Value} {H : nk_AH} {a : Nat}
theorem nk_cS (f : nk_lS μ.1.cls index μ' n) (hs : nk_S G μ' d' mc' ms' av H Ψ) (hd : decode μ.2.1 pc = .ok (.invokestatic index, 3)) (hst : st = av.reverse ++ rest) (hn : av.length = n) (hdd : d' + 1 ≤ d) (hcat : (rest.map fun v => v.category).sum ≤ 8) (hb : bc' + mc' ≤ bc ∧ bs' + ms' ≤ bs) (k : ∀ r H', Ψ r H' → nk_J G μ d Φ bc' bs' (pc + 3) L (r.toList ++ rest) H') : nk_J G μ d Φ bc bs pc L st H := by
  intro p l e R s m args below meth c mc ms A Q C Hc locs cells slots ls hl hP hA hS h1 h2
  obtain ⟨⟨f1, f2, f3, f4⟩, f5, f6⟩ := f
  have hr := C.2.2.2.2.2.2.1
  have hts := C.2.2.2.2.2.1
  subst hst
  refine nk_back (va_runS (Ts := nk_tw) (As := av) ⟨C.1, C.2.1, C.2.2.1, C.2.2.2.1, hts⟩ (hs l Hc.size) ⟨callB_of n hts (nk_good f2) rfl rfl rfl (hts _ f1) (hts _ f5) f3 ⟨by show d' + 1 ≤ _; omega, by show 8 + (μ'.2.2.1 + 11) + 64 * d' ≤ _; omega⟩, hts _ f6⟩ ⟨nk_blind, fun U hU hW => ⟨rfl, by rw [hU], by rw [hU]; exact hP, va_K.moved hW.alike C.2.2.2.2.2.2.2.1, by rw [hU]; exact nk_Z.moved hW.alike (C.2.2.2.2.2.2.2.2.1.next hA C.2.2.2.2.2.2.2.2.2.2.1 hS), C.2.2.2.2.2.2.2.2.2.1.warm hW⟩⟩ rfl hn hl.1 rfl (lv_room hcat) hd ⟨by omega, by omega⟩) hA C.2.2.2.2.2.2.2.2.2.2.1 hS (fun r H' H1 locs1 g1 g2 g3 g4 => ?_)
  exact k r H' g1 _ _ _ _ _ _ _ _ _ _ _ _ _ _ C _ _ _ _ _ hl g2 g3 g4 (by omega) (by omega)
theorem nk_cSN (f : nk_lSN μ.1.cls index μ' n) (hs : nk_S G μ' d' mc' ms' av H Ψ) (hd : decode μ.2.1 pc = .ok (.invokestatic index, 3)) (hst : st = av.reverse ++ rest) (hn : av.length = n) (hdd : d' + 1 ≤ d) (hcat : (rest.map fun v => v.category).sum ≤ 8) (hb : bc' + mc' ≤ bc ∧ bs' + ms' ≤ bs) (k : ∀ r H', Ψ r H' → nk_J G μ d Φ bc' bs' (pc + 3) L (r.toList ++ rest) H') : nk_J G μ d Φ bc bs pc L st H := by
  intro p l e R s m args below meth c mc ms A Q C Hc locs cells slots ls hl hP hA hS h1 h2
  obtain ⟨⟨f1, f2, f3, f4⟩, f5, f6⟩ := f
  have hr := C.2.2.2.2.2.2.1
  have hts := C.2.2.2.2.2.1
  subst hst
  refine nk_back (va_runSN (Ts := nk_tw) (As := av) (host := RX7) ⟨C.1, C.2.1, C.2.2.1, C.2.2.2.1, hts⟩ (hs l Hc.size) ⟨va_cnB n hts (nk_good f2) rfl rfl rfl (C.2.2.2.2.2.2.2.2.2.1.1 _ f5) (hts _ f1) f3 ⟨by show d' + 1 ≤ _; omega, by show 8 + (μ'.2.2.1 + 11) + 64 * d' ≤ _; omega⟩, hts _ f6, trivial⟩ ⟨nk_blind, fun U hU hW => ⟨rfl, by rw [hU], by rw [hU]; exact hP, va_K.moved hW.alike C.2.2.2.2.2.2.2.1, by rw [hU]; exact nk_Z.moved hW.alike (C.2.2.2.2.2.2.2.2.1.next hA C.2.2.2.2.2.2.2.2.2.2.1 hS), C.2.2.2.2.2.2.2.2.2.1.warm hW⟩⟩ rfl hn hl.1 rfl (lv_room hcat) hd ⟨by omega, by omega⟩) hA C.2.2.2.2.2.2.2.2.2.2.1 hS (fun r H' H1 locs1 g1 g2 g3 g4 => ?_)
  exact k r H' g1 _ _ _ _ _ _ _ _ _ _ _ _ _ _ C _ _ _ _ _ hl g2 g3 g4 (by omega) (by omega)
theorem nk_cI (f : nk_lI μ.1.cls index μ' n) (hs : nk_S G μ' d' mc' ms' (.ref a :: av) H Ψ) (hd : decode μ.2.1 pc = .ok (.invokespecial index, 3)) (hst : st = av.reverse ++ .ref a :: rest) (hn : av.length = n) (hdd : d' + 1 ≤ d) (hcat : (rest.map fun v => v.category).sum ≤ 8) (hb : bc' + mc' ≤ bc ∧ bs' + ms' ≤ bs) (k : ∀ r H', Ψ r H' → nk_J G μ d Φ bc' bs' (pc + 3) L (r.toList ++ rest) H') : nk_J G μ d Φ bc bs pc L st H := by
  intro p l e R s m args below meth c mc ms A Q C Hc locs cells slots ls hl hP hA hS h1 h2
  obtain ⟨⟨f1, f2, f3, f4⟩, f5, f6, f7, f8⟩ := f
  have hr := C.2.2.2.2.2.2.1
  have hts := C.2.2.2.2.2.1
  subst hst
  have f2' : Cond.code μ'.1 μ'.2.1 μ'.2.2.1 none ∈ nk_tw := by rw [← f8]; exact f2
  have hw : nk_ws μ' = Cond.code μ'.1 μ'.2.1 μ'.2.2.1 none :: nk_tw := by rw [nk_ws, f8]
  refine nk_back (va_runI (Ts := nk_tw) (As := av) (b := a) ⟨C.1, C.2.1, C.2.2.1, C.2.2.2.1, hts⟩ (hs l Hc.size) ⟨callB_of n hts (nk_good f2) hw rfl rfl (hts _ f1) (hts _ f5) f3 ⟨by show d' + 1 ≤ _; omega, by show 8 + (μ'.2.2.1 + 11) + 64 * d' ≤ _; omega⟩, f7, hts _ f6⟩ ⟨nk_blind, fun U hU hW => ⟨rfl, by rw [hU], by rw [hU]; exact hP, va_K.moved hW.alike C.2.2.2.2.2.2.2.1, by rw [hU]; exact nk_Z.moved hW.alike (C.2.2.2.2.2.2.2.2.1.next hA C.2.2.2.2.2.2.2.2.2.2.1 hS), C.2.2.2.2.2.2.2.2.2.1.warm hW⟩⟩ rfl hn hl.1 rfl (lv_room hcat) hd ⟨by omega, by omega⟩) hA C.2.2.2.2.2.2.2.2.2.2.1 hS (fun r H' H1 locs1 g1 g2 g3 g4 => ?_)
  exact k r H' g1 _ _ _ _ _ _ _ _ _ _ _ _ _ _ C _ _ _ _ _ hl g2 g3 g4 (by omega) (by omega)
theorem nk_cIN (f : nk_lIN μ.1.cls index μ' n) (hs : nk_S G μ' d' mc' ms' (.ref a :: av) H Ψ) (hd : decode μ.2.1 pc = .ok (.invokespecial index, 3)) (hst : st = av.reverse ++ .ref a :: rest) (hn : av.length = n) (hdd : d' + 1 ≤ d) (hcat : (rest.map fun v => v.category).sum ≤ 8) (hb : bc' + mc' ≤ bc ∧ bs' + ms' ≤ bs) (k : ∀ r H', Ψ r H' → nk_J G μ d Φ bc' bs' (pc + 3) L (r.toList ++ rest) H') : nk_J G μ d Φ bc bs pc L st H := by
  intro p l e R s m args below meth c mc ms A Q C Hc locs cells slots ls hl hP hA hS h1 h2
  obtain ⟨⟨f1, f2, f3, f4⟩, f5, f6, f7, f8⟩ := f
  have hr := C.2.2.2.2.2.2.1
  have hts := C.2.2.2.2.2.1
  subst hst
  have hw : nk_ws μ' = Cond.code μ'.1 μ'.2.1 μ'.2.2.1 none :: nk_tw := by rw [nk_ws, f8]
  refine nk_back (va_runIN (Ts := nk_tw) (As := av) (b := a) (host := RX7) ⟨C.1, C.2.1, C.2.2.1, C.2.2.2.1, hts⟩ (hs l Hc.size) ⟨va_cnB n hts (nk_good f2) hw rfl rfl (C.2.2.2.2.2.2.2.2.2.1.1 _ f5) (hts _ f1) f3 ⟨by show d' + 1 ≤ _; omega, by show 8 + (μ'.2.2.1 + 11) + 64 * d' ≤ _; omega⟩, f7, hts _ f6⟩ ⟨nk_blind, fun U hU hW => ⟨rfl, by rw [hU], by rw [hU]; exact hP, va_K.moved hW.alike C.2.2.2.2.2.2.2.1, by rw [hU]; exact nk_Z.moved hW.alike (C.2.2.2.2.2.2.2.2.1.next hA C.2.2.2.2.2.2.2.2.2.2.1 hS), C.2.2.2.2.2.2.2.2.2.1.warm hW⟩⟩ rfl hn hl.1 rfl (lv_room hcat) hd ⟨by omega, by omega⟩) hA C.2.2.2.2.2.2.2.2.2.2.1 hS (fun r H' H1 locs1 g1 g2 g3 g4 => ?_)
  exact k r H' g1 _ _ _ _ _ _ _ _ _ _ _ _ _ _ C _ _ _ _ _ hl g2 g3 g4 (by omega) (by omega)
theorem nk_cV {ci : Nat} {fs : List Value} (f : nk_lV μ.1.cls index ci μ' n) (hs : nk_S G μ' d' mc' ms' (.ref a :: av) H Ψ) (hd : decode μ.2.1 pc = .ok (.invokevirtual index, 3)) (hH : H a = some (.inr (ci, fs))) (hst : st = av.reverse ++ .ref a :: rest) (hn : av.length = n) (hdd : d' + 1 ≤ d) (hcat : (rest.map fun v => v.category).sum ≤ 8) (hb : bc' + mc' ≤ bc ∧ bs' + ms' ≤ bs) (k : ∀ r H', Ψ r H' → nk_J G μ d Φ bc' bs' (pc + 3) L (r.toList ++ rest) H') : nk_J G μ d Φ bc bs pc L st H := by
  intro p l e R s m args below meth c mc ms A Q C Hc locs cells slots ls hl hP hA hS h1 h2
  obtain ⟨⟨f1, f2, f3, f4⟩, f5, f6, f7, q, f8, f9⟩ := f
  have hr := C.2.2.2.2.2.2.1
  have hts := C.2.2.2.2.2.1
  subst hst
  have hw : va_P G.1 vwCl [(a, nk_e G.2.1 (.inr (ci, fs)))] Hc := fun k q hk => by
    cases k with
    | zero => cases hk; exact hP a _ hH
    | succ k => cases hk
  have hrc := va_recv C.2.2.2.2.2.2.2.1 hw f8 (q0 := 0) rfl
  rw [f9] at hrc
  refine nk_back (va_runV (Ts := nk_tw) (As := av) (b := a) (C := μ'.1.cls) ⟨C.1, C.2.1, C.2.2.1, C.2.2.2.1, hts⟩ (hs l Hc.size) ⟨callB_of n hts (nk_good f2) rfl rfl rfl (hts _ f1) (hts _ f5) f3 ⟨by show d' + 1 ≤ _; omega, by show 8 + (μ'.2.2.1 + 11) + 64 * d' ≤ _; omega⟩, hts _ f6, hts _ f7⟩ ⟨nk_blind, hrc, fun U hU hW => ⟨rfl, by rw [hU], by rw [hU]; exact hP, va_K.moved hW.alike C.2.2.2.2.2.2.2.1, by rw [hU]; exact nk_Z.moved hW.alike (C.2.2.2.2.2.2.2.2.1.next hA C.2.2.2.2.2.2.2.2.2.2.1 hS), C.2.2.2.2.2.2.2.2.2.1.warm hW⟩⟩ rfl hn hl.1 rfl (lv_room hcat) hd ⟨by omega, by omega⟩) hA C.2.2.2.2.2.2.2.2.2.2.1 hS (fun r H' H1 locs1 g1 g2 g3 g4 => ?_)
  exact k r H' g1 _ _ _ _ _ _ _ _ _ _ _ _ _ _ C _ _ _ _ _ hl g2 g3 g4 (by omega) (by omega)
theorem nk_objInit (hw1 : Cond.methodLink μ.1.cls index objectInit ∈ nk_tw) (hw2 : Cond.instanceMethod objectInit ∈ nk_tw) (hw3 : Cond.code objectInit ⟨#[0xb1]⟩ 1 none ∈ nk_tw) (hd : decode μ.2.1 pc = .ok (.invokespecial index, 3)) (hdd : 1 ≤ d) (hcat : (st.map fun v => v.category).sum ≤ 8) (k : nk_J G μ d Φ bc bs (pc + 3) L st H) : nk_J G μ d Φ bc bs pc L (.ref a :: st) H := by
  intro p l e R s m args below meth c mc ms A Q C Hc locs cells slots ls hl hP hA hS h1 h2
  have hr := C.2.2.2.2.2.2.1
  have hts := C.2.2.2.2.2.1
  refine W.objInit C.1 C.2.1 C.2.2.2.1 (hts _ hw1) (hts _ hw2) (hts _ hw3) rfl (by show ls.size = _; rw [hl.1, C.2.2.1]) rfl hd (by omega) (by have := lv_room (m := m) (pc := pc) (ls := ls) (rest := .ref a :: st) hcat; omega) ?_
  exact k _ _ _ _ _ _ _ _ _ _ _ _ _ _ C _ _ _ _ _ hl hP hA hS h1 h2
end NKD
