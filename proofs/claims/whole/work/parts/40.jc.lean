/-! methods of a class of which some are run otherwise: this one isn't -/
theorem nk_S.ofF {G : nk_EG} {μ : nk_MI} {d mc ms : Nat} {av : List Value} {H : nk_AH} {Φ : Option Value → nk_AH → Prop} (hp : plainFor μ.1 = true) (hlen : (lg_sl av).length ≤ μ.2.2.1) {L : List (Option Value)} (hL : nk_ent av μ.2.2.1 = L) (k : nk_J G μ d Φ mc ms 0 L [] H) : nk_S G μ d mc ms av H Φ := by
  intro l sz
  subst hL
  refine MetFree.of_bodySF (code := μ.2.1) (maxLocals := μ.2.2.1) (ret := μ.2.2.2) hp ?_ ?_
  · intro args s m h hn
    obtain ⟨meth, c, h1, h2, h3, h4, h5, h6, -, -⟩ := Cond.code_spec hn (atoms_spec (ws := nk_ws μ) h _ List.mem_cons_self)
    exact ⟨meth, c, h1, h2, h3, h4, h5, h6⟩
  · intro p e s m args below meth c s₁ B hml hv _
    have hh0 : s₁.heap = s.heap := by rw [B.state]; rfl
    obtain ⟨rfl, hsz, hP, hK, hZ, hN⟩ := hv
    subst hsz
    have hlocks : meth.locks = false := B.notSynchronized
    have hr := B.returns
    have hts := atoms_spec (ws := nk_ws μ) B.pre
    have body : W p l e (nk_rm d mc ms) s m av.toArray below meth c s.heap [] 0 0 (MQ below (nk_Q G H s.heap.size Φ) av.toArray s mc ms (nk_A H s.heap.size)) (entryFrame m av.toArray μ.2.2.1) := by
      rw [lg_entry_eq]
      refine k p l e _ s m _ below meth c mc ms (nk_A H s.heap.size) _ ⟨B.exec, B.bytes, hml, findClass_of_methodNamed B.named, (name_of_methodNamed B.named B.method).1, fun w hw => hts w (List.mem_cons_of_mem _ hw), ⟨Nat.le_refl _, Nat.le_refl _, Nat.le_refl _, Nat.le_refl _⟩, hK, hZ, hN, fun q hq => Or.inr hq, ?_⟩ _ _ 0 0 _ (nk_ent_L hlen) hP (fun a ha => Or.inl ha) va_S.rf (by omega) (by omega)
      intro pc ls Hc locs ins r H' hd hro hf hP' hA' hS'
      have hq : ∀ t : State, t.heap = Hc → s.WarmedH t.vm → nk_Q G H s.heap.size Φ av.toArray s (.returned r) t := fun t ht _ => ⟨r, H', rfl, hf, by rw [ht]; exact hP', hA', hS'.F ht⟩
      rcases hro with ⟨h1, rfl, rfl⟩ | ⟨ty, v, h1, rfl, h3, rfl⟩ | ⟨v, h1, rfl, rfl⟩ | ⟨rt, v, h1, h2, h3, rfl, rfl⟩
      · exact W.vret B.exec B.bytes (hr.trans h1) hq hS'.2.2 hd
      · exact W.zret B.exec B.bytes (hr.trans h1) h3 hq hS'.2.2 hd
      · exact W.lret B.exec B.bytes (hr.trans h1) hq hS'.2.2 hd
      · exact W.aret B.exec B.bytes (hr.trans h1) h2 h3 hq hS'.2.2 hd
    obtain ⟨t, a1, o, b1, b2, b3⟩ := body s₁ hh0 (Stand.of_body B)
    exact ⟨t, o, a1, b1, b2, ⟨b3.1, b3.2⟩⟩
