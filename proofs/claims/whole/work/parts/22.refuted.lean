/-! the claim as it is printed is false: at the script of no ints the run's new cells take more than 1489 slots -/
theorem z_run0 (l : Launch) : MetFree l x (headSpec (Jvm.Cond.code x code maxLocals ret :: tables_1) zR2371) (fun args s => ∃ (b : Addr) (xs : List Int32), args = #[.ref b] ∧ s.IntsAt b xs ∧ xs.length = 0) (fun _ _ _ _ _ => True) (fun _ s _ t => 1489 < ((t.heap.toList.drop s.heap.size).map (fun c => c.slots.size)).sum) := by
  refine MetFree.of_bodyS (code := code) (maxLocals := maxLocals) (ret := ret) (by decide) ?_ ?_
  · intro args s m h hn
    obtain ⟨meth, c, h1, h2, h3, h4, h5, h6, -, -⟩ := Cond.code_spec hn (atoms_spec (ws := Jvm.Cond.code x code maxLocals ret :: tables_1) h _ List.mem_cons_self)
    exact ⟨meth, c, h1, h2, h3, h4, h5, h6⟩
  · intro p e s m args below meth c s₁ B hml0 hP _
    obtain ⟨b, xs, rfl, hx, hlen⟩ := hP
    obtain ⟨scr, harrAt, hlist, hof, hsmall⟩ := hx
    obtain ⟨hcb, hkn, -, -⟩ := State.arrayAt?_spec harrAt
    have hown : s.vm.findClass RL = some m.cls := findClass_of_methodNamed B.named
    have hts0 : ∀ c ∈ (Jvm.Cond.code x code maxLocals ret :: tables_1), c.before #[Value.ref b] s = true := atoms_spec (ws := Jvm.Cond.code x code maxLocals ret :: tables_1) B.pre
    have hts : ∀ w ∈ lw_tbl, w.before #[Value.ref b] s = true := k2_hts_sels lw_privs (fun w hw => hts0 w (List.mem_cons_of_mem _ hw)) lw_privs_ok
    have hml : c.maxLocals = 8 := B.maxLocals_eq (hts0 _ List.mem_cons_self)
    have X₀ : Stand p l e zR2371 s m #[Value.ref b] below meth c s₁ [] 0 0 := Stand.of_body B
    have hh0 : s₁.heap = s.heap := by rw [B.state]; rfl
    have hsz : scr.slots.size = 0 := by rw [← Array.length_toList, hlist, List.length_map]; exact hlen
    have hbl : b < s.heap.size := (Array.getElem?_eq_some_iff.mp hcb).1
    have hX : va_X b 0 (fun _ => 0) s s.heap := ⟨scr, hcb, hof, hkn, hsz, fun j hj => absurd hj (Nat.not_lt_zero _)⟩
    have K : W p l e zR2371 s m #[Value.ref b] below meth c s₁.heap [] 0 0 (fun t => ∃ o, t.status = .running ∧ Ended t below o ∧ 1489 < ((t.heap.toList.drop s.heap.size).map (fun c => c.slots.size)).sum) (entryFrame m ([Value.ref b] : List Value).toArray 8) := by
      rw [hh0]
      exact z_law0 ⟨B.exec, B.bytes, B.returns, hml, hown, hts, hX, hbl, B.notSynchronized⟩
    obtain ⟨t, a1, o, b1, b2, b3⟩ := K s₁ rfl X₀
    exact ⟨t, o, a1, b1, b2, b3⟩
/-- the witness's start, with a script of no ints -/
def zs0 : State := start1.aboutOf #[]
theorem zs0_on : (Cond.code x code maxLocals ret :: tables_1).all (fun c => c.onTables || goodWord c) = true := by decide +kernel
theorem zs0_words : ∀ c ∈ (Cond.code x code maxLocals ret :: tables_1), c.before start1.args0 zs0 = true := by
  intro c hc
  rcases Bool.or_eq_true_iff.mp (List.all_eq_true.mp zs0_on c hc) with h | h
  · exact va_tabs h (rfl : start1.about.vm = zs0.vm) (start1.words c hc)
  · exact word_at (s := start1.about) (U := zs0) (State.WarmedH.refl start1.about) (good_of_word h) (start1.words c hc)
set_option maxRecDepth 16384 in
theorem zs0_app : (headSpec (Cond.code x code maxLocals ret :: tables_1) room_1).applies x start1.e0.platform zs0 = true :=
  (Spec.applies_iff rfl).mpr ⟨rfl, rfl, rfl, by decide +kernel, by decide +kernel, by decide +kernel, launch0.hasRoom_least _ room_1 (by decide +kernel) (by decide +kernel) (by decide +kernel) (by decide +kernel) (by decide +kernel) (by decide +kernel), atoms_intro zs0_words⟩
set_option maxRecDepth 16384 in
theorem zs0_app2 : (headSpec (Cond.code x code maxLocals ret :: tables_1) zR2371).applies x start1.e0.platform zs0 = true :=
  (Spec.applies_iff rfl).mpr ⟨rfl, rfl, rfl, by decide +kernel, by decide +kernel, by decide +kernel, launch0.hasRoom_least _ zR2371 (by decide +kernel) (by decide +kernel) (by decide +kernel) (by decide +kernel) (by decide +kernel) (by decide +kernel), atoms_intro zs0_words⟩
theorem zs0_rest : rest_1_c.before start1.args0 zs0 = true := by decide +kernel
theorem zs0_pre : (Cond.and given_1 narrow_1).before start1.args0 zs0 = true := by decide +kernel
theorem zs0_ints : ∃ (b : Addr) (xs : List Int32), start1.args0 = #[.ref b] ∧ zs0.IntsAt b xs ∧ xs.length = 0 := by
  have hs := flat_of_before _ zs0_pre
  have hq := flat_of_before _ zs0_rest
  have harr : (Cond.arrayOf (.arg 0) .int).before start1.args0 zs0 = true := hs _ (by decide +kernel)
  have hlen : (Cond.isInt (.length (.arg 0))).before start1.args0 zs0 = true := hq _ (by decide +kernel)
  have hall : (Cond.all (.arg 0) (.isInt (.elem (.arg 0) (.index 0)))).before start1.args0 zs0 = true := hq _ (by decide +kernel)
  obtain ⟨b, xs, hb, hx⟩ := State.ints_of_pre rfl harr hlen hall
  have hb0 : b = 0 := by
    have h1 : start1.args0[0]? = some (.ref b) := hb
    have h2 : start1.args0[0]? = some (.ref 0) := rfl
    have h3 := Option.some.inj (h1.symm.trans h2)
    injection h3
  subst hb0
  refine ⟨0, xs, rfl, hx, ?_⟩
  obtain ⟨scr, harrAt, hlist, hof, hsmall⟩ := hx
  obtain ⟨hcb, -, -, -⟩ := State.arrayAt?_spec harrAt
  have h4 : zs0.heap[0]? = some { cls := 12, slots := #[], vm := .none } := rfl
  have h5 := Option.some.inj (hcb.symm.trans h4)
  rw [h5] at hlist
  have h6 := congrArg List.length hlist
  rw [List.length_map] at h6
  exact h6.symm
/-- THE REFUTATION: what the statement claims of the new cells' slots holds of no run of the law at this start -/
theorem zz_refuted : ¬ Claimed_1_1 := by
  intro h
  obtain ⟨n, o, hw, -, hend, hpost⟩ := h launch0 rfl lists_1 trivial start1.p0 start1.e0 (launch0.admits_env _ _ _) fairChoices_fair.cas fairChoices_fair.clock zs0 ⟨0, 0⟩ start1.args0 Lib.HandBits.below0 rfl (by decide +kernel) (by decide +kernel) zs0_app ⟨trivial, zs0_rest, zs0_pre⟩
  obtain ⟨n2, o2, hw2, -, hend2, hbig⟩ := z_run0 launch0 start1.p0 start1.e0 (launch0.admits_env _ _ _) fairChoices_fair.cas fairChoices_fair.clock zs0 ⟨0, 0⟩ start1.args0 Lib.HandBits.below0 rfl ((Spec.applies_iff_loose rfl).mp zs0_app2).1 zs0_ints trivial
  have hn : n = n2 := by
    rcases Nat.lt_trichotomy n n2 with h1 | h1 | h1
    · exact absurd (hw2 n h1) hend.not_within
    · exact h1
    · exact absurd (hw n2 h1) hend2.not_within
  subst hn
  obtain ⟨-, hfr, -⟩ := hpost
  obtain ⟨-, -, hs⟩ := hfr
  exact absurd hs.2.2.2.2.1 (Nat.not_le.mpr hbig)
theorem zz_refuted_vc : ¬ (Claimed_1_1 ∧ Claimed_1_2) := fun h => zz_refuted h.1
