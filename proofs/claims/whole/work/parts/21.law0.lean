-- the law at the empty script: its walk, with the room that it takes
theorem zd_0 : decode code 0 = .ok (.new 7, 3) := by decide +kernel
theorem zd_3 : decode code 3 = .ok (.dup, 1) := by decide +kernel
theorem zd_4 : decode code 4 = .ok (.invokespecial 9, 3) := by decide +kernel
theorem zd_7 : decode code 7 = .ok (.astore_n 1, 1) := by decide +kernel
theorem zd_8 : decode code 8 = .ok (.new 10, 3) := by decide +kernel
theorem zd_11 : decode code 11 = .ok (.dup, 1) := by decide +kernel
theorem zd_12 : decode code 12 = .ok (.invokespecial 12, 3) := by decide +kernel
theorem zd_15 : decode code 15 = .ok (.astore_n 2, 1) := by decide +kernel
theorem zd_16 : decode code 16 = .ok (.iconst 0, 1) := by decide +kernel
theorem zd_17 : decode code 17 = .ok (.istore_n 3, 1) := by decide +kernel
theorem zd_18 : decode code 18 = .ok (.iload_n 3, 1) := by decide +kernel
theorem zd_19 : decode code 19 = .ok (.aload_n 0, 1) := by decide +kernel
theorem zd_20 : decode code 20 = .ok (.arraylength, 1) := by decide +kernel
theorem zd_21 : decode code 21 = .ok (.iconst 5, 1) := by decide +kernel
theorem zd_22 : decode code 22 = .ok (.isub, 1) := by decide +kernel
theorem zd_23 : decode code 23 = .ok (.if_icmp .gt 821, 3) := by decide +kernel
theorem zd_844 : decode code 844 = .ok (.iconst 1, 1) := by decide +kernel
theorem zd_845 : decode code 845 = .ok (.ireturn, 1) := by decide +kernel
set_option maxRecDepth 100000 in
theorem zin_X0 : ∀ w ∈ u_ws RX0 TX0 5, w ∈ lw_tbl := by decide +kernel
set_option maxRecDepth 100000 in
theorem zii_X0 : Cond.instantiable RX0 5 ∈ lw_tbl := by decide +kernel
set_option maxRecDepth 100000 in
theorem zin_X1 : ∀ w ∈ u_ws RX1 TX1 14, w ∈ lw_tbl := by decide +kernel
set_option maxRecDepth 100000 in
theorem zii_X1 : Cond.instantiable RX1 14 ∈ lw_tbl := by decide +kernel
set_option maxRecDepth 100000 in
theorem zin_X2 : ∀ w ∈ u_ws RX2 TX2 5, w ∈ lw_tbl := by decide +kernel
set_option maxRecDepth 100000 in
theorem zii_X2 : Cond.instantiable RX2 5 ∈ lw_tbl := by decide +kernel
set_option maxRecDepth 100000 in
theorem zin_X3 : ∀ w ∈ u_ws RX3 TX3 5, w ∈ lw_tbl := by decide +kernel
set_option maxRecDepth 100000 in
theorem zii_X3 : Cond.instantiable RX3 5 ∈ lw_tbl := by decide +kernel
set_option maxRecDepth 100000 in
theorem zin_X4 : ∀ w ∈ u_ws RX4 TX4 3, w ∈ lw_tbl := by decide +kernel
set_option maxRecDepth 100000 in
theorem zii_X4 : Cond.instantiable RX4 3 ∈ lw_tbl := by decide +kernel
set_option maxRecDepth 100000 in
theorem zin_X5 : ∀ w ∈ u_ws RX5 TX5 7, w ∈ lw_tbl := by decide +kernel
set_option maxRecDepth 100000 in
theorem zii_X5 : Cond.instantiable RX5 7 ∈ lw_tbl := by decide +kernel
set_option maxRecDepth 100000 in
theorem zin_X6 : ∀ w ∈ u_ws RX6 TX6 17, w ∈ lw_tbl := by decide +kernel
set_option maxRecDepth 100000 in
theorem zii_X6 : Cond.instantiable RX6 17 ∈ lw_tbl := by decide +kernel
set_option maxRecDepth 100000 in
theorem zw_c5 : Cond.classLink RL 7 RX5 ∈ lw_tbl := by decide +kernel
set_option maxRecDepth 100000 in
theorem zw_c6 : Cond.classLink RL 10 RX6 ∈ lw_tbl := by decide +kernel
set_option maxRecDepth 100000 in
theorem zw_n5 : Cond.initialized RX5 ∈ lw_tbl := by decide +kernel
set_option maxRecDepth 100000 in
theorem zw_n6 : Cond.initialized RX6 ∈ lw_tbl := by decide +kernel
set_option maxRecDepth 100000 in
theorem zw_m5 : Cond.methodLink RL 9 yX5_init ∈ lw_tbl := by decide +kernel
set_option maxRecDepth 100000 in
theorem zw_m6 : Cond.methodLink RL 12 yX6_init ∈ lw_tbl := by decide +kernel
set_option maxRecDepth 100000 in
theorem zw_k5 : Cond.instanceMethod yX5_init ∈ lw_tbl := by decide +kernel
set_option maxRecDepth 100000 in
theorem zw_k6 : Cond.instanceMethod yX6_init ∈ lw_tbl := by decide +kernel
set_option maxRecDepth 100000 in
theorem zw_ai : Cond.arrayClass .int ∈ lw_tbl := by decide +kernel
set_option maxRecDepth 100000 in
theorem zw_ac : Cond.arrayClass .char ∈ lw_tbl := by decide +kernel
set_option maxRecDepth 100000 in
theorem zw_az : Cond.arrayClass .boolean ∈ lw_tbl := by decide +kernel
set_option maxRecDepth 100000 in
theorem zg_5 : GoodIn lw_tbl wsX5_init := goodIn_p _ [68, 71, 76, 82, 98, 123, 147, 207] (by decide +kernel) (by decide +kernel)
set_option maxRecDepth 100000 in
theorem zg_6 : GoodIn lw_tbl wsX6_init := goodIn_p _ [645, 71] (by decide +kernel) (by decide +kernel)
theorem z_arr {s : State} {args : Array Value} {ty : FieldType} (hr : refKind ty = false) (h : (Cond.arrayClass ty).before args s = true) : ∃ cA : ClassId, ArrOfT s cA ty ∧ s.vm.findClass ("[" ++ ty.toString) = some cA := by
  obtain ⟨cA, kA, comp, h1, h2, h3⟩ := Cond.arrayClass_spec h
  exact ⟨cA, fun n z => ⟨fun k e => (by cases e), kA, h2, comp, h3⟩, h1⟩
/-- what the tables give at the law's entry -/
theorem z_known {s : State} {args : Array Value} (hts : ∀ w ∈ lw_tbl, w.before args s = true) : ∃ (G : va_G) (c3 : zT3), zK G c3 s ∧ zNM s := by
  obtain ⟨a0, b0, k0⟩ := u_known (C := RX0) (T := TX0) (N := 5) (n := 5) hts zin_X0 (hts _ zii_X0)
  obtain ⟨a1, b1, k1⟩ := u_known (C := RX1) (T := TX1) (N := 14) (n := 14) hts zin_X1 (hts _ zii_X1)
  obtain ⟨a2, b2, k2⟩ := u_known (C := RX2) (T := TX2) (N := 5) (n := 5) hts zin_X2 (hts _ zii_X2)
  obtain ⟨a3, b3, k3⟩ := u_known (C := RX3) (T := TX3) (N := 5) (n := 5) hts zin_X3 (hts _ zii_X3)
  obtain ⟨a4, b4, k4⟩ := u_known (C := RX4) (T := TX4) (N := 3) (n := 3) hts zin_X4 (hts _ zii_X4)
  obtain ⟨a5, b5, k5⟩ := u_known (C := RX5) (T := TX5) (N := 7) (n := 7) hts zin_X5 (hts _ zii_X5)
  obtain ⟨a6, b6, k6⟩ := u_known (C := RX6) (T := TX6) (N := 17) (n := 17) hts zin_X6 (hts _ zii_X6)
  obtain ⟨cI, i1, i2⟩ := z_arr (ty := .int) rfl (hts _ zw_ai)
  obtain ⟨cC, c1, c2⟩ := z_arr (ty := .char) rfl (hts _ zw_ac)
  obtain ⟨cZ, e1, e2⟩ := z_arr (ty := .boolean) rfl (hts _ zw_az)
  refine ⟨(fun k => if k = 0 then a0 else if k = 1 then a1 else if k = 2 then a2 else if k = 3 then a3 else if k = 4 then a4 else if k = 5 then a5 else a6, fun k => if k = 0 then b0 else if k = 1 then b1 else if k = 2 then b2 else if k = 3 then b3 else if k = 4 then b4 else if k = 5 then b5 else b6), (cI, cC, cZ), ⟨⟨?_, ?_⟩, ?_⟩, ?_⟩
  · intro k q hq
    match k, hq with
    | 0, hq => cases hq; exact k0
    | 1, hq => cases hq; exact k1
    | 2, hq => cases hq; exact k2
    | 3, hq => cases hq; exact k3
    | 4, hq => cases hq; exact k4
    | 5, hq => cases hq; exact k5
    | 6, hq => cases hq; exact k6
    | k + 7, hq => simp [vwCl] at hq
  · intro k q hq
    match k, hq with
    | 0, hq => cases hq; exact ⟨i1, i2⟩
    | 1, hq => cases hq; exact ⟨c1, c2⟩
    | 2, hq => cases hq; exact ⟨e1, e2⟩
    | k + 3, hq => simp [zty] at hq
  · intro w hw
    have h1 := hts w (List.mem_append_right _ (zNW_tbl w hw))
    obtain ⟨a, i, b, n, d, k, rfl⟩ := zNW_fl w hw
    exact va_Nw.of rfl h1
  · intro w hw
    have h1 := hts w (List.mem_append_right _ (zNMw_tbl w hw))
    obtain ⟨a, i, x, k, rfl⟩ := zNMw_ml w hw
    exact va_Nw.of rfl h1
theorem z_setsum : ∀ (l : List Nat) (i n : Nat), l[i]? = some n → (l.set i 0).sum + n = l.sum
  | [], i, n, h => by simp at h
  | a :: l, 0, n, h => by
    have e : a = n := by simpa using h
    subst e
    simp only [List.set_cons_zero, List.sum_cons]
    omega
  | a :: l, i + 1, n, h => by
    have h1 := z_setsum l i n (by simpa using h)
    simp only [List.set_cons_succ, List.sum_cons]
    omega
theorem z_sumle (ad sz : Nat → Nat) : ∀ (ks : List Nat) (l : List Nat), ks.Nodup → (∀ k ∈ ks, l[ad k]? = some (sz k)) → (∀ k ∈ ks, ∀ j ∈ ks, ad k = ad j → k = j) → (ks.map sz).sum ≤ l.sum
  | [], l, _, _, _ => Nat.zero_le _
  | k :: ks, l, hn, h, hi => by
    have h1 := z_setsum l (ad k) (sz k) (h k List.mem_cons_self)
    have hn2 := List.nodup_cons.mp hn
    have h2 := z_sumle ad sz ks (l.set (ad k) 0) hn2.2 (fun j hj => by
      rw [List.getElem?_set_ne (fun e => hn2.1 (by rw [hi k List.mem_cons_self j (List.mem_cons_of_mem _ hj) e]; exact hj))]
      exact h j (List.mem_cons_of_mem _ hj)) (fun j hj i hi2 => hi j (List.mem_cons_of_mem _ hj) i (List.mem_cons_of_mem _ hi2))
    simp only [List.map_cons, List.sum_cons]
    omega
/-- arrays of a world that are new take at least their sizes of the new slots -/
theorem z_big {G : va_G} {ws : va_W} {H : Heap} {N : Nat} (hP : va_P G vwCl ws H) (hD : va_D (fun q => N ≤ q) ws) (ks : List Nat) (hn : ks.Nodup) (sz : Nat → Nat) (hk : ∀ k ∈ ks, ∃ (q : Nat) (cX : ClassId) (f : Nat → Int32), ws[k]? = some (q, .inl (cX, (sz k, .inl f)))) : (ks.map sz).sum ≤ ((H.toList.drop N).map (fun c => c.slots.size)).sum := by
  refine z_sumle (fun k => ((ws[k]?).map (fun q => q.1)).getD 0 - N) sz ks _ hn ?_ ?_
  · intro k hkm
    obtain ⟨q, cX, f, h1⟩ := hk k hkm
    have h2 : H[q]? = some (vp_cell cX (sz k, .inl f)) := hP k _ h1
    have h3 : N ≤ q := hD.2 k _ h1
    show ((H.toList.drop N).map (fun c => c.slots.size))[((ws[k]?).map (fun q => q.1)).getD 0 - N]? = some (sz k)
    rw [h1]
    show ((H.toList.drop N).map (fun c => c.slots.size))[q - N]? = some (sz k)
    rw [List.getElem?_map, List.getElem?_drop, Nat.add_sub_cancel' h3, Array.getElem?_toList, h2]
    show some ((vp_cell cX (sz k, .inl f)).slots.size) = some (sz k)
    rw [vp_cell_i, arrV_size]
  · intro k hkm j hjm e
    obtain ⟨q, cX, f, h1⟩ := hk k hkm
    obtain ⟨q2, cX2, f2, h2⟩ := hk j hjm
    have h3 : N ≤ q := hD.2 k _ h1
    have h4 : N ≤ q2 := hD.2 j _ h2
    have e2 : q - N = q2 - N := by
      have e3 : ((ws[k]?).map (fun q => q.1)).getD 0 - N = ((ws[j]?).map (fun q => q.1)).getD 0 - N := e
      rw [h1, h2] at e3
      exact e3
    exact hD.1 k j _ _ h1 h2 (show q = q2 by omega)
/-- the room that the law takes at any script: the class's 48 cells with 1150 slots, the reference's 8 with 1221 -/
def lw_At0 (p : Program) (s : State) (m : MethodId) (meth : Method) (c : Code) (b : Nat) : Prop :=
  p.tables.exec = Jvm.exec ∧ c.code = code ∧ meth.sig.returnType = ret ∧ c.maxLocals = 8 ∧ s.vm.findClass RL = some m.cls ∧ (∀ w ∈ lw_tbl, w.before #[Value.ref b] s = true) ∧ va_X b 0 (fun _ => 0) s s.heap ∧ b < s.heap.size ∧ meth.locks = false
def zR2371 : Room := ⟨9, 56, 2371, 330⟩
theorem z_lawret {p : Program} {l : Launch} {e : Env} {R : Room} {s : State} {m : MethodId} {args : Array Value} {below : List Frame} {meth : Method} {c : Code} {H : Heap} {locs : List Loc} {cells slots : Nat} {Qh : Heap → Prop} (hx : p.tables.exec = Jvm.exec) (hb : c.code = code) (hr : meth.sig.returnType = ret) (hlocks : meth.locks = false) {pc : Nat} {ls : Array Slot} (hQ : Qh H) (hdg : decode code pc = .ok (.ireturn, 1)) : W p l e R s m args below meth c H locs cells slots (fun t => ∃ o, t.status = .running ∧ Ended t below o ∧ Qh t.heap) (F0 m pc ls [.int 1]) := by
  intro T hT X
  obtain ⟨fs, hret, hrun, hended, hW, hframe⟩ := X.leave (v := some (.int 1)) (hlocks := hlocks) (fun h => by rw [hr] at h; cases h)
  have hmeth' : T.vm.method? m = some meth := X.method'
  refine ⟨T.setFrames fs, ?_, .returned (some (.int 1)), hrun, hended, by rw [show (T.setFrames fs).heap = T.heap from rfl, hT]; exact hQ⟩
  jvm_step X.here [X.here.top, hx, hb, hdg, hmeth', hr, ret, narrow_b1]
  (try refine ⟨rfl, ?_⟩); (try refine ⟨rfl, ?_⟩)
  first | (intro acts; rw [hret _ acts rfl rfl rfl]) | rw [hret _ _ rfl rfl rfl]
  exact Steps.refl _
set_option maxHeartbeats 4000000 in
set_option maxRecDepth 100000 in
/-- the law, from its entry to its end, at a script of no ints: its new cells take more than 1489 slots -/
theorem z_law0 {p : Program} {l : Launch} {e : Env} {s : State} {m : MethodId} {below : List Frame} {meth : Method} {c : Code} {b : Nat} (C0 : lw_At0 p s m meth c b) : W p l e zR2371 s m #[Value.ref b] below meth c s.heap [] 0 0 (fun t => ∃ o, t.status = .running ∧ Ended t below o ∧ 1489 < ((t.heap.toList.drop s.heap.size).map (fun c => c.slots.size)).sum) (entryFrame m ([Value.ref b] : List Value).toArray 8) := by
  obtain ⟨hx, hb, hr, hml, hown, hts, hX, hbl, hlocks⟩ := C0
  obtain ⟨G, c3, hK, hN⟩ := z_known hts
  have S0 : CallFix p m c code 8 s #[Value.ref b] lw_tbl RL := ⟨hx, hb, hml, hown, hts⟩
  have hC : zC G c3 (fun q => s.heap.size ≤ q) s [] s.heap [] := ⟨hK, fun k q h => by simp at h, ⟨fun i j p q h => by simp at h, fun k q h => by simp at h⟩, va_S.rf, fun _ h => h⟩
  have hl := lv_entry ([.ref b]) (n := 8) (Nat.le_of_ble_eq_true rfl)
  rw [lg_entry_eq]
  generalize (lg_sl ([.ref b]) ++ List.replicate (8 - (lg_sl ([.ref b])).length) Slot.unset).toArray = ls at hl ⊢
  have hl : lv_has ls 8 [(0, .ref b)] := hl
  have hbA : ¬ (fun q : Nat => s.heap.size ≤ q) b := Nat.not_le.mpr hbl
  refine zi_new S0 hC (ci := 5) (fs := [.null, .null, .null, .null, .null, .null, .int 0]) (C := RX5) (T := TX5) (N := 7) zin_X5 tyX5 tyX5_ok zw_c5 zii_X5 zw_n5 rfl (fun j hj => by rcases (show j = 0 ∨ j = 1 ∨ j = 2 ∨ j = 3 ∨ j = 4 ∨ j = 5 ∨ j = 6 by omega) with rfl | rfl | rfl | rfl | rfl | rfl | rfl <;> rfl) (Nat.le_of_ble_eq_true rfl) (Nat.le_of_ble_eq_true rfl) zd_0 (fun h0 H hC => ?_)
  refine W.widen (k := 1) (n := 7) (Nat.le_of_ble_eq_true rfl) (Nat.le_of_ble_eq_true rfl) ?_
  have hC : zC G c3 (fun q => s.heap.size ≤ q) s [(h0, .inr (5, [.null, .null, .null, .null, .null, .null, .int 0]))] H [] := hC
  refine lv_dup hx hb zd_3 rfl ?_
  refine zi_call (zi_runI (n := 0) (rest := [.ref h0]) (As := []) S0 hC hN (c_X5_init l G c3 h0) [0] (by decide) rfl zg_5 rfl rfl rfl zw_n5 zw_m5 zw_k5 rfl (by decide +kernel) ⟨Nat.le_of_ble_eq_true rfl, Nat.le_of_ble_eq_true rfl⟩ rfl hl.1 rfl (Nat.le_of_ble_eq_true rfl) zd_4 ⟨Nat.le_of_ble_eq_true rfl, Nat.le_of_ble_eq_true rfl⟩) hC [0] [] rfl (wr := ([] : va_W)) rfl (by decide) (by decide) (fun w1 H locs hP1 hC => ?_)
  obtain ⟨oN, oT, oK, oH, o1, o2, o3, o4, oP, oV, rfl⟩ := hP1
  refine W.widen (k := 48) (n := 1150) (Nat.le_of_ble_eq_true rfl) (Nat.le_of_ble_eq_true rfl) ?_
  refine lv_astore_n (lv' := [(1, .ref h0), (0, .ref b)]) hx hb zd_7 rfl hl (by decide) rfl (fun ls hl => ?_)
  refine zi_new S0 hC (ci := 6) (fs := [.null, .null, .null, .int 0, .null, .int 0, .null, .int 0, .null, .int 0, .int 0, .int 0, .null, .int 0, .int 0, .int 0, .int 0]) (C := RX6) (T := TX6) (N := 17) zin_X6 tyX6 tyX6_ok zw_c6 zii_X6 zw_n6 rfl (fun j hj => by rcases (show j = 0 ∨ j = 1 ∨ j = 2 ∨ j = 3 ∨ j = 4 ∨ j = 5 ∨ j = 6 ∨ j = 7 ∨ j = 8 ∨ j = 9 ∨ j = 10 ∨ j = 11 ∨ j = 12 ∨ j = 13 ∨ j = 14 ∨ j = 15 ∨ j = 16 by omega) with rfl | rfl | rfl | rfl | rfl | rfl | rfl | rfl | rfl | rfl | rfl | rfl | rfl | rfl | rfl | rfl | rfl <;> rfl) (Nat.le_of_ble_eq_true rfl) (Nat.le_of_ble_eq_true rfl) zd_8 (fun m0 H hC => ?_)
  refine W.widen (k := 49) (n := 1167) (Nat.le_of_ble_eq_true rfl) (Nat.le_of_ble_eq_true rfl) ?_
  refine lv_dup hx hb zd_11 rfl ?_
  refine zi_call (zi_runI (n := 0) (rest := [.ref m0]) (As := []) S0 hC hN (c_X6_init l G c3 m0) [48] (by decide) rfl zg_6 rfl rfl rfl zw_n6 zw_m6 zw_k6 rfl (by decide +kernel) ⟨Nat.le_of_ble_eq_true rfl, Nat.le_of_ble_eq_true rfl⟩ rfl hl.1 rfl (Nat.le_of_ble_eq_true rfl) zd_12 ⟨Nat.le_of_ble_eq_true rfl, Nat.le_of_ble_eq_true rfl⟩) hC [48] [0, 1, 2, 3, 4, 5, 6, 7, 8, 9, 10, 11, 12, 13, 14, 15, 16, 17, 18, 19, 20, 21, 22, 23, 24, 25, 26, 27, 28, 29, 30, 31, 32, 33, 34, 35, 36, 37, 38, 39, 40, 41, 42, 43, 44, 45, 46, 47] rfl (wr := zwZ h0 oN oT oK oH oP oV 0 ++ zwS c3.1 oN zS0 ++ zwS c3.1 oT zS0 ++ zwS c3.1 oK zS0 ++ zwH c3.1 oH (0, (o1, zS0), (o2, zS0), (o3, zS0), (o4, zS0)) ++ zwP c3.2.1 oP zP0 ++ zwV c3.1 oV zV0) rfl (by decide) (by decide) (fun w1 H locs hP1 hC => ?_)
  obtain ⟨oM, rfl, rfl⟩ := hP1
  refine W.widen (k := 56) (n := 2371) (Nat.le_of_ble_eq_true rfl) (Nat.le_of_ble_eq_true rfl) ?_
  refine lv_astore_n (lv' := [(2, .ref oM.1), (1, .ref h0), (0, .ref b)]) hx hb zd_15 rfl hl (by decide) rfl (fun ls hl => ?_)
  refine lv_iconst (v := 0) hx hb zd_16 (by decide) ?_
  refine lv_istore_n (lv' := [(3, .int 0), (2, .ref oM.1), (1, .ref h0), (0, .ref b)]) hx hb zd_17 rfl hl (by decide) rfl (fun ls hl => ?_)
  refine lv_iload_n hx hb zd_18 rfl (lv_at hl 0 rfl) ?_
  refine lv_aload_n hx hb zd_19 rfl (lv_at hl 3 rfl) ?_
  refine va_slen hx hb hX hbl hbA hC.2.2.2.1 zd_20 ?_
  refine lv_iconst (v := 5) hx hb zd_21 (by decide) ?_
  refine lv_isub hx hb zd_22 ?_
  refine lv_icmp_gt (tgt := 844) hx hb zd_23 (by decide) (fun _ => ?_) (fun cd => absurd (by decide) cd)
  refine lv_iconst (v := 1) hx hb zd_844 (by decide) ?_
  refine z_lawret (Qh := fun h => 1489 < ((h.toList.drop s.heap.size).map (fun c => c.slots.size)).sum) hx hb hr hlocks ?_ zd_845
  refine Nat.lt_of_lt_of_le (m := 1624) (by decide) ?_
  exact z_big hC.2.1 hC.2.2.1 [4, 10, 16, 23, 29, 35, 41, 49, 50, 51, 52, 55] (by decide) (fun k => if k = 51 then 600 else if k = 49 ∨ k = 50 ∨ k = 52 then 150 else if k = 55 then 84 else 70) (fun k hk => by
    simp only [List.mem_cons, List.not_mem_nil, or_false] at hk
    rcases hk with rfl | rfl | rfl | rfl | rfl | rfl | rfl | rfl | rfl | rfl | rfl | rfl <;> exact ⟨_, _, _, rfl⟩)
