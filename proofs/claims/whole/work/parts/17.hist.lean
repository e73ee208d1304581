-- the history and the whole object
abbrev zHe : Type := zR6 × zSt
abbrev zHs : Type := Int32 × zHe × zHe × zHe × zHe
/-- the history: its object, and the four states in the order of its fields -/
abbrev zwH (cI : ClassId) (a : Nat) (h : zHs) : va_W := (a, .inr (0, [.ref h.2.1.1.1, .ref h.2.2.1.1.1, .ref h.2.2.2.1.1.1, .ref h.2.2.2.2.1.1, .int h.1])) :: (zwS cI h.2.1.1 h.2.1.2 ++ zwS cI h.2.2.1.1 h.2.2.1.2 ++ zwS cI h.2.2.2.1.1 h.2.2.2.1.2 ++ zwS cI h.2.2.2.2.1 h.2.2.2.2.2)
abbrev zwZ (o0 : Nat) (oN oT oK : zR6) (oH : Nat) (oP oV : zR2) (ss : Int32) : va_W := [(o0, .inr (5, [.ref oN.1, .ref oT.1, .ref oK.1, .ref oH, .ref oP.1, .ref oV.1, .int ss]))]
def f_X0_size (Hhs : zHs) : Option Int32 := some Hhs.1
def zrot (h : zHs) : zHs := if h.1 < 4 then h else (h.1 - 1, h.2.2.1, h.2.2.2.1, h.2.2.2.2, h.2.1)
def zlay (h : zHs) (S : zSt) : zHs := if h.1 = 0 then (h.1 + 1, (h.2.1.1, S), h.2.2) else if h.1 = 1 then (h.1 + 1, h.2.1, (h.2.2.1.1, S), h.2.2.2) else if h.1 = 2 then (h.1 + 1, h.2.1, h.2.2.1, (h.2.2.2.1.1, S), h.2.2.2.2) else (h.1 + 1, h.2.1, h.2.2.1, h.2.2.2.1, (h.2.2.2.2.1, S))
def zpick (h : zHs) (k : Int32) : zSt := if k = 0 then h.2.1.2 else if k = 1 then h.2.2.1.2 else if k = 2 then h.2.2.2.1.2 else h.2.2.2.2.2
def f_X0_record (Hhs : zHs) (bzr : Int32) (bzf : Nat → Int32) (bvr : Int32) (bvf : Nat → Int32) (bnm : Nat → Int32) (bpd bnt : Int32) : Option zHs :=
  (zbool bpd).bind fun _ => some (zlay (zrot Hhs) ((bzr, bzf), (bvr, bvf), bnm, bpd, bnt))
def f_X0_goBack (Hhs : zHs) (bzr : Int32) (bzf : Nat → Int32) (bvr : Int32) (bvf : Nat → Int32) (bnm : Nat → Int32) (bpd bnt : Int32) : Option (zHs × Int32 × (Nat → Int32) × Int32 × (Nat → Int32) × (Nat → Int32) × Int32 × Int32) :=
  if Hhs.1 ≤ 0 then some (Hhs, bzr, bzf, bvr, bvf, bnm, bpd, bnt)
  else (zbool (zpick Hhs (Hhs.1 - 1)).2.2.2.1).bind fun _ => some ((Hhs.1 - 1, Hhs.2), (zpick Hhs (Hhs.1 - 1)).1.1, (zpick Hhs (Hhs.1 - 1)).1.2, (zpick Hhs (Hhs.1 - 1)).2.1.1, (zpick Hhs (Hhs.1 - 1)).2.1.2, (zpick Hhs (Hhs.1 - 1)).2.2.1, (zpick Hhs (Hhs.1 - 1)).2.2.2.1, (zpick Hhs (Hhs.1 - 1)).2.2.2.2)
/-- the history's object alone -/
abbrev zwh (a r1 r2 r3 r4 : Nat) (k : Int32) : va_W := [(a, .inr (0, [.ref r1, .ref r2, .ref r3, .ref r4, .int k]))]
def zsel (k : Int32) (a b c d : Nat) : Nat := if k = 0 then a else if k = 1 then b else if k = 2 then c else d
theorem zC.perm {G : va_G} {c3 : zT3} {A : Nat → Prop} {s : State} {ws ws2 : va_W} {H : Heap} {locs : List Loc} (h : zC G c3 A s ws H locs) (perm : List Nat) (hn : va_nd perm = true) (hp : perm.map (fun i => ws[i]?) = ws2.map some) : zC G c3 A s ws2 H locs := by
  obtain ⟨hK, hP, hD, hS, hA⟩ := h
  refine ⟨hK, ?_, hD.sub perm hn hp, hS, hA⟩
  intro k q hq
  have h1 : (perm.map (fun i => ws[i]?))[k]? = some (some q) := by rw [hp, List.getElem?_map, hq]; rfl
  rw [List.getElem?_map] at h1
  cases hi : perm[k]? with
  | none => rw [hi] at h1; cases h1
  | some i => rw [hi] at h1; exact hP i q (Option.some.inj h1)
section ZROW2
variable {p : Program} {l : Launch} {e : Env} {R : Room} {s : State} {m : MethodId} {args : Array Value} {below : List Frame} {meth : Method} {c : Code} {H : Heap} {locs : List Loc} {Q : State → Prop}
variable {pc : Nat} {ls : Array Slot} {rest st0 : List Value} {G : va_G} {c3 : zT3} {A : Nat → Prop} {ws : va_W}
theorem z_callPr {b : Nat} {wc : va_W} {aa : Array Value} (hr : va_Run p l e R s m args below meth c H locs 0 0 0 0 (F0 m pc ls st0) rest (zPost G wc (some (.ref b)) (va_A wc H.size) aa) (va_A wc H.size)) (hC : zC G c3 A s ws H locs) (isC : List Nat) (hc : isC.map (fun i => ws[i]?) = wc.map some)
    (kk : ∀ (H1 : Heap) (locs1 : List Loc), zC G c3 A s ws H1 locs1 → W p l e R s m args below meth c H1 locs1 0 0 Q (F0 m (pc + 3) ls (.ref b :: rest))) : W p l e R s m args below meth c H locs 0 0 Q (F0 m pc ls st0) := z_callP hr hC isC hc kk
end ZROW2
theorem z_cpEq {zr vr pd nt br wr bp bn : Int32} {zf vf nm bf wf bm : Nat → Int32} {u : Unit} (h : zbool bp = some u) : f_X2_copyFrom zr zf vr vf nm pd nt br bf wr wf bm bp bn = some (br, bf, wr, wf, bm, bp, bn) := by
  simp [f_X2_copyFrom, f_X4_copyFrom, zsm, h]
theorem kX0_size_27 : Cond.fieldLink RX0 27 "ZoneSampler$History" "kept" "I" ∈ wsX0_size := by decide +kernel
theorem jX0_size_X0 : ∀ w ∈ u_ws RX0 TX0 5, w ∈ wsX0_size := by decide +kernel
theorem kX0_stateAt_12 : Cond.fieldLink RX0 12 "ZoneSampler$History" "first" "LZoneSampler$State;" ∈ wsX0_stateAt := by decide +kernel
theorem kX0_stateAt_18 : Cond.fieldLink RX0 18 "ZoneSampler$History" "second" "LZoneSampler$State;" ∈ wsX0_stateAt := by decide +kernel
theorem kX0_stateAt_21 : Cond.fieldLink RX0 21 "ZoneSampler$History" "third" "LZoneSampler$State;" ∈ wsX0_stateAt := by decide +kernel
theorem kX0_stateAt_24 : Cond.fieldLink RX0 24 "ZoneSampler$History" "fourth" "LZoneSampler$State;" ∈ wsX0_stateAt := by decide +kernel
theorem jX0_stateAt_X0 : ∀ w ∈ u_ws RX0 TX0 5, w ∈ wsX0_stateAt := by decide +kernel
theorem kX0_record_12 : Cond.fieldLink RX0 12 "ZoneSampler$History" "first" "LZoneSampler$State;" ∈ wsX0_record := by decide +kernel
theorem kX0_record_18 : Cond.fieldLink RX0 18 "ZoneSampler$History" "second" "LZoneSampler$State;" ∈ wsX0_record := by decide +kernel
theorem kX0_record_21 : Cond.fieldLink RX0 21 "ZoneSampler$History" "third" "LZoneSampler$State;" ∈ wsX0_record := by decide +kernel
theorem kX0_record_24 : Cond.fieldLink RX0 24 "ZoneSampler$History" "fourth" "LZoneSampler$State;" ∈ wsX0_record := by decide +kernel
theorem kX0_record_27 : Cond.fieldLink RX0 27 "ZoneSampler$History" "kept" "I" ∈ wsX0_record := by decide +kernel
theorem jX0_record_X0 : ∀ w ∈ u_ws RX0 TX0 5, w ∈ wsX0_record := by decide +kernel
theorem kX0_goBack_27 : Cond.fieldLink RX0 27 "ZoneSampler$History" "kept" "I" ∈ wsX0_goBack := by decide +kernel
theorem jX0_goBack_X0 : ∀ w ∈ u_ws RX0 TX0 5, w ∈ wsX0_goBack := by decide +kernel
set_option maxHeartbeats 4000000 in
set_option maxRecDepth 100000 in
theorem c_X0_size (l : Launch) (G : va_G) (c3 : zT3) (oH : Nat) (BH : zHs) {r : Int32} (hf : f_X0_size BH = some r) : zM l yX0_size wsX0_size ⟨0, 0, 0, 0⟩ G c3 (zwH c3.1 oH BH) [.ref oH] (some (.int r)) (zwH c3.1 oH BH) := by
  refine zM.of (cc := cX0_size) (maxL := 1) (ret := (some .int)) (by decide) rfl (Nat.le_of_ble_eq_true rfl) ?_
  intro p e s m args below meth c A ls S0 hr hlk hC hl
  have S0 : CallFix p m c cX0_size 1 s args wsX0_size RX0 := S0
  have hl : lv_has ls 1 [(0, .ref oH)] := hl
  have hx := S0.1
  have hb := S0.2.1
  obtain ⟨H, hH⟩ : ∃ y, y = s.heap := ⟨_, rfl⟩
  rw [← hH] at hC ⊢
  obtain ⟨locs, hlo⟩ : ∃ y : List Loc, y = [] := ⟨_, rfl⟩
  rw [← hlo] at hC ⊢
  clear hH hlo
  refine lv_aload_n hx hb dX0_size_0 rfl (lv_at hl 0 rfl) ?_
  refine z_get S0 hC (ci := 0) (C := RX0) (T := TX0) (N := 5) (v := .int BH.1) jX0_size_X0 0 rfl rfl 4 (by decide) kX0_size_27 rfl rfl dX0_size_1 ?_
  have e1 : BH.1 = r := z_s1 hf
  subst e1
  exact z_iret S0 hr hlk hC dX0_size_4
set_option maxHeartbeats 4000000 in
set_option maxRecDepth 100000 in
theorem c_X0_stateAt (l : Launch) (G : va_G) (c3 : zT3) (oH a1 a2 a3 a4 : Nat) (k p1 : Int32) {x : Nat} (hf : zsel p1 a1 a2 a3 a4 = x) : zM l yX0_stateAt wsX0_stateAt ⟨0, 0, 0, 0⟩ G c3 (zwh oH a1 a2 a3 a4 k) [.ref oH, .int p1] (some (.ref x)) (zwh oH a1 a2 a3 a4 k) := by
  refine zM.of (cc := cX0_stateAt) (maxL := 2) (ret := (some (.object "ZoneSampler$State"))) (by decide) rfl (Nat.le_of_ble_eq_true rfl) ?_
  intro p e s m args below meth c A ls S0 hr hlk hC hl
  have S0 : CallFix p m c cX0_stateAt 2 s args wsX0_stateAt RX0 := S0
  have hl : lv_has ls 2 [(0, .ref oH), (1, .int p1)] := hl
  have hx := S0.1
  have hb := S0.2.1
  obtain ⟨H, hH⟩ : ∃ y, y = s.heap := ⟨_, rfl⟩
  rw [← hH] at hC ⊢
  obtain ⟨locs, hlo⟩ : ∃ y : List Loc, y = [] := ⟨_, rfl⟩
  rw [← hlo] at hC ⊢
  clear hH hlo
  unfold zsel at hf
  refine lv_iload_n hx hb dX0_stateAt_0 rfl (lv_at hl 1 rfl) ?_
  by_cases cd0 : p1 = 0
  · replace hf := z_pos cd0 hf
    refine lv_tableIn (off := 27) (tgt := 28) hx hb dX0_stateAt_1 (by rw [cd0]; decide) (by rw [cd0]; decide) (by rw [cd0]; rfl) (by decide) ?_
    refine lv_aload_n hx hb dX0_stateAt_28 rfl (lv_at hl 0 rfl) ?_
    refine z_get S0 hC (ci := 0) (C := RX0) (T := TX0) (N := 5) (v := .ref a1) jX0_stateAt_X0 0 rfl rfl 0 (by decide) kX0_stateAt_12 rfl rfl dX0_stateAt_29 ?_
    subst hf
    exact z_aret S0 hr hlk hC dX0_stateAt_32
  replace hf := z_neg cd0 hf
  by_cases cd1 : p1 = 1
  · replace hf := z_pos cd1 hf
    refine lv_tableIn (off := 32) (tgt := 33) hx hb dX0_stateAt_1 (by rw [cd1]; decide) (by rw [cd1]; decide) (by rw [cd1]; rfl) (by decide) ?_
    refine lv_aload_n hx hb dX0_stateAt_33 rfl (lv_at hl 0 rfl) ?_
    refine z_get S0 hC (ci := 0) (C := RX0) (T := TX0) (N := 5) (v := .ref a2) jX0_stateAt_X0 0 rfl rfl 1 (by decide) kX0_stateAt_18 rfl rfl dX0_stateAt_34 ?_
    subst hf
    exact z_aret S0 hr hlk hC dX0_stateAt_37
  replace hf := z_neg cd1 hf
  by_cases cd2 : p1 = 2
  · replace hf := z_pos cd2 hf
    refine lv_tableIn (off := 37) (tgt := 38) hx hb dX0_stateAt_1 (by rw [cd2]; decide) (by rw [cd2]; decide) (by rw [cd2]; rfl) (by decide) ?_
    refine lv_aload_n hx hb dX0_stateAt_38 rfl (lv_at hl 0 rfl) ?_
    refine z_get S0 hC (ci := 0) (C := RX0) (T := TX0) (N := 5) (v := .ref a3) jX0_stateAt_X0 0 rfl rfl 2 (by decide) kX0_stateAt_21 rfl rfl dX0_stateAt_39 ?_
    subst hf
    exact z_aret S0 hr hlk hC dX0_stateAt_42
  replace hf := z_neg cd2 hf
  have e0 : p1.toInt ≠ 0 := fun h => cd0 (Int32.toInt_inj.mp (h.trans (by decide)))
  have e1 : p1.toInt ≠ 1 := fun h => cd1 (Int32.toInt_inj.mp (h.trans (by decide)))
  have e2 : p1.toInt ≠ 2 := fun h => cd2 (Int32.toInt_inj.mp (h.trans (by decide)))
  refine lv_tableOut (tgt := 43) hx hb dX0_stateAt_1 (by omega) (by decide) ?_
  refine lv_aload_n hx hb dX0_stateAt_43 rfl (lv_at hl 0 rfl) ?_
  refine z_get S0 hC (ci := 0) (C := RX0) (T := TX0) (N := 5) (v := .ref a4) jX0_stateAt_X0 0 rfl rfl 3 (by decide) kX0_stateAt_24 rfl rfl dX0_stateAt_44 ?_
  subst hf
  exact z_aret S0 hr hlk hC dX0_stateAt_47
set_option maxHeartbeats 4000000 in
set_option maxRecDepth 100000 in
theorem c_X0_record (l : Launch) (G : va_G) (c3 : zT3) (oH : Nat) (BH : zHs) (ob : zR6) (Bb : zSt) {Hhs' : zHs} (hf : f_X0_record BH Bb.1.1 Bb.1.2 Bb.2.1.1 Bb.2.1.2 Bb.2.2.1 Bb.2.2.2.1 Bb.2.2.2.2 = some Hhs') : zM l yX0_record wsX0_record ⟨3, 0, 0, 68⟩ G c3 (zwH c3.1 oH BH ++ zwS c3.1 ob Bb) [.ref oH, .ref ob.1] none (zwH c3.1 oH Hhs' ++ zwS c3.1 ob Bb) := by
  refine zM.of (cc := cX0_record) (maxL := 3) (ret := none) (by decide) rfl (Nat.le_of_ble_eq_true rfl) ?_
  intro p e s m args below meth c A ls S0 hr hlk hC hl
  have S0 : CallFix p m c cX0_record 3 s args wsX0_record RX0 := S0
  have hl : lv_has ls 3 [(0, .ref oH), (1, .ref ob.1)] := hl
  have hx := S0.1
  have hb := S0.2.1
  obtain ⟨H, hH⟩ : ∃ y, y = s.heap := ⟨_, rfl⟩
  rw [← hH] at hC ⊢
  obtain ⟨locs, hlo⟩ : ∃ y : List Loc, y = [] := ⟨_, rfl⟩
  rw [← hlo] at hC ⊢
  clear hH hlo
  obtain ⟨w, hw, hf⟩ := z_bind hf
  have hf : zlay (zrot BH) Bb = Hhs' := z_s1 hf
  have J52 : ∀ (h : zHs) (H : Heap) (locs : List Loc) (ls : Array Slot), zlay h Bb = Hhs' → zC G c3 A s (zwH c3.1 oH h ++ zwS c3.1 ob Bb) H locs → lv_has ls 3 [(0, .ref oH), (1, .ref ob.1)] → W p l e ⟨3, 0, 0, 68⟩ s m args below meth c H locs 0 0 (MQ below (zPost G (zwH c3.1 oH Hhs' ++ zwS c3.1 ob Bb) none A) args s 0 0 A) (F0 m 52 ls []) := by
    intro h H locs ls he hC hl
    obtain ⟨k, ⟨o1, S1⟩, ⟨o2, S2⟩, ⟨o3, S3⟩, ⟨o4, S4⟩⟩ := h
    refine lv_aload_n hx hb dX0_record_52 rfl (lv_at hl 0 rfl) ?_
    refine lv_aload_n hx hb dX0_record_53 rfl (lv_at hl 0 rfl) ?_
    refine z_get S0 hC (ci := 0) (C := RX0) (T := TX0) (N := 5) (v := .int k) jX0_record_X0 0 rfl rfl 4 (by decide) kX0_record_27 rfl rfl dX0_record_54 ?_
    by_cases cd0 : k = 0
    · refine z_callPr (z_runV (n := 1) (rest := []) (As := [.int k]) S0 hC (c_X0_stateAt l G c3 oH o1.1 o2.1 o3.1 o4.1 k k (x := o1.1) (if_pos cd0)) [0] (by decide) rfl gX0_record_X0_stateAt rfl rfl rfl (by decide +kernel) ⟨Nat.le_of_ble_eq_true rfl, Nat.le_of_ble_eq_true rfl⟩ (ci := 0) (q0 := 0) rfl rfl rfl hl.1 rfl (Nat.le_of_ble_eq_true rfl) dX0_record_57) hC [0] rfl (fun H locs hC => ?_)
      refine lv_aload_n hx hb dX0_record_60 rfl (lv_at hl 1 rfl) ?_
      refine z_callv (z_runV (n := 1) (rest := []) (As := [.ref ob.1]) S0 hC (c_X2_copyFrom l G c3 o1 S1 ob Bb (z_cpEq hw)) [1, 2, 3, 4, 5, 6, 25, 26, 27, 28, 29, 30] (by decide) rfl gX0_record_X2_copyFrom rfl rfl rfl (by decide +kernel) ⟨Nat.le_of_ble_eq_true rfl, Nat.le_of_ble_eq_true rfl⟩ (ci := 2) (q0 := 1) rfl rfl rfl hl.1 rfl (Nat.le_of_ble_eq_true rfl) dX0_record_61) hC [1, 2, 3, 4, 5, 6, 25, 26, 27, 28, 29, 30] [0, 7, 8, 9, 10, 11, 12, 13, 14, 15, 16, 17, 18, 19, 20, 21, 22, 23, 24] [0, 19, 20, 21, 22, 23, 24, 1, 2, 3, 4, 5, 6, 7, 8, 9, 10, 11, 12, 13, 14, 15, 16, 17, 18, 25, 26, 27, 28, 29, 30] rfl (wr := (zwh oH o1.1 o2.1 o3.1 o4.1 k ++ zwS c3.1 o2 S2 ++ zwS c3.1 o3 S3 ++ zwS c3.1 o4 S4)) rfl (by decide) (by decide) (ws2 := (zwH c3.1 oH (k, (o1, Bb), (o2, S2), (o3, S3), (o4, S4)) ++ zwS c3.1 ob Bb)) rfl (by decide) (fun H locs hC => ?_)
      refine lv_aload_n hx hb dX0_record_64 rfl (lv_at hl 0 rfl) ?_
      refine lv_dup hx hb dX0_record_65 rfl ?_
      refine z_get S0 hC (ci := 0) (C := RX0) (T := TX0) (N := 5) (v := .int k) jX0_record_X0 0 rfl rfl 4 (by decide) kX0_record_27 rfl rfl dX0_record_66 ?_
      refine lv_iconst (v := 1) hx hb dX0_record_69 (by decide) ?_
      refine lv_iadd hx hb dX0_record_70 ?_
      refine z_put S0 hC (ci := 0) (C := RX0) (T := TX0) (N := 5) (v := .int (k + 1)) jX0_record_X0 tyX0 tyX0_ok nmX0 0 rfl rfl 4 (by decide) kX0_record_27 rfl rfl rfl rfl (Nat.le_of_ble_eq_true rfl) dX0_record_71 (ws2 := (zwH c3.1 oH (k + 1, (o1, Bb), (o2, S2), (o3, S3), (o4, S4)) ++ zwS c3.1 ob Bb)) rfl (fun H locs hC => ?_)
      have he2 : (k + 1, (o1, Bb), (o2, S2), (o3, S3), (o4, S4)) = Hhs' := z_pos cd0 he
      subst he2
      exact z_vret S0 hr hlk hC dX0_record_74
    by_cases cd1 : k = 1
    · refine z_callPr (z_runV (n := 1) (rest := []) (As := [.int k]) S0 hC (c_X0_stateAt l G c3 oH o1.1 o2.1 o3.1 o4.1 k k (x := o2.1) ((if_neg cd0).trans (if_pos cd1))) [0] (by decide) rfl gX0_record_X0_stateAt rfl rfl rfl (by decide +kernel) ⟨Nat.le_of_ble_eq_true rfl, Nat.le_of_ble_eq_true rfl⟩ (ci := 0) (q0 := 0) rfl rfl rfl hl.1 rfl (Nat.le_of_ble_eq_true rfl) dX0_record_57) hC [0] rfl (fun H locs hC => ?_)
      refine lv_aload_n hx hb dX0_record_60 rfl (lv_at hl 1 rfl) ?_
      refine z_callv (z_runV (n := 1) (rest := []) (As := [.ref ob.1]) S0 hC (c_X2_copyFrom l G c3 o2 S2 ob Bb (z_cpEq hw)) [7, 8, 9, 10, 11, 12, 25, 26, 27, 28, 29, 30] (by decide) rfl gX0_record_X2_copyFrom rfl rfl rfl (by decide +kernel) ⟨Nat.le_of_ble_eq_true rfl, Nat.le_of_ble_eq_true rfl⟩ (ci := 2) (q0 := 7) rfl rfl rfl hl.1 rfl (Nat.le_of_ble_eq_true rfl) dX0_record_61) hC [7, 8, 9, 10, 11, 12, 25, 26, 27, 28, 29, 30] [0, 1, 2, 3, 4, 5, 6, 13, 14, 15, 16, 17, 18, 19, 20, 21, 22, 23, 24] [0, 1, 2, 3, 4, 5, 6, 19, 20, 21, 22, 23, 24, 7, 8, 9, 10, 11, 12, 13, 14, 15, 16, 17, 18, 25, 26, 27, 28, 29, 30] rfl (wr := (zwh oH o1.1 o2.1 o3.1 o4.1 k ++ zwS c3.1 o1 S1 ++ zwS c3.1 o3 S3 ++ zwS c3.1 o4 S4)) rfl (by decide) (by decide) (ws2 := (zwH c3.1 oH (k, (o1, S1), (o2, Bb), (o3, S3), (o4, S4)) ++ zwS c3.1 ob Bb)) rfl (by decide) (fun H locs hC => ?_)
      refine lv_aload_n hx hb dX0_record_64 rfl (lv_at hl 0 rfl) ?_
      refine lv_dup hx hb dX0_record_65 rfl ?_
      refine z_get S0 hC (ci := 0) (C := RX0) (T := TX0) (N := 5) (v := .int k) jX0_record_X0 0 rfl rfl 4 (by decide) kX0_record_27 rfl rfl dX0_record_66 ?_
      refine lv_iconst (v := 1) hx hb dX0_record_69 (by decide) ?_
      refine lv_iadd hx hb dX0_record_70 ?_
      refine z_put S0 hC (ci := 0) (C := RX0) (T := TX0) (N := 5) (v := .int (k + 1)) jX0_record_X0 tyX0 tyX0_ok nmX0 0 rfl rfl 4 (by decide) kX0_record_27 rfl rfl rfl rfl (Nat.le_of_ble_eq_true rfl) dX0_record_71 (ws2 := (zwH c3.1 oH (k + 1, (o1, S1), (o2, Bb), (o3, S3), (o4, S4)) ++ zwS c3.1 ob Bb)) rfl (fun H locs hC => ?_)
      have he2 : (k + 1, (o1, S1), (o2, Bb), (o3, S3), (o4, S4)) = Hhs' := z_pos cd1 (z_neg cd0 he)
      subst he2
      exact z_vret S0 hr hlk hC dX0_record_74
    by_cases cd2 : k = 2
    · refine z_callPr (z_runV (n := 1) (rest := []) (As := [.int k]) S0 hC (c_X0_stateAt l G c3 oH o1.1 o2.1 o3.1 o4.1 k k (x := o3.1) ((if_neg cd0).trans ((if_neg cd1).trans (if_pos cd2)))) [0] (by decide) rfl gX0_record_X0_stateAt rfl rfl rfl (by decide +kernel) ⟨Nat.le_of_ble_eq_true rfl, Nat.le_of_ble_eq_true rfl⟩ (ci := 0) (q0 := 0) rfl rfl rfl hl.1 rfl (Nat.le_of_ble_eq_true rfl) dX0_record_57) hC [0] rfl (fun H locs hC => ?_)
      refine lv_aload_n hx hb dX0_record_60 rfl (lv_at hl 1 rfl) ?_
      refine z_callv (z_runV (n := 1) (rest := []) (As := [.ref ob.1]) S0 hC (c_X2_copyFrom l G c3 o3 S3 ob Bb (z_cpEq hw)) [13, 14, 15, 16, 17, 18, 25, 26, 27, 28, 29, 30] (by decide) rfl gX0_record_X2_copyFrom rfl rfl rfl (by decide +kernel) ⟨Nat.le_of_ble_eq_true rfl, Nat.le_of_ble_eq_true rfl⟩ (ci := 2) (q0 := 13) rfl rfl rfl hl.1 rfl (Nat.le_of_ble_eq_true rfl) dX0_record_61) hC [13, 14, 15, 16, 17, 18, 25, 26, 27, 28, 29, 30] [0, 1, 2, 3, 4, 5, 6, 7, 8, 9, 10, 11, 12, 19, 20, 21, 22, 23, 24] [0, 1, 2, 3, 4, 5, 6, 7, 8, 9, 10, 11, 12, 19, 20, 21, 22, 23, 24, 13, 14, 15, 16, 17, 18, 25, 26, 27, 28, 29, 30] rfl (wr := (zwh oH o1.1 o2.1 o3.1 o4.1 k ++ zwS c3.1 o1 S1 ++ zwS c3.1 o2 S2 ++ zwS c3.1 o4 S4)) rfl (by decide) (by decide) (ws2 := (zwH c3.1 oH (k, (o1, S1), (o2, S2), (o3, Bb), (o4, S4)) ++ zwS c3.1 ob Bb)) rfl (by decide) (fun H locs hC => ?_)
      refine lv_aload_n hx hb dX0_record_64 rfl (lv_at hl 0 rfl) ?_
      refine lv_dup hx hb dX0_record_65 rfl ?_
      refine z_get S0 hC (ci := 0) (C := RX0) (T := TX0) (N := 5) (v := .int k) jX0_record_X0 0 rfl rfl 4 (by decide) kX0_record_27 rfl rfl dX0_record_66 ?_
      refine lv_iconst (v := 1) hx hb dX0_record_69 (by decide) ?_
      refine lv_iadd hx hb dX0_record_70 ?_
      refine z_put S0 hC (ci := 0) (C := RX0) (T := TX0) (N := 5) (v := .int (k + 1)) jX0_record_X0 tyX0 tyX0_ok nmX0 0 rfl rfl 4 (by decide) kX0_record_27 rfl rfl rfl rfl (Nat.le_of_ble_eq_true rfl) dX0_record_71 (ws2 := (zwH c3.1 oH (k + 1, (o1, S1), (o2, S2), (o3, Bb), (o4, S4)) ++ zwS c3.1 ob Bb)) rfl (fun H locs hC => ?_)
      have he2 : (k + 1, (o1, S1), (o2, S2), (o3, Bb), (o4, S4)) = Hhs' := z_pos cd2 (z_neg cd1 (z_neg cd0 he))
      subst he2
      exact z_vret S0 hr hlk hC dX0_record_74
    refine z_callPr (z_runV (n := 1) (rest := []) (As := [.int k]) S0 hC (c_X0_stateAt l G c3 oH o1.1 o2.1 o3.1 o4.1 k k (x := o4.1) ((if_neg cd0).trans ((if_neg cd1).trans (if_neg cd2)))) [0] (by decide) rfl gX0_record_X0_stateAt rfl rfl rfl (by decide +kernel) ⟨Nat.le_of_ble_eq_true rfl, Nat.le_of_ble_eq_true rfl⟩ (ci := 0) (q0 := 0) rfl rfl rfl hl.1 rfl (Nat.le_of_ble_eq_true rfl) dX0_record_57) hC [0] rfl (fun H locs hC => ?_)
    refine lv_aload_n hx hb dX0_record_60 rfl (lv_at hl 1 rfl) ?_
    refine z_callv (z_runV (n := 1) (rest := []) (As := [.ref ob.1]) S0 hC (c_X2_copyFrom l G c3 o4 S4 ob Bb (z_cpEq hw)) [19, 20, 21, 22, 23, 24, 25, 26, 27, 28, 29, 30] (by decide) rfl gX0_record_X2_copyFrom rfl rfl rfl (by decide +kernel) ⟨Nat.le_of_ble_eq_true rfl, Nat.le_of_ble_eq_true rfl⟩ (ci := 2) (q0 := 19) rfl rfl rfl hl.1 rfl (Nat.le_of_ble_eq_true rfl) dX0_record_61) hC [19, 20, 21, 22, 23, 24, 25, 26, 27, 28, 29, 30] [0, 1, 2, 3, 4, 5, 6, 7, 8, 9, 10, 11, 12, 13, 14, 15, 16, 17, 18] [0, 1, 2, 3, 4, 5, 6, 7, 8, 9, 10, 11, 12, 13, 14, 15, 16, 17, 18, 19, 20, 21, 22, 23, 24, 25, 26, 27, 28, 29, 30] rfl (wr := (zwh oH o1.1 o2.1 o3.1 o4.1 k ++ zwS c3.1 o1 S1 ++ zwS c3.1 o2 S2 ++ zwS c3.1 o3 S3)) rfl (by decide) (by decide) (ws2 := (zwH c3.1 oH (k, (o1, S1), (o2, S2), (o3, S3), (o4, Bb)) ++ zwS c3.1 ob Bb)) rfl (by decide) (fun H locs hC => ?_)
    refine lv_aload_n hx hb dX0_record_64 rfl (lv_at hl 0 rfl) ?_
    refine lv_dup hx hb dX0_record_65 rfl ?_
    refine z_get S0 hC (ci := 0) (C := RX0) (T := TX0) (N := 5) (v := .int k) jX0_record_X0 0 rfl rfl 4 (by decide) kX0_record_27 rfl rfl dX0_record_66 ?_
    refine lv_iconst (v := 1) hx hb dX0_record_69 (by decide) ?_
    refine lv_iadd hx hb dX0_record_70 ?_
    refine z_put S0 hC (ci := 0) (C := RX0) (T := TX0) (N := 5) (v := .int (k + 1)) jX0_record_X0 tyX0 tyX0_ok nmX0 0 rfl rfl 4 (by decide) kX0_record_27 rfl rfl rfl rfl (Nat.le_of_ble_eq_true rfl) dX0_record_71 (ws2 := (zwH c3.1 oH (k + 1, (o1, S1), (o2, S2), (o3, S3), (o4, Bb)) ++ zwS c3.1 ob Bb)) rfl (fun H locs hC => ?_)
    have he2 : (k + 1, (o1, S1), (o2, S2), (o3, S3), (o4, Bb)) = Hhs' := z_neg cd2 (z_neg cd1 (z_neg cd0 he))
    subst he2
    exact z_vret S0 hr hlk hC dX0_record_74
  obtain ⟨k, ⟨o1, S1⟩, ⟨o2, S2⟩, ⟨o3, S3⟩, ⟨o4, S4⟩⟩ := BH
  refine lv_aload_n hx hb dX0_record_0 rfl (lv_at hl 0 rfl) ?_
  refine z_get S0 hC (ci := 0) (C := RX0) (T := TX0) (N := 5) (v := .int k) jX0_record_X0 0 rfl rfl 4 (by decide) kX0_record_27 rfl rfl dX0_record_1 ?_
  refine lv_iconst (v := 4) hx hb dX0_record_4 (by decide) ?_
  refine lv_icmp_lt (tgt := 52) hx hb dX0_record_5 (by decide) (fun cd => ?_) (fun cd => ?_)
  · have hz : zrot (k, (o1, S1), (o2, S2), (o3, S3), (o4, S4)) = (k, (o1, S1), (o2, S2), (o3, S3), (o4, S4)) := if_pos cd
    rw [hz] at hf
    exact J52 _ H locs ls hf hC hl
  · have hz : zrot (k, (o1, S1), (o2, S2), (o3, S3), (o4, S4)) = (k - 1, (o2, S2), (o3, S3), (o4, S4), (o1, S1)) := if_neg cd
    rw [hz] at hf
    refine lv_aload_n hx hb dX0_record_8 rfl (lv_at hl 0 rfl) ?_
    refine z_get S0 hC (ci := 0) (C := RX0) (T := TX0) (N := 5) (v := .ref o1.1) jX0_record_X0 0 rfl rfl 0 (by decide) kX0_record_12 rfl rfl dX0_record_9 ?_
    refine lv_astore_n (lv' := [(2, .ref o1.1), (0, .ref oH), (1, .ref ob.1)]) hx hb dX0_record_12 rfl hl (by decide) rfl (fun ls hl => ?_)
    refine lv_aload_n hx hb dX0_record_13 rfl (lv_at hl 1 rfl) ?_
    refine lv_aload_n hx hb dX0_record_14 rfl (lv_at hl 1 rfl) ?_
    refine z_get S0 hC (ci := 0) (C := RX0) (T := TX0) (N := 5) (v := .ref o2.1) jX0_record_X0 0 rfl rfl 1 (by decide) kX0_record_18 rfl rfl dX0_record_15 ?_
    refine z_put S0 hC (ci := 0) (C := RX0) (T := TX0) (N := 5) (v := .ref o2.1) jX0_record_X0 tyX0 tyX0_ok nmX0 0 rfl rfl 0 (by decide) kX0_record_12 rfl rfl rfl rfl (Nat.le_of_ble_eq_true rfl) dX0_record_18 (ws2 := (zwh oH o2.1 o2.1 o3.1 o4.1 k ++ (zwS c3.1 o1 S1 ++ zwS c3.1 o2 S2 ++ zwS c3.1 o3 S3 ++ zwS c3.1 o4 S4) ++ zwS c3.1 ob Bb)) rfl (fun H locs hC => ?_)
    refine lv_aload_n hx hb dX0_record_21 rfl (lv_at hl 1 rfl) ?_
    refine lv_aload_n hx hb dX0_record_22 rfl (lv_at hl 1 rfl) ?_
    refine z_get S0 hC (ci := 0) (C := RX0) (T := TX0) (N := 5) (v := .ref o3.1) jX0_record_X0 0 rfl rfl 2 (by decide) kX0_record_21 rfl rfl dX0_record_23 ?_
    refine z_put S0 hC (ci := 0) (C := RX0) (T := TX0) (N := 5) (v := .ref o3.1) jX0_record_X0 tyX0 tyX0_ok nmX0 0 rfl rfl 1 (by decide) kX0_record_18 rfl rfl rfl rfl (Nat.le_of_ble_eq_true rfl) dX0_record_26 (ws2 := (zwh oH o2.1 o3.1 o3.1 o4.1 k ++ (zwS c3.1 o1 S1 ++ zwS c3.1 o2 S2 ++ zwS c3.1 o3 S3 ++ zwS c3.1 o4 S4) ++ zwS c3.1 ob Bb)) rfl (fun H locs hC => ?_)
    refine lv_aload_n hx hb dX0_record_29 rfl (lv_at hl 1 rfl) ?_
    refine lv_aload_n hx hb dX0_record_30 rfl (lv_at hl 1 rfl) ?_
    refine z_get S0 hC (ci := 0) (C := RX0) (T := TX0) (N := 5) (v := .ref o4.1) jX0_record_X0 0 rfl rfl 3 (by decide) kX0_record_24 rfl rfl dX0_record_31 ?_
    refine z_put S0 hC (ci := 0) (C := RX0) (T := TX0) (N := 5) (v := .ref o4.1) jX0_record_X0 tyX0 tyX0_ok nmX0 0 rfl rfl 2 (by decide) kX0_record_21 rfl rfl rfl rfl (Nat.le_of_ble_eq_true rfl) dX0_record_34 (ws2 := (zwh oH o2.1 o3.1 o4.1 o4.1 k ++ (zwS c3.1 o1 S1 ++ zwS c3.1 o2 S2 ++ zwS c3.1 o3 S3 ++ zwS c3.1 o4 S4) ++ zwS c3.1 ob Bb)) rfl (fun H locs hC => ?_)
    refine lv_aload_n hx hb dX0_record_37 rfl (lv_at hl 1 rfl) ?_
    refine lv_aload_n hx hb dX0_record_38 rfl (lv_at hl 0 rfl) ?_
    refine z_put S0 hC (ci := 0) (C := RX0) (T := TX0) (N := 5) (v := .ref o1.1) jX0_record_X0 tyX0 tyX0_ok nmX0 0 rfl rfl 3 (by decide) kX0_record_24 rfl rfl rfl rfl (Nat.le_of_ble_eq_true rfl) dX0_record_39 (ws2 := (zwh oH o2.1 o3.1 o4.1 o1.1 k ++ (zwS c3.1 o1 S1 ++ zwS c3.1 o2 S2 ++ zwS c3.1 o3 S3 ++ zwS c3.1 o4 S4) ++ zwS c3.1 ob Bb)) rfl (fun H locs hC => ?_)
    refine lv_aload_n hx hb dX0_record_42 rfl (lv_at hl 1 rfl) ?_
    refine lv_dup hx hb dX0_record_43 rfl ?_
    refine z_get S0 hC (ci := 0) (C := RX0) (T := TX0) (N := 5) (v := .int k) jX0_record_X0 0 rfl rfl 4 (by decide) kX0_record_27 rfl rfl dX0_record_44 ?_
    refine lv_iconst (v := 1) hx hb dX0_record_47 (by decide) ?_
    refine lv_isub hx hb dX0_record_48 ?_
    refine z_put S0 hC (ci := 0) (C := RX0) (T := TX0) (N := 5) (v := .int (k - 1)) jX0_record_X0 tyX0 tyX0_ok nmX0 0 rfl rfl 4 (by decide) kX0_record_27 rfl rfl rfl rfl (Nat.le_of_ble_eq_true rfl) dX0_record_49 (ws2 := (zwh oH o2.1 o3.1 o4.1 o1.1 (k - 1) ++ (zwS c3.1 o1 S1 ++ zwS c3.1 o2 S2 ++ zwS c3.1 o3 S3 ++ zwS c3.1 o4 S4) ++ zwS c3.1 ob Bb)) rfl (fun H locs hC => ?_)
    exact J52 _ H locs ls hf (hC.perm [0, 7, 8, 9, 10, 11, 12, 13, 14, 15, 16, 17, 18, 19, 20, 21, 22, 23, 24, 1, 2, 3, 4, 5, 6, 25, 26, 27, 28, 29, 30] (by decide) rfl) (lv_sub hl [1, 2] rfl)
set_option maxHeartbeats 4000000 in
set_option maxRecDepth 100000 in
theorem c_X0_goBack (l : Launch) (G : va_G) (c3 : zT3) (oH : Nat) (BH : zHs) (ob : zR6) (Bb : zSt) {Hhs' : zHs} {bzr' : Int32} {bzf' : Nat → Int32} {bvr' : Int32} {bvf' : Nat → Int32} {bnm' : Nat → Int32} {bpd' bnt' : Int32} (hf : f_X0_goBack BH Bb.1.1 Bb.1.2 Bb.2.1.1 Bb.2.1.2 Bb.2.2.1 Bb.2.2.2.1 Bb.2.2.2.2 = some (Hhs', bzr', bzf', bvr', bvf', bnm', bpd', bnt')) : zM l yX0_goBack wsX0_goBack ⟨3, 0, 0, 68⟩ G c3 (zwH c3.1 oH BH ++ zwS c3.1 ob Bb) [.ref oH, .ref ob.1] none (zwH c3.1 oH Hhs' ++ zwS c3.1 ob ((bzr', bzf'), (bvr', bvf'), bnm', bpd', bnt')) := by
  refine zM.of (cc := cX0_goBack) (maxL := 2) (ret := none) (by decide) rfl (Nat.le_of_ble_eq_true rfl) ?_
  intro p e s m args below meth c A ls S0 hr hlk hC hl
  have S0 : CallFix p m c cX0_goBack 2 s args wsX0_goBack RX0 := S0
  have hl : lv_has ls 2 [(0, .ref oH), (1, .ref ob.1)] := hl
  have hx := S0.1
  have hb := S0.2.1
  obtain ⟨H, hH⟩ : ∃ y, y = s.heap := ⟨_, rfl⟩
  rw [← hH] at hC ⊢
  obtain ⟨locs, hlo⟩ : ∃ y : List Loc, y = [] := ⟨_, rfl⟩
  rw [← hlo] at hC ⊢
  clear hH hlo
  obtain ⟨k, ⟨o1, S1⟩, ⟨o2, S2⟩, ⟨o3, S3⟩, ⟨o4, S4⟩⟩ := BH
  refine lv_aload_n hx hb dX0_goBack_0 rfl (lv_at hl 0 rfl) ?_
  refine z_get S0 hC (ci := 0) (C := RX0) (T := TX0) (N := 5) (v := .int k) jX0_goBack_X0 0 rfl rfl 4 (by decide) kX0_goBack_27 rfl rfl dX0_goBack_1 ?_
  refine lv_if_le (tgt := 29) hx hb dX0_goBack_4 (by decide) (fun cd => ?_) (fun cd => ?_)
  · replace hf := z_pos cd hf
    obtain ⟨e1, e2, e3, e4, e5, e6, e7, e8⟩ := z_s8 hf
    subst e1
    subst e2
    subst e3
    subst e4
    subst e5
    subst e6
    subst e7
    subst e8
    exact z_vret S0 hr hlk hC dX0_goBack_29
  · replace hf := z_neg cd hf
    obtain ⟨w, hw, hf⟩ := z_bind hf
    refine lv_aload_n hx hb dX0_goBack_7 rfl (lv_at hl 0 rfl) ?_
    refine lv_dup hx hb dX0_goBack_8 rfl ?_
    refine z_get S0 hC (ci := 0) (C := RX0) (T := TX0) (N := 5) (v := .int k) jX0_goBack_X0 0 rfl rfl 4 (by decide) kX0_goBack_27 rfl rfl dX0_goBack_9 ?_
    refine lv_iconst (v := 1) hx hb dX0_goBack_12 (by decide) ?_
    refine lv_isub hx hb dX0_goBack_13 ?_
    refine z_put S0 hC (ci := 0) (C := RX0) (T := TX0) (N := 5) (v := .int (k - 1)) jX0_goBack_X0 tyX0 tyX0_ok nmX0 0 rfl rfl 4 (by decide) kX0_goBack_27 rfl rfl rfl rfl (Nat.le_of_ble_eq_true rfl) dX0_goBack_14 (ws2 := (zwH c3.1 oH (k - 1, (o1, S1), (o2, S2), (o3, S3), (o4, S4)) ++ zwS c3.1 ob Bb)) rfl (fun H locs hC => ?_)
    refine lv_aload_n hx hb dX0_goBack_17 rfl (lv_at hl 1 rfl) ?_
    refine lv_aload_n hx hb dX0_goBack_18 rfl (lv_at hl 0 rfl) ?_
    refine lv_aload_n hx hb dX0_goBack_19 rfl (lv_at hl 0 rfl) ?_
    refine z_get S0 hC (ci := 0) (C := RX0) (T := TX0) (N := 5) (v := .int (k - 1)) jX0_goBack_X0 0 rfl rfl 4 (by decide) kX0_goBack_27 rfl rfl dX0_goBack_20 ?_
    by_cases cd0 : k - 1 = 0
    · have hp : zpick (k, (o1, S1), (o2, S2), (o3, S3), (o4, S4)) (k - 1) = S1 := if_pos cd0
      rw [hp] at hf hw
      obtain ⟨e1, e2, e3, e4, e5, e6, e7, e8⟩ := z_s8 hf
      subst e1
      subst e2
      subst e3
      subst e4
      subst e5
      subst e6
      subst e7
      subst e8
      refine z_callPr (z_runV (n := 1) (rest := [.ref ob.1]) (As := [.int (k - 1)]) S0 hC (c_X0_stateAt l G c3 oH o1.1 o2.1 o3.1 o4.1 (k - 1) (k - 1) (x := o1.1) (if_pos cd0)) [0] (by decide) rfl gX0_goBack_X0_stateAt rfl rfl rfl (by decide +kernel) ⟨Nat.le_of_ble_eq_true rfl, Nat.le_of_ble_eq_true rfl⟩ (ci := 0) (q0 := 0) rfl rfl rfl hl.1 rfl (Nat.le_of_ble_eq_true rfl) dX0_goBack_23) hC [0] rfl (fun H locs hC => ?_)
      refine z_callv (z_runV (n := 1) (rest := []) (As := [.ref o1.1]) S0 hC (c_X2_copyFrom l G c3 ob Bb o1 S1 (z_cpEq hw)) [25, 26, 27, 28, 29, 30, 1, 2, 3, 4, 5, 6] (by decide) rfl gX0_goBack_X2_copyFrom rfl rfl rfl (by decide +kernel) ⟨Nat.le_of_ble_eq_true rfl, Nat.le_of_ble_eq_true rfl⟩ (ci := 2) (q0 := 25) rfl rfl rfl hl.1 rfl (Nat.le_of_ble_eq_true rfl) dX0_goBack_26) hC [25, 26, 27, 28, 29, 30, 1, 2, 3, 4, 5, 6] [0, 7, 8, 9, 10, 11, 12, 13, 14, 15, 16, 17, 18, 19, 20, 21, 22, 23, 24] [0, 25, 26, 27, 28, 29, 30, 1, 2, 3, 4, 5, 6, 7, 8, 9, 10, 11, 12, 13, 14, 15, 16, 17, 18, 19, 20, 21, 22, 23, 24] rfl (wr := (zwh oH o1.1 o2.1 o3.1 o4.1 (k - 1) ++ zwS c3.1 o2 S2 ++ zwS c3.1 o3 S3 ++ zwS c3.1 o4 S4)) rfl (by decide) (by decide) (ws2 := (zwH c3.1 oH (k - 1, (o1, S1), (o2, S2), (o3, S3), (o4, S4)) ++ zwS c3.1 ob S1)) rfl (by decide) (fun H locs hC => ?_)
      exact z_vret S0 hr hlk hC dX0_goBack_29
    by_cases cd1 : k - 1 = 1
    · have hp : zpick (k, (o1, S1), (o2, S2), (o3, S3), (o4, S4)) (k - 1) = S2 := (if_neg cd0).trans (if_pos cd1)
      rw [hp] at hf hw
      obtain ⟨e1, e2, e3, e4, e5, e6, e7, e8⟩ := z_s8 hf
      subst e1
      subst e2
      subst e3
      subst e4
      subst e5
      subst e6
      subst e7
      subst e8
      refine z_callPr (z_runV (n := 1) (rest := [.ref ob.1]) (As := [.int (k - 1)]) S0 hC (c_X0_stateAt l G c3 oH o1.1 o2.1 o3.1 o4.1 (k - 1) (k - 1) (x := o2.1) ((if_neg cd0).trans (if_pos cd1))) [0] (by decide) rfl gX0_goBack_X0_stateAt rfl rfl rfl (by decide +kernel) ⟨Nat.le_of_ble_eq_true rfl, Nat.le_of_ble_eq_true rfl⟩ (ci := 0) (q0 := 0) rfl rfl rfl hl.1 rfl (Nat.le_of_ble_eq_true rfl) dX0_goBack_23) hC [0] rfl (fun H locs hC => ?_)
      refine z_callv (z_runV (n := 1) (rest := []) (As := [.ref o2.1]) S0 hC (c_X2_copyFrom l G c3 ob Bb o2 S2 (z_cpEq hw)) [25, 26, 27, 28, 29, 30, 7, 8, 9, 10, 11, 12] (by decide) rfl gX0_goBack_X2_copyFrom rfl rfl rfl (by decide +kernel) ⟨Nat.le_of_ble_eq_true rfl, Nat.le_of_ble_eq_true rfl⟩ (ci := 2) (q0 := 25) rfl rfl rfl hl.1 rfl (Nat.le_of_ble_eq_true rfl) dX0_goBack_26) hC [25, 26, 27, 28, 29, 30, 7, 8, 9, 10, 11, 12] [0, 1, 2, 3, 4, 5, 6, 13, 14, 15, 16, 17, 18, 19, 20, 21, 22, 23, 24] [0, 1, 2, 3, 4, 5, 6, 25, 26, 27, 28, 29, 30, 7, 8, 9, 10, 11, 12, 13, 14, 15, 16, 17, 18, 19, 20, 21, 22, 23, 24] rfl (wr := (zwh oH o1.1 o2.1 o3.1 o4.1 (k - 1) ++ zwS c3.1 o1 S1 ++ zwS c3.1 o3 S3 ++ zwS c3.1 o4 S4)) rfl (by decide) (by decide) (ws2 := (zwH c3.1 oH (k - 1, (o1, S1), (o2, S2), (o3, S3), (o4, S4)) ++ zwS c3.1 ob S2)) rfl (by decide) (fun H locs hC => ?_)
      exact z_vret S0 hr hlk hC dX0_goBack_29
    by_cases cd2 : k - 1 = 2
    · have hp : zpick (k, (o1, S1), (o2, S2), (o3, S3), (o4, S4)) (k - 1) = S3 := (if_neg cd0).trans ((if_neg cd1).trans (if_pos cd2))
      rw [hp] at hf hw
      obtain ⟨e1, e2, e3, e4, e5, e6, e7, e8⟩ := z_s8 hf
      subst e1
      subst e2
      subst e3
      subst e4
      subst e5
      subst e6
      subst e7
      subst e8
      refine z_callPr (z_runV (n := 1) (rest := [.ref ob.1]) (As := [.int (k - 1)]) S0 hC (c_X0_stateAt l G c3 oH o1.1 o2.1 o3.1 o4.1 (k - 1) (k - 1) (x := o3.1) ((if_neg cd0).trans ((if_neg cd1).trans (if_pos cd2)))) [0] (by decide) rfl gX0_goBack_X0_stateAt rfl rfl rfl (by decide +kernel) ⟨Nat.le_of_ble_eq_true rfl, Nat.le_of_ble_eq_true rfl⟩ (ci := 0) (q0 := 0) rfl rfl rfl hl.1 rfl (Nat.le_of_ble_eq_true rfl) dX0_goBack_23) hC [0] rfl (fun H locs hC => ?_)
      refine z_callv (z_runV (n := 1) (rest := []) (As := [.ref o3.1]) S0 hC (c_X2_copyFrom l G c3 ob Bb o3 S3 (z_cpEq hw)) [25, 26, 27, 28, 29, 30, 13, 14, 15, 16, 17, 18] (by decide) rfl gX0_goBack_X2_copyFrom rfl rfl rfl (by decide +kernel) ⟨Nat.le_of_ble_eq_true rfl, Nat.le_of_ble_eq_true rfl⟩ (ci := 2) (q0 := 25) rfl rfl rfl hl.1 rfl (Nat.le_of_ble_eq_true rfl) dX0_goBack_26) hC [25, 26, 27, 28, 29, 30, 13, 14, 15, 16, 17, 18] [0, 1, 2, 3, 4, 5, 6, 7, 8, 9, 10, 11, 12, 19, 20, 21, 22, 23, 24] [0, 1, 2, 3, 4, 5, 6, 7, 8, 9, 10, 11, 12, 25, 26, 27, 28, 29, 30, 13, 14, 15, 16, 17, 18, 19, 20, 21, 22, 23, 24] rfl (wr := (zwh oH o1.1 o2.1 o3.1 o4.1 (k - 1) ++ zwS c3.1 o1 S1 ++ zwS c3.1 o2 S2 ++ zwS c3.1 o4 S4)) rfl (by decide) (by decide) (ws2 := (zwH c3.1 oH (k - 1, (o1, S1), (o2, S2), (o3, S3), (o4, S4)) ++ zwS c3.1 ob S3)) rfl (by decide) (fun H locs hC => ?_)
      exact z_vret S0 hr hlk hC dX0_goBack_29
    have hp : zpick (k, (o1, S1), (o2, S2), (o3, S3), (o4, S4)) (k - 1) = S4 := (if_neg cd0).trans ((if_neg cd1).trans (if_neg cd2))
    rw [hp] at hf hw
    obtain ⟨e1, e2, e3, e4, e5, e6, e7, e8⟩ := z_s8 hf
    subst e1
    subst e2
    subst e3
    subst e4
    subst e5
    subst e6
    subst e7
    subst e8
    refine z_callPr (z_runV (n := 1) (rest := [.ref ob.1]) (As := [.int (k - 1)]) S0 hC (c_X0_stateAt l G c3 oH o1.1 o2.1 o3.1 o4.1 (k - 1) (k - 1) (x := o4.1) ((if_neg cd0).trans ((if_neg cd1).trans (if_neg cd2)))) [0] (by decide) rfl gX0_goBack_X0_stateAt rfl rfl rfl (by decide +kernel) ⟨Nat.le_of_ble_eq_true rfl, Nat.le_of_ble_eq_true rfl⟩ (ci := 0) (q0 := 0) rfl rfl rfl hl.1 rfl (Nat.le_of_ble_eq_true rfl) dX0_goBack_23) hC [0] rfl (fun H locs hC => ?_)
    refine z_callv (z_runV (n := 1) (rest := []) (As := [.ref o4.1]) S0 hC (c_X2_copyFrom l G c3 ob Bb o4 S4 (z_cpEq hw)) [25, 26, 27, 28, 29, 30, 19, 20, 21, 22, 23, 24] (by decide) rfl gX0_goBack_X2_copyFrom rfl rfl rfl (by decide +kernel) ⟨Nat.le_of_ble_eq_true rfl, Nat.le_of_ble_eq_true rfl⟩ (ci := 2) (q0 := 25) rfl rfl rfl hl.1 rfl (Nat.le_of_ble_eq_true rfl) dX0_goBack_26) hC [25, 26, 27, 28, 29, 30, 19, 20, 21, 22, 23, 24] [0, 1, 2, 3, 4, 5, 6, 7, 8, 9, 10, 11, 12, 13, 14, 15, 16, 17, 18] [0, 1, 2, 3, 4, 5, 6, 7, 8, 9, 10, 11, 12, 13, 14, 15, 16, 17, 18, 25, 26, 27, 28, 29, 30, 19, 20, 21, 22, 23, 24] rfl (wr := (zwh oH o1.1 o2.1 o3.1 o4.1 (k - 1) ++ zwS c3.1 o1 S1 ++ zwS c3.1 o2 S2 ++ zwS c3.1 o3 S3)) rfl (by decide) (by decide) (ws2 := (zwH c3.1 oH (k - 1, (o1, S1), (o2, S2), (o3, S3), (o4, S4)) ++ zwS c3.1 ob S4)) rfl (by decide) (fun H locs hC => ?_)
    exact z_vret S0 hr hlk hC dX0_goBack_29
