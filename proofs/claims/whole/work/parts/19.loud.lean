def zddiv (x y : UInt64) : Option UInt64 := if FP.ddiv x y &&& 0x7fffffffffffffff ≤ 0x7ff0000000000000 then some (FP.ddiv x y) else none
theorem zddiv_spec {x y r : UInt64} (h : zddiv x y = some r) : vf_n64 (FP.ddiv x y) ∧ FP.ddiv x y = r := by
  unfold zddiv at h
  split at h
  · rename_i hc; exact ⟨hc, Option.some.inj h⟩
  · cases h
section ZDROW
variable {p : Program} {l : Launch} {e : Env} {R : Room} {s : State} {m : MethodId} {args : Array Value} {below : List Frame} {meth : Method} {c : Code} {H : Heap} {locs : List Loc} {Q : State → Prop}
variable {cc : ByteArray} {nL pc : Nat} {Ts : List Cond} {own : String} {ls : Array Slot} {rest : List Value}
theorem z_ddiv (S : CallFix p m c cc nL s args Ts own) {x y r : UInt64} (hx : zddiv x y = some r) (hdg : decode cc pc = .ok (.ddiv, 1))
    (kk : W p l e R s m args below meth c H locs 0 0 Q (F0 m (pc + 1) ls (.double r :: rest))) : W p l e R s m args below meth c H locs 0 0 Q (F0 m pc ls (.double y :: .double x :: rest)) := by
  obtain ⟨h1, rfl⟩ := zddiv_spec hx
  exact lv_ddiv S.1 S.2.1 hdg h1 kk
end ZDROW
-- X6 loudness
def f_X6_loudness (Ms : (Nat → Int32)) : Option (UInt64) :=
  (zald 150 Ms 1).bind fun x1 => if x1 = 0 then
    some (FP.dconst0)
  else
    (f_X6_allLoud Ms).bind fun r3 => (zald 150 Ms 1).bind fun x4 => (zddiv (FP.i2d r3) (FP.i2d x4)).bind fun x5 => some (x5)

theorem kX6_loudness_7 : Cond.fieldLink RX6 7 "ZoneSamplerModel" "s" "[I" ∈ wsX6_loudness := by decide +kernel
theorem jX6_loudness_X6 : ∀ w ∈ u_ws RX6 TX6 17, w ∈ wsX6_loudness := by decide +kernel
set_option maxHeartbeats 4000000 in
set_option maxRecDepth 100000 in
theorem c_X6_loudness (l : Launch) (G : va_G) (c3 : zT3) (oM : zR8) (BM : zMd) {r : UInt64} (hf : f_X6_loudness BM.1 = some (r)) : zM l yX6_loudness wsX6_loudness ⟨2, 0, 0, 44⟩ G c3 (zwM c3.1 c3.2.2 oM (BM.1, BM.2.1, BM.2.2.1, BM.2.2.2.1, BM.2.2.2.2.1, BM.2.2.2.2.2.1, BM.2.2.2.2.2.2.1, BM.2.2.2.2.2.2.2.1, BM.2.2.2.2.2.2.2.2.1, BM.2.2.2.2.2.2.2.2.2.1, BM.2.2.2.2.2.2.2.2.2.2.1, BM.2.2.2.2.2.2.2.2.2.2.2.1, BM.2.2.2.2.2.2.2.2.2.2.2.2.1, BM.2.2.2.2.2.2.2.2.2.2.2.2.2.1, BM.2.2.2.2.2.2.2.2.2.2.2.2.2.2.1, BM.2.2.2.2.2.2.2.2.2.2.2.2.2.2.2.1, BM.2.2.2.2.2.2.2.2.2.2.2.2.2.2.2.2)) [.ref oM.1] (some (.double r)) (zwM c3.1 c3.2.2 oM (BM.1, BM.2.1, BM.2.2.1, BM.2.2.2.1, BM.2.2.2.2.1, BM.2.2.2.2.2.1, BM.2.2.2.2.2.2.1, BM.2.2.2.2.2.2.2.1, BM.2.2.2.2.2.2.2.2.1, BM.2.2.2.2.2.2.2.2.2.1, BM.2.2.2.2.2.2.2.2.2.2.1, BM.2.2.2.2.2.2.2.2.2.2.2.1, BM.2.2.2.2.2.2.2.2.2.2.2.2.1, BM.2.2.2.2.2.2.2.2.2.2.2.2.2.1, BM.2.2.2.2.2.2.2.2.2.2.2.2.2.2.1, BM.2.2.2.2.2.2.2.2.2.2.2.2.2.2.2.1, BM.2.2.2.2.2.2.2.2.2.2.2.2.2.2.2.2)) := by
  obtain ⟨Ms, Mas, Mpa, Mkn, Mke, Mik, Mpp, Mle, Mso, Mfz, Msp, Mfo, Mrd, Mrs, Mlt, Mfi, Mse⟩ := BM
  have hf : f_X6_loudness Ms = some (r) := hf
  show zM l yX6_loudness wsX6_loudness ⟨2, 0, 0, 44⟩ G c3 (zwM c3.1 c3.2.2 oM (Ms, Mas, Mpa, Mkn, Mke, Mik, Mpp, Mle, Mso, Mfz, Msp, Mfo, Mrd, Mrs, Mlt, Mfi, Mse)) [.ref oM.1] (some (.double r)) (zwM c3.1 c3.2.2 oM (Ms, Mas, Mpa, Mkn, Mke, Mik, Mpp, Mle, Mso, Mfz, Msp, Mfo, Mrd, Mrs, Mlt, Mfi, Mse))
  refine zM.of (cc := cX6_loudness) (maxL := 1) (ret := (some .double)) (by decide) rfl (Nat.le_of_ble_eq_true rfl) ?_
  intro p e s m args below meth c A ls S0 hr hlk hC hl
  have S0 : CallFix p m c cX6_loudness 1 s args wsX6_loudness RX6 := S0
  have hl : lv_has ls 1 [(0, .ref oM.1)] := hl
  have hx := S0.1
  have hb := S0.2.1
  obtain ⟨H, hH⟩ : ∃ y, y = s.heap := ⟨_, rfl⟩
  rw [← hH] at hC ⊢
  obtain ⟨locs, hlo⟩ : ∃ y : List Loc, y = [] := ⟨_, rfl⟩
  rw [← hlo] at hC ⊢
  clear hH hlo
  unfold f_X6_loudness at hf
  refine lv_aload_n hx hb dX6_loudness_0 rfl (lv_at hl 0 rfl) ?_
  refine z_get S0 hC (ci := 6) (C := RX6) (T := TX6) (N := 17) (v := .ref oM.2.1) jX6_loudness_X6 0 rfl rfl 0 (by decide) kX6_loudness_7 rfl rfl dX6_loudness_1 ?_
  refine lv_iconst (v := 1) hx hb dX6_loudness_4 (by decide) ?_
  obtain ⟨x1, hx1, hf⟩ := z_bind hf
  refine z_iald S0 hC 1 rfl hx1 dX6_loudness_5 ?_
  refine lv_if_ne (tgt := 13) hx hb dX6_loudness_6 (by decide) (fun cd2 => ?_) (fun cd2 => ?_)
  · replace hf := z_neg cd2 hf
    refine lv_aload_n hx hb dX6_loudness_13 rfl (lv_at hl 0 rfl) ?_
    obtain ⟨r3, hr3, hf⟩ := z_bind hf
    refine z_callPi (z_runV (n := 0) (rest := []) (As := []) S0 hC (c_X6_allLoud l G c3 oM (Ms, Mas, Mpa, Mkn, Mke, Mik, Mpp, Mle, Mso, Mfz, Msp, Mfo, Mrd, Mrs, Mlt, Mfi, Mse) hr3) [0, 1, 2, 3, 4, 5, 6, 7] (by decide) rfl gX6_loudness_X6_allLoud rfl rfl rfl (by decide +kernel) ⟨Nat.le_of_ble_eq_true rfl, Nat.le_of_ble_eq_true rfl⟩ (ci := 6) (q0 := 0) rfl rfl rfl hl.1 rfl (Nat.le_of_ble_eq_true rfl) dX6_loudness_14) hC [0, 1, 2, 3, 4, 5, 6, 7] rfl (fun H locs hC => ?_)
    refine lv_i2d hx hb dX6_loudness_17 ?_
    refine lv_aload_n hx hb dX6_loudness_18 rfl (lv_at hl 0 rfl) ?_
    refine z_get S0 hC (ci := 6) (C := RX6) (T := TX6) (N := 17) (v := .ref oM.2.1) jX6_loudness_X6 0 rfl rfl 0 (by decide) kX6_loudness_7 rfl rfl dX6_loudness_19 ?_
    refine lv_iconst (v := 1) hx hb dX6_loudness_22 (by decide) ?_
    obtain ⟨x4, hx4, hf⟩ := z_bind hf
    refine z_iald S0 hC 1 rfl hx4 dX6_loudness_23 ?_
    refine lv_i2d hx hb dX6_loudness_24 ?_
    obtain ⟨x5, hx5, hf⟩ := z_bind hf
    refine z_ddiv S0 hx5 dX6_loudness_25 ?_
    have e1 := z_s1 hf
    subst e1
    exact z_dret S0 hr hlk hC dX6_loudness_26
  · replace hf := z_pos cd2 hf
    refine lv_dconst0 hx hb dX6_loudness_9 ?_
    refine lv_goto (tgt := 26) hx hb dX6_loudness_10 (by decide) ?_
    have e1 := z_s1 hf
    subst e1
    exact z_dret S0 hr hlk hC dX6_loudness_26

-- X5 loudness
def f_X5_loudness (Nvr : Int32) (Nvf : (Nat → Int32)) : Option (UInt64) :=
  (f_X4_rows 56 Nvr).bind fun r1 => if r1 ≤ 0 then
    some (FP.dconst0)
  else
    (f_X4_sumOf 56 Nvr Nvf 3).bind fun r3 => (zddiv (FP.i2d r3) (FP.i2d r1)).bind fun x4 => some (x4)

theorem kX5_loudness_10 : Cond.fieldLink RX5 10 "ZoneSampler" "now" "LZoneSampler$State;" ∈ wsX5_loudness := by decide +kernel
theorem jX5_loudness_X2 : ∀ w ∈ u_ws RX2 TX2 5, w ∈ wsX5_loudness := by decide +kernel
theorem jX5_loudness_X5 : ∀ w ∈ u_ws RX5 TX5 7, w ∈ wsX5_loudness := by decide +kernel
set_option maxHeartbeats 4000000 in
set_option maxRecDepth 100000 in
theorem c_X5_loudness (l : Launch) (G : va_G) (c3 : zT3) (oZ : Nat) (oN oT oK : zR6) (oH : Nat) (oP oV : zR2) (BZ : Int32) (BN : zSt) {r : UInt64} (hf : f_X5_loudness BN.2.1.1 BN.2.1.2 = some (r)) : zM l yX5_loudness wsX5_loudness ⟨2, 0, 0, 46⟩ G c3 (zwZ oZ oN oT oK oH oP oV BZ ++ zwS c3.1 oN ((BN.1.1, BN.1.2), (BN.2.1.1, BN.2.1.2), BN.2.2.1, BN.2.2.2.1, BN.2.2.2.2)) [.ref oZ] (some (.double r)) (zwZ oZ oN oT oK oH oP oV BZ ++ zwS c3.1 oN ((BN.1.1, BN.1.2), (BN.2.1.1, BN.2.1.2), BN.2.2.1, BN.2.2.2.1, BN.2.2.2.2)) := by
  obtain ⟨Zss, rfl⟩ : ∃ y, y = BZ := ⟨_, rfl⟩
  obtain ⟨⟨Nzr, Nzf⟩, ⟨Nvr, Nvf⟩, Nnm, Npd, Nnt⟩ := BN
  have hf : f_X5_loudness Nvr Nvf = some (r) := hf
  show zM l yX5_loudness wsX5_loudness ⟨2, 0, 0, 46⟩ G c3 (zwZ oZ oN oT oK oH oP oV Zss ++ zwS c3.1 oN ((Nzr, Nzf), (Nvr, Nvf), Nnm, Npd, Nnt)) [.ref oZ] (some (.double r)) (zwZ oZ oN oT oK oH oP oV Zss ++ zwS c3.1 oN ((Nzr, Nzf), (Nvr, Nvf), Nnm, Npd, Nnt))
  refine zM.of (cc := cX5_loudness) (maxL := 2) (ret := (some .double)) (by decide) rfl (Nat.le_of_ble_eq_true rfl) ?_
  intro p e s m args below meth c A ls S0 hr hlk hC hl
  have S0 : CallFix p m c cX5_loudness 2 s args wsX5_loudness RX5 := S0
  have hl : lv_has ls 2 [(0, .ref oZ)] := hl
  have hx := S0.1
  have hb := S0.2.1
  obtain ⟨H, hH⟩ : ∃ y, y = s.heap := ⟨_, rfl⟩
  rw [← hH] at hC ⊢
  obtain ⟨locs, hlo⟩ : ∃ y : List Loc, y = [] := ⟨_, rfl⟩
  rw [← hlo] at hC ⊢
  clear hH hlo
  unfold f_X5_loudness at hf
  refine lv_aload_n hx hb dX5_loudness_0 rfl (lv_at hl 0 rfl) ?_
  refine z_get S0 hC (ci := 5) (C := RX5) (T := TX5) (N := 7) (v := .ref oN.1) jX5_loudness_X5 0 rfl rfl 0 (by decide) kX5_loudness_10 rfl rfl dX5_loudness_1 ?_
  refine z_getN S0 hC (host := "ZoneSampler") (ci := 2) (C := RX2) (T := TX2) (N := 5) (v := .ref oN.2.2.2.1) jX5_loudness_X2 1 rfl rfl 1 (by decide) (by decide +kernel : Cond.fieldLinkNest RX5 168 "ZoneSampler$State" "voices" "LZoneSampler$Table;" "ZoneSampler" ∈ zNW) rfl rfl dX5_loudness_4 ?_
  obtain ⟨r1, hr1, hf⟩ := z_bind hf
  refine z_callPi (z_runV (n := 0) (rest := []) (As := []) S0 hC (c_X4_rows l G c3 oN.2.2.2 56 (Nvr, Nvf) hr1) [5, 6] (by decide) rfl gX5_loudness_X4_rows rfl rfl rfl (by decide +kernel) ⟨Nat.le_of_ble_eq_true rfl, Nat.le_of_ble_eq_true rfl⟩ (ci := 4) (q0 := 5) rfl rfl rfl hl.1 rfl (Nat.le_of_ble_eq_true rfl) dX5_loudness_7) hC [5, 6] rfl (fun H locs hC => ?_)
  refine lv_istore_n (lv' := [(1, .int r1), (0, .ref oZ)]) hx hb dX5_loudness_10 rfl hl (by decide) rfl (fun ls hl => ?_)
  refine lv_iload_n hx hb dX5_loudness_11 rfl (lv_at hl 0 rfl) ?_
  refine lv_if_le (tgt := 33) hx hb dX5_loudness_12 (by decide) (fun cd2 => ?_) (fun cd2 => ?_)
  · replace hf := z_pos cd2 hf
    refine lv_dconst0 hx hb dX5_loudness_33 ?_
    have e1 := z_s1 hf
    subst e1
    exact z_dret S0 hr hlk hC dX5_loudness_34
  · replace hf := z_neg cd2 hf
    refine lv_aload_n hx hb dX5_loudness_15 rfl (lv_at hl 1 rfl) ?_
    refine z_get S0 hC (ci := 5) (C := RX5) (T := TX5) (N := 7) (v := .ref oN.1) jX5_loudness_X5 0 rfl rfl 0 (by decide) kX5_loudness_10 rfl rfl dX5_loudness_16 ?_
    refine z_getN S0 hC (host := "ZoneSampler") (ci := 2) (C := RX2) (T := TX2) (N := 5) (v := .ref oN.2.2.2.1) jX5_loudness_X2 1 rfl rfl 1 (by decide) (by decide +kernel : Cond.fieldLinkNest RX5 168 "ZoneSampler$State" "voices" "LZoneSampler$Table;" "ZoneSampler" ∈ zNW) rfl rfl dX5_loudness_19 ?_
    refine lv_iconst (v := 3) hx hb dX5_loudness_22 (by decide) ?_
    obtain ⟨r3, hr3, hf⟩ := z_bind hf
    refine z_callPi (z_runV (n := 1) (rest := []) (As := [.int 3]) S0 hC (c_X4_sumOf l G c3 oN.2.2.2 56 (Nvr, Nvf) 3 hr3) [5, 6] (by decide) rfl gX5_loudness_X4_sumOf rfl rfl rfl (by decide +kernel) ⟨Nat.le_of_ble_eq_true rfl, Nat.le_of_ble_eq_true rfl⟩ (ci := 4) (q0 := 5) rfl rfl rfl hl.1 rfl (Nat.le_of_ble_eq_true rfl) dX5_loudness_23) hC [5, 6] rfl (fun H locs hC => ?_)
    refine lv_i2d hx hb dX5_loudness_26 ?_
    refine lv_iload_n hx hb dX5_loudness_27 rfl (lv_at hl 0 rfl) ?_
    refine lv_i2d hx hb dX5_loudness_28 ?_
    obtain ⟨x4, hx4, hf⟩ := z_bind hf
    refine z_ddiv S0 hx4 dX5_loudness_29 ?_
    refine lv_goto (tgt := 34) hx hb dX5_loudness_30 (by decide) ?_
    have e1 := z_s1 hf
    subst e1
    exact z_dret S0 hr hlk hC dX5_loudness_34
