-- X4 copyFrom
def f_X4_copyFrom (nT : Nat) (Tr : Int32) (Tf : (Nat → Int32)) (br : Int32) (bf : (Nat → Int32)) : Option (Int32 × (Nat → Int32)) :=
  (zsm nT).bind fun _ => some (br, bf)

theorem kX4_copyFrom_13 : Cond.fieldLink RX4 13 "ZoneSampler$Table" "cells" "[I" ∈ wsX4_copyFrom := by decide +kernel
theorem kX4_copyFrom_28 : Cond.methodLink RX4 28 Lib.Math.min.name ∈ wsX4_copyFrom := by decide +kernel
theorem kX4_copyFrom_28st : Cond.static Lib.Math.min.name ∈ wsX4_copyFrom := by decide +kernel
theorem kX4_copyFrom_28in : Cond.initialized "java/lang/Math" ∈ wsX4_copyFrom := by decide +kernel
theorem kX4_copyFrom_28co : Cond.code Lib.Math.min.name Lib.Math.min.code 2 (some .int) ∈ wsX4_copyFrom := by decide +kernel
theorem kX4_copyFrom_33 : Cond.methodLink RX4 33 arraycopyName ∈ wsX4_copyFrom := by decide +kernel
theorem kX4_copyFrom_33na : Cond.native arraycopyName ∈ wsX4_copyFrom := by decide +kernel
theorem kX4_copyFrom_33st : Cond.static arraycopyName ∈ wsX4_copyFrom := by decide +kernel
theorem kX4_copyFrom_33in : Cond.initialized "java/lang/System" ∈ wsX4_copyFrom := by decide +kernel
theorem kX4_copyFrom_17 : Cond.fieldLink RX4 17 "ZoneSampler$Table" "rows" "I" ∈ wsX4_copyFrom := by decide +kernel
theorem jX4_copyFrom_X4 : ∀ w ∈ u_ws RX4 TX4 3, w ∈ wsX4_copyFrom := by decide +kernel
set_option maxHeartbeats 4000000 in
set_option maxRecDepth 100000 in
theorem c_X4_copyFrom (l : Launch) (G : va_G) (c3 : zT3) (oT : zR2) (nT : Nat) (BT : zTb) (ob : zR2) (Bb : zTb) {Tr' : Int32} {Tf' : (Nat → Int32)} (hf : f_X4_copyFrom nT BT.1 BT.2 Bb.1 Bb.2 = some (Tr', Tf')) : zM l yX4_copyFrom wsX4_copyFrom ⟨1, 0, 0, 26⟩ G c3 (zwT c3.1 nT oT (BT.1, BT.2) ++ zwT c3.1 nT ob (Bb.1, Bb.2)) [.ref oT.1, .ref ob.1] none (zwT c3.1 nT oT (Tr', Tf') ++ zwT c3.1 nT ob (Bb.1, Bb.2)) := by
  obtain ⟨Tr, Tf⟩ := BT
  obtain ⟨br, bf⟩ := Bb
  have hf : f_X4_copyFrom nT Tr Tf br bf = some (Tr', Tf') := hf
  show zM l yX4_copyFrom wsX4_copyFrom ⟨1, 0, 0, 26⟩ G c3 (zwT c3.1 nT oT (Tr, Tf) ++ zwT c3.1 nT ob (br, bf)) [.ref oT.1, .ref ob.1] none (zwT c3.1 nT oT (Tr', Tf') ++ zwT c3.1 nT ob (br, bf))
  refine zM.of (cc := cX4_copyFrom) (maxL := 2) (ret := none) (by decide) rfl (Nat.le_of_ble_eq_true rfl) ?_
  intro p e s m args below meth c A ls S0 hr hlk hC hl
  have S0 : CallFix p m c cX4_copyFrom 2 s args wsX4_copyFrom RX4 := S0
  have hl : lv_has ls 2 [(0, .ref oT.1), (1, .ref ob.1)] := hl
  have hx := S0.1
  have hb := S0.2.1
  obtain ⟨H, hH⟩ : ∃ y, y = s.heap := ⟨_, rfl⟩
  rw [← hH] at hC ⊢
  obtain ⟨locs, hlo⟩ : ∃ y : List Loc, y = [] := ⟨_, rfl⟩
  rw [← hlo] at hC ⊢
  clear hH hlo
  unfold f_X4_copyFrom at hf
  refine lv_aload_n hx hb dX4_copyFrom_0 rfl (lv_at hl 1 rfl) ?_
  refine z_get S0 hC (ci := 4) (C := RX4) (T := TX4) (N := 3) (v := .ref ob.2) jX4_copyFrom_X4 2 rfl rfl 1 (by decide) kX4_copyFrom_13 rfl rfl dX4_copyFrom_1 ?_
  refine lv_iconst (v := 0) hx hb dX4_copyFrom_4 (by decide) ?_
  refine lv_aload_n hx hb dX4_copyFrom_5 rfl (lv_at hl 0 rfl) ?_
  refine z_get S0 hC (ci := 4) (C := RX4) (T := TX4) (N := 3) (v := .ref oT.2) jX4_copyFrom_X4 0 rfl rfl 1 (by decide) kX4_copyFrom_13 rfl rfl dX4_copyFrom_6 ?_
  refine lv_iconst (v := 0) hx hb dX4_copyFrom_9 (by decide) ?_
  refine lv_aload_n hx hb dX4_copyFrom_10 rfl (lv_at hl 0 rfl) ?_
  refine z_get S0 hC (ci := 4) (C := RX4) (T := TX4) (N := 3) (v := .ref oT.2) jX4_copyFrom_X4 0 rfl rfl 1 (by decide) kX4_copyFrom_13 rfl rfl dX4_copyFrom_11 ?_
  refine z_alen S0 hC 1 0 rfl rfl (v := (Int32.ofNat nT)) rfl dX4_copyFrom_14 ?_
  refine lv_aload_n hx hb dX4_copyFrom_15 rfl (lv_at hl 1 rfl) ?_
  refine z_get S0 hC (ci := 4) (C := RX4) (T := TX4) (N := 3) (v := .ref ob.2) jX4_copyFrom_X4 2 rfl rfl 1 (by decide) kX4_copyFrom_13 rfl rfl dX4_copyFrom_16 ?_
  refine z_alen S0 hC 3 0 rfl rfl (v := (Int32.ofNat nT)) rfl dX4_copyFrom_19 ?_
  refine z_mmin S0 hl.1 kX4_copyFrom_28 kX4_copyFrom_28st kX4_copyFrom_28in kX4_copyFrom_28co (Nat.le_of_ble_eq_true rfl) (Nat.le_of_ble_eq_true rfl) dX4_copyFrom_20 ?_
  obtain ⟨w1, hw1, hf⟩ := z_bind hf
  refine z_copyAll S0 hl.1 hC kX4_copyFrom_33 kX4_copyFrom_33na kX4_copyFrom_33st kX4_copyFrom_33in 3 1 rfl rfl (ite_self _) (zsm_spec hw1) (Nat.le_of_ble_eq_true rfl) (Nat.le_of_ble_eq_true rfl) dX4_copyFrom_23 (ws2 := (zwT c3.1 nT oT (Tr, bf) ++ zwT c3.1 nT ob (br, bf))) rfl (fun H locs hC => ?_)
  refine lv_aload_n hx hb dX4_copyFrom_26 rfl (lv_at hl 0 rfl) ?_
  refine lv_aload_n hx hb dX4_copyFrom_27 rfl (lv_at hl 1 rfl) ?_
  refine z_get S0 hC (ci := 4) (C := RX4) (T := TX4) (N := 3) (v := .int br) jX4_copyFrom_X4 2 rfl rfl 2 (by decide) kX4_copyFrom_17 rfl rfl dX4_copyFrom_28 ?_
  refine z_put S0 hC (ci := 4) (C := RX4) (T := TX4) (N := 3) (v := .int br) jX4_copyFrom_X4 tyX4 tyX4_ok nmX4 0 rfl rfl 2 (by decide) kX4_copyFrom_17 rfl rfl rfl rfl (Nat.le_of_ble_eq_true rfl) dX4_copyFrom_31 (ws2 := (zwT c3.1 nT oT (br, bf) ++ zwT c3.1 nT ob (br, bf))) rfl (fun H locs hC => ?_)
  obtain ⟨e1, e2⟩ := z_s2 hf
  subst e1
  subst e2
  exact z_vret S0 hr hlk hC dX4_copyFrom_34

-- X2 copyFrom
def f_X2_copyFrom (Szr : Int32) (Szf : (Nat → Int32)) (Svr : Int32) (Svf : (Nat → Int32)) (Snm : (Nat → Int32)) (Spd : Int32) (Snt : Int32) (bzr : Int32) (bzf : (Nat → Int32)) (bvr : Int32) (bvf : (Nat → Int32)) (bnm : (Nat → Int32)) (bpd : Int32) (bnt : Int32) : Option (Int32 × (Nat → Int32) × Int32 × (Nat → Int32) × (Nat → Int32) × Int32 × Int32) :=
  (f_X4_copyFrom 70 Szr Szf bzr bzf).bind fun r1 => (f_X4_copyFrom 56 Svr Svf bvr bvf).bind fun r2 => (zsm 13).bind fun _ => (zbool bpd).bind fun _ => some (r1.1, r1.2, r2.1, r2.2, bnm, bpd, bnt)

theorem kX2_copyFrom_14 : Cond.fieldLink RX2 14 "ZoneSampler$State" "zones" "LZoneSampler$Table;" ∈ wsX2_copyFrom := by decide +kernel
theorem kX2_copyFrom_20 : Cond.fieldLink RX2 20 "ZoneSampler$State" "voices" "LZoneSampler$Table;" ∈ wsX2_copyFrom := by decide +kernel
theorem kX2_copyFrom_23 : Cond.fieldLink RX2 23 "ZoneSampler$State" "numbers" "[I" ∈ wsX2_copyFrom := by decide +kernel
theorem kX2_copyFrom_34 : Cond.methodLink RX2 34 Lib.Math.min.name ∈ wsX2_copyFrom := by decide +kernel
theorem kX2_copyFrom_34st : Cond.static Lib.Math.min.name ∈ wsX2_copyFrom := by decide +kernel
theorem kX2_copyFrom_34in : Cond.initialized "java/lang/Math" ∈ wsX2_copyFrom := by decide +kernel
theorem kX2_copyFrom_34co : Cond.code Lib.Math.min.name Lib.Math.min.code 2 (some .int) ∈ wsX2_copyFrom := by decide +kernel
theorem kX2_copyFrom_40 : Cond.methodLink RX2 40 arraycopyName ∈ wsX2_copyFrom := by decide +kernel
theorem kX2_copyFrom_40na : Cond.native arraycopyName ∈ wsX2_copyFrom := by decide +kernel
theorem kX2_copyFrom_40st : Cond.static arraycopyName ∈ wsX2_copyFrom := by decide +kernel
theorem kX2_copyFrom_40in : Cond.initialized "java/lang/System" ∈ wsX2_copyFrom := by decide +kernel
theorem kX2_copyFrom_46 : Cond.fieldLink RX2 46 "ZoneSampler$State" "pedalDown" "Z" ∈ wsX2_copyFrom := by decide +kernel
theorem kX2_copyFrom_50 : Cond.fieldLink RX2 50 "ZoneSampler$State" "notes" "I" ∈ wsX2_copyFrom := by decide +kernel
theorem jX2_copyFrom_X2 : ∀ w ∈ u_ws RX2 TX2 5, w ∈ wsX2_copyFrom := by decide +kernel
set_option maxHeartbeats 4000000 in
set_option maxRecDepth 100000 in
theorem c_X2_copyFrom (l : Launch) (G : va_G) (c3 : zT3) (oS : zR6) (BS : zSt) (ob : zR6) (Bb : zSt) {Szr' : Int32} {Szf' : (Nat → Int32)} {Svr' : Int32} {Svf' : (Nat → Int32)} {Snm' : (Nat → Int32)} {Spd' : Int32} {Snt' : Int32} (hf : f_X2_copyFrom BS.1.1 BS.1.2 BS.2.1.1 BS.2.1.2 BS.2.2.1 BS.2.2.2.1 BS.2.2.2.2 Bb.1.1 Bb.1.2 Bb.2.1.1 Bb.2.1.2 Bb.2.2.1 Bb.2.2.2.1 Bb.2.2.2.2 = some (Szr', Szf', Svr', Svf', Snm', Spd', Snt')) : zM l yX2_copyFrom wsX2_copyFrom ⟨2, 0, 0, 47⟩ G c3 (zwS c3.1 oS ((BS.1.1, BS.1.2), (BS.2.1.1, BS.2.1.2), BS.2.2.1, BS.2.2.2.1, BS.2.2.2.2) ++ zwS c3.1 ob ((Bb.1.1, Bb.1.2), (Bb.2.1.1, Bb.2.1.2), Bb.2.2.1, Bb.2.2.2.1, Bb.2.2.2.2)) [.ref oS.1, .ref ob.1] none (zwS c3.1 oS ((Szr', Szf'), (Svr', Svf'), Snm', Spd', Snt') ++ zwS c3.1 ob ((Bb.1.1, Bb.1.2), (Bb.2.1.1, Bb.2.1.2), Bb.2.2.1, Bb.2.2.2.1, Bb.2.2.2.2)) := by
  obtain ⟨⟨Szr, Szf⟩, ⟨Svr, Svf⟩, Snm, Spd, Snt⟩ := BS
  obtain ⟨⟨bzr, bzf⟩, ⟨bvr, bvf⟩, bnm, bpd, bnt⟩ := Bb
  have hf : f_X2_copyFrom Szr Szf Svr Svf Snm Spd Snt bzr bzf bvr bvf bnm bpd bnt = some (Szr', Szf', Svr', Svf', Snm', Spd', Snt') := hf
  show zM l yX2_copyFrom wsX2_copyFrom ⟨2, 0, 0, 47⟩ G c3 (zwS c3.1 oS ((Szr, Szf), (Svr, Svf), Snm, Spd, Snt) ++ zwS c3.1 ob ((bzr, bzf), (bvr, bvf), bnm, bpd, bnt)) [.ref oS.1, .ref ob.1] none (zwS c3.1 oS ((Szr', Szf'), (Svr', Svf'), Snm', Spd', Snt') ++ zwS c3.1 ob ((bzr, bzf), (bvr, bvf), bnm, bpd, bnt))
  refine zM.of (cc := cX2_copyFrom) (maxL := 2) (ret := none) (by decide) rfl (Nat.le_of_ble_eq_true rfl) ?_
  intro p e s m args below meth c A ls S0 hr hlk hC hl
  have S0 : CallFix p m c cX2_copyFrom 2 s args wsX2_copyFrom RX2 := S0
  have hl : lv_has ls 2 [(0, .ref oS.1), (1, .ref ob.1)] := hl
  have hx := S0.1
  have hb := S0.2.1
  obtain ⟨H, hH⟩ : ∃ y, y = s.heap := ⟨_, rfl⟩
  rw [← hH] at hC ⊢
  obtain ⟨locs, hlo⟩ : ∃ y : List Loc, y = [] := ⟨_, rfl⟩
  rw [← hlo] at hC ⊢
  clear hH hlo
  unfold f_X2_copyFrom at hf
  refine lv_aload_n hx hb dX2_copyFrom_0 rfl (lv_at hl 0 rfl) ?_
  refine z_get S0 hC (ci := 2) (C := RX2) (T := TX2) (N := 5) (v := .ref oS.2.2.1.1) jX2_copyFrom_X2 0 rfl rfl 0 (by decide) kX2_copyFrom_14 rfl rfl dX2_copyFrom_1 ?_
  refine lv_aload_n hx hb dX2_copyFrom_4 rfl (lv_at hl 1 rfl) ?_
  refine z_get S0 hC (ci := 2) (C := RX2) (T := TX2) (N := 5) (v := .ref ob.2.2.1.1) jX2_copyFrom_X2 6 rfl rfl 0 (by decide) kX2_copyFrom_14 rfl rfl dX2_copyFrom_5 ?_
  obtain ⟨r1, hr1, hf⟩ := z_bind hf
  refine z_callv (z_runV (n := 1) (rest := []) (As := [.ref ob.2.2.1.1]) S0 hC (c_X4_copyFrom l G c3 oS.2.2.1 70 (Szr, Szf) ob.2.2.1 (bzr, bzf) hr1) [2, 3, 8, 9] (by decide) rfl gX2_copyFrom_X4_copyFrom rfl rfl rfl (by decide +kernel) ⟨Nat.le_of_ble_eq_true rfl, Nat.le_of_ble_eq_true rfl⟩ (ci := 4) (q0 := 2) rfl rfl rfl hl.1 rfl (Nat.le_of_ble_eq_true rfl) dX2_copyFrom_8) hC [2, 3, 8, 9] [0, 1, 4, 5, 6, 7, 10, 11] [0, 1, 8, 9, 2, 3, 4, 5, 10, 11, 6, 7] rfl (wr := [(oS.1, .inr (2, [.ref oS.2.2.1.1, .ref oS.2.2.2.1, .ref oS.2.1, .int Spd, .int Snt])), (oS.2.1, .inl (c3.1, 13, .inl Snm)), (oS.2.2.2.1, .inr (4, [.int 7, .ref oS.2.2.2.2, .int Svr])), (oS.2.2.2.2, .inl (c3.1, 56, .inl Svf)), (ob.1, .inr (2, [.ref ob.2.2.1.1, .ref ob.2.2.2.1, .ref ob.2.1, .int bpd, .int bnt])), (ob.2.1, .inl (c3.1, 13, .inl bnm)), (ob.2.2.2.1, .inr (4, [.int 7, .ref ob.2.2.2.2, .int bvr])), (ob.2.2.2.2, .inl (c3.1, 56, .inl bvf))]) rfl (by decide) (by decide) (ws2 := (zwS c3.1 oS ((r1.1, r1.2), (Svr, Svf), Snm, Spd, Snt) ++ zwS c3.1 ob ((bzr, bzf), (bvr, bvf), bnm, bpd, bnt))) rfl (by decide) (fun H locs hC => ?_)
  refine lv_aload_n hx hb dX2_copyFrom_11 rfl (lv_at hl 0 rfl) ?_
  refine z_get S0 hC (ci := 2) (C := RX2) (T := TX2) (N := 5) (v := .ref oS.2.2.2.1) jX2_copyFrom_X2 0 rfl rfl 1 (by decide) kX2_copyFrom_20 rfl rfl dX2_copyFrom_12 ?_
  refine lv_aload_n hx hb dX2_copyFrom_15 rfl (lv_at hl 1 rfl) ?_
  refine z_get S0 hC (ci := 2) (C := RX2) (T := TX2) (N := 5) (v := .ref ob.2.2.2.1) jX2_copyFrom_X2 6 rfl rfl 1 (by decide) kX2_copyFrom_20 rfl rfl dX2_copyFrom_16 ?_
  obtain ⟨r2, hr2, hf⟩ := z_bind hf
  refine z_callv (z_runV (n := 1) (rest := []) (As := [.ref ob.2.2.2.1]) S0 hC (c_X4_copyFrom l G c3 oS.2.2.2 56 (Svr, Svf) ob.2.2.2 (bvr, bvf) hr2) [4, 5, 10, 11] (by decide) rfl gX2_copyFrom_X4_copyFrom rfl rfl rfl (by decide +kernel) ⟨Nat.le_of_ble_eq_true rfl, Nat.le_of_ble_eq_true rfl⟩ (ci := 4) (q0 := 4) rfl rfl rfl hl.1 rfl (Nat.le_of_ble_eq_true rfl) dX2_copyFrom_19) hC [4, 5, 10, 11] [0, 1, 2, 3, 6, 7, 8, 9] [0, 1, 2, 3, 8, 9, 4, 5, 6, 7, 10, 11] rfl (wr := [(oS.1, .inr (2, [.ref oS.2.2.1.1, .ref oS.2.2.2.1, .ref oS.2.1, .int Spd, .int Snt])), (oS.2.1, .inl (c3.1, 13, .inl Snm)), (oS.2.2.1.1, .inr (4, [.int 7, .ref oS.2.2.1.2, .int r1.1])), (oS.2.2.1.2, .inl (c3.1, 70, .inl r1.2)), (ob.1, .inr (2, [.ref ob.2.2.1.1, .ref ob.2.2.2.1, .ref ob.2.1, .int bpd, .int bnt])), (ob.2.1, .inl (c3.1, 13, .inl bnm)), (ob.2.2.1.1, .inr (4, [.int 7, .ref ob.2.2.1.2, .int bzr])), (ob.2.2.1.2, .inl (c3.1, 70, .inl bzf))]) rfl (by decide) (by decide) (ws2 := (zwS c3.1 oS ((r1.1, r1.2), (r2.1, r2.2), Snm, Spd, Snt) ++ zwS c3.1 ob ((bzr, bzf), (bvr, bvf), bnm, bpd, bnt))) rfl (by decide) (fun H locs hC => ?_)
  refine lv_aload_n hx hb dX2_copyFrom_22 rfl (lv_at hl 1 rfl) ?_
  refine z_get S0 hC (ci := 2) (C := RX2) (T := TX2) (N := 5) (v := .ref ob.2.1) jX2_copyFrom_X2 6 rfl rfl 2 (by decide) kX2_copyFrom_23 rfl rfl dX2_copyFrom_23 ?_
  refine lv_iconst (v := 0) hx hb dX2_copyFrom_26 (by decide) ?_
  refine lv_aload_n hx hb dX2_copyFrom_27 rfl (lv_at hl 0 rfl) ?_
  refine z_get S0 hC (ci := 2) (C := RX2) (T := TX2) (N := 5) (v := .ref oS.2.1) jX2_copyFrom_X2 0 rfl rfl 2 (by decide) kX2_copyFrom_23 rfl rfl dX2_copyFrom_28 ?_
  refine lv_iconst (v := 0) hx hb dX2_copyFrom_31 (by decide) ?_
  refine lv_aload_n hx hb dX2_copyFrom_32 rfl (lv_at hl 0 rfl) ?_
  refine z_get S0 hC (ci := 2) (C := RX2) (T := TX2) (N := 5) (v := .ref oS.2.1) jX2_copyFrom_X2 0 rfl rfl 2 (by decide) kX2_copyFrom_23 rfl rfl dX2_copyFrom_33 ?_
  refine z_alen S0 hC 1 0 rfl rfl (v := 13) rfl dX2_copyFrom_36 ?_
  refine lv_aload_n hx hb dX2_copyFrom_37 rfl (lv_at hl 1 rfl) ?_
  refine z_get S0 hC (ci := 2) (C := RX2) (T := TX2) (N := 5) (v := .ref ob.2.1) jX2_copyFrom_X2 6 rfl rfl 2 (by decide) kX2_copyFrom_23 rfl rfl dX2_copyFrom_38 ?_
  refine z_alen S0 hC 7 0 rfl rfl (v := 13) rfl dX2_copyFrom_41 ?_
  refine z_mmin S0 hl.1 kX2_copyFrom_34 kX2_copyFrom_34st kX2_copyFrom_34in kX2_copyFrom_34co (Nat.le_of_ble_eq_true rfl) (Nat.le_of_ble_eq_true rfl) dX2_copyFrom_42 ?_
  obtain ⟨w3, hw3, hf⟩ := z_bind hf
  refine z_copyAll S0 hl.1 hC kX2_copyFrom_40 kX2_copyFrom_40na kX2_copyFrom_40st kX2_copyFrom_40in 7 1 rfl rfl (ite_self _) (zsm_spec hw3) (Nat.le_of_ble_eq_true rfl) (Nat.le_of_ble_eq_true rfl) dX2_copyFrom_45 (ws2 := (zwS c3.1 oS ((r1.1, r1.2), (r2.1, r2.2), bnm, Spd, Snt) ++ zwS c3.1 ob ((bzr, bzf), (bvr, bvf), bnm, bpd, bnt))) rfl (fun H locs hC => ?_)
  refine lv_aload_n hx hb dX2_copyFrom_48 rfl (lv_at hl 0 rfl) ?_
  refine lv_aload_n hx hb dX2_copyFrom_49 rfl (lv_at hl 1 rfl) ?_
  refine z_get S0 hC (ci := 2) (C := RX2) (T := TX2) (N := 5) (v := .int bpd) jX2_copyFrom_X2 6 rfl rfl 3 (by decide) kX2_copyFrom_46 rfl rfl dX2_copyFrom_50 ?_
  obtain ⟨w4, hw4, hf⟩ := z_bind hf
  refine z_put S0 hC (ci := 2) (C := RX2) (T := TX2) (N := 5) (v := .int bpd) jX2_copyFrom_X2 tyX2 tyX2_ok nmX2 0 rfl rfl 3 (by decide) kX2_copyFrom_46 rfl rfl (zbool_spec hw4) (zbool_fits hw4) (Nat.le_of_ble_eq_true rfl) dX2_copyFrom_53 (ws2 := (zwS c3.1 oS ((r1.1, r1.2), (r2.1, r2.2), bnm, bpd, Snt) ++ zwS c3.1 ob ((bzr, bzf), (bvr, bvf), bnm, bpd, bnt))) rfl (fun H locs hC => ?_)
  refine lv_aload_n hx hb dX2_copyFrom_56 rfl (lv_at hl 0 rfl) ?_
  refine lv_aload_n hx hb dX2_copyFrom_57 rfl (lv_at hl 1 rfl) ?_
  refine z_get S0 hC (ci := 2) (C := RX2) (T := TX2) (N := 5) (v := .int bnt) jX2_copyFrom_X2 6 rfl rfl 4 (by decide) kX2_copyFrom_50 rfl rfl dX2_copyFrom_58 ?_
  refine z_put S0 hC (ci := 2) (C := RX2) (T := TX2) (N := 5) (v := .int bnt) jX2_copyFrom_X2 tyX2 tyX2_ok nmX2 0 rfl rfl 4 (by decide) kX2_copyFrom_50 rfl rfl rfl rfl (Nat.le_of_ble_eq_true rfl) dX2_copyFrom_61 (ws2 := (zwS c3.1 oS ((r1.1, r1.2), (r2.1, r2.2), bnm, bpd, bnt) ++ zwS c3.1 ob ((bzr, bzf), (bvr, bvf), bnm, bpd, bnt))) rfl (fun H locs hC => ?_)
  obtain ⟨e1, e2, e3, e4, e5, e6, e7⟩ := z_s7 hf
  subst e1
  subst e2
  subst e3
  subst e4
  subst e5
  subst e6
  subst e7
  exact z_vret S0 hr hlk hC dX2_copyFrom_64
