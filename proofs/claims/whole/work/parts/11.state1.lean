-- X2 number
def f_X2_number (Snm : (Nat → Int32)) (p1 : Int32) : Option (Int32) :=
  if p1 < 0 then
    some (0)
  else
    if 13 ≤ p1 then
      some (0)
    else
      (zald 13 Snm p1).bind fun x3 => some (x3)

theorem kX2_number_23 : Cond.fieldLink RX2 23 "ZoneSampler$State" "numbers" "[I" ∈ wsX2_number := by decide +kernel
theorem jX2_number_X2 : ∀ w ∈ u_ws RX2 TX2 5, w ∈ wsX2_number := by decide +kernel
set_option maxHeartbeats 4000000 in
set_option maxRecDepth 100000 in
theorem c_X2_number (l : Launch) (G : va_G) (c3 : zT3) (oS : zR6) (BS : zSt) (p1 : Int32) {r : Int32} (hf : f_X2_number BS.2.2.1 p1 = some (r)) : zM l yX2_number wsX2_number ⟨0, 0, 0, 0⟩ G c3 (zwS c3.1 oS ((BS.1.1, BS.1.2), (BS.2.1.1, BS.2.1.2), BS.2.2.1, BS.2.2.2.1, BS.2.2.2.2)) [.ref oS.1, .int p1] (some (.int r)) (zwS c3.1 oS ((BS.1.1, BS.1.2), (BS.2.1.1, BS.2.1.2), BS.2.2.1, BS.2.2.2.1, BS.2.2.2.2)) := by
  obtain ⟨⟨Szr, Szf⟩, ⟨Svr, Svf⟩, Snm, Spd, Snt⟩ := BS
  have hf : f_X2_number Snm p1 = some (r) := hf
  show zM l yX2_number wsX2_number ⟨0, 0, 0, 0⟩ G c3 (zwS c3.1 oS ((Szr, Szf), (Svr, Svf), Snm, Spd, Snt)) [.ref oS.1, .int p1] (some (.int r)) (zwS c3.1 oS ((Szr, Szf), (Svr, Svf), Snm, Spd, Snt))
  refine zM.of (cc := cX2_number) (maxL := 2) (ret := (some .int)) (by decide) rfl (Nat.le_of_ble_eq_true rfl) ?_
  intro p e s m args below meth c A ls S0 hr hlk hC hl
  have S0 : CallFix p m c cX2_number 2 s args wsX2_number RX2 := S0
  have hl : lv_has ls 2 [(0, .ref oS.1), (1, .int p1)] := hl
  have hx := S0.1
  have hb := S0.2.1
  obtain ⟨H, hH⟩ : ∃ y, y = s.heap := ⟨_, rfl⟩
  rw [← hH] at hC ⊢
  obtain ⟨locs, hlo⟩ : ∃ y : List Loc, y = [] := ⟨_, rfl⟩
  rw [← hlo] at hC ⊢
  clear hH hlo
  unfold f_X2_number at hf
  refine lv_iload_n hx hb dX2_number_0 rfl (lv_at hl 1 rfl) ?_
  refine lv_if_lt (tgt := 22) hx hb dX2_number_1 (by decide) (fun cd1 => ?_) (fun cd1 => ?_)
  · replace hf := z_pos cd1 hf
    refine lv_iconst (v := 0) hx hb dX2_number_22 (by decide) ?_
    have e1 := z_s1 hf
    subst e1
    exact z_iret S0 hr hlk hC dX2_number_23
  · replace hf := z_neg cd1 hf
    refine lv_iload_n hx hb dX2_number_4 rfl (lv_at hl 1 rfl) ?_
    refine lv_aload_n hx hb dX2_number_5 rfl (lv_at hl 0 rfl) ?_
    refine z_get S0 hC (ci := 2) (C := RX2) (T := TX2) (N := 5) (v := .ref oS.2.1) jX2_number_X2 0 rfl rfl 2 (by decide) kX2_number_23 rfl rfl dX2_number_6 ?_
    refine z_alen S0 hC 1 0 rfl rfl (v := 13) rfl dX2_number_9 ?_
    refine lv_icmp_ge (tgt := 22) hx hb dX2_number_10 (by decide) (fun cd2 => ?_) (fun cd2 => ?_)
    · replace hf := z_pos cd2 hf
      refine lv_iconst (v := 0) hx hb dX2_number_22 (by decide) ?_
      have e1 := z_s1 hf
      subst e1
      exact z_iret S0 hr hlk hC dX2_number_23
    · replace hf := z_neg cd2 hf
      refine lv_aload_n hx hb dX2_number_13 rfl (lv_at hl 0 rfl) ?_
      refine z_get S0 hC (ci := 2) (C := RX2) (T := TX2) (N := 5) (v := .ref oS.2.1) jX2_number_X2 0 rfl rfl 2 (by decide) kX2_number_23 rfl rfl dX2_number_14 ?_
      refine lv_iload_n hx hb dX2_number_17 rfl (lv_at hl 1 rfl) ?_
      obtain ⟨x3, hx3, hf⟩ := z_bind hf
      refine z_iald S0 hC 1 rfl hx3 dX2_number_18 ?_
      refine lv_goto (tgt := 23) hx hb dX2_number_19 (by decide) ?_
      have e1 := z_s1 hf
      subst e1
      exact z_iret S0 hr hlk hC dX2_number_23

-- X2 putNumber
def f_X2_putNumber (Snm : (Nat → Int32)) (p1 : Int32) (p2 : Int32) : Option ((Nat → Int32)) :=
  if p1 < 0 then
    some (Snm)
  else
    if 13 ≤ p1 then
      some (Snm)
    else
      (zast 13 Snm p1 p2).bind fun g3 => some (g3)

theorem kX2_putNumber_23 : Cond.fieldLink RX2 23 "ZoneSampler$State" "numbers" "[I" ∈ wsX2_putNumber := by decide +kernel
theorem jX2_putNumber_X2 : ∀ w ∈ u_ws RX2 TX2 5, w ∈ wsX2_putNumber := by decide +kernel
set_option maxHeartbeats 4000000 in
set_option maxRecDepth 100000 in
theorem c_X2_putNumber (l : Launch) (G : va_G) (c3 : zT3) (oS : zR6) (BS : zSt) (p1 : Int32) (p2 : Int32) {Snm' : (Nat → Int32)} (hf : f_X2_putNumber BS.2.2.1 p1 p2 = some (Snm')) : zM l yX2_putNumber wsX2_putNumber ⟨0, 0, 0, 0⟩ G c3 (zwS c3.1 oS ((BS.1.1, BS.1.2), (BS.2.1.1, BS.2.1.2), BS.2.2.1, BS.2.2.2.1, BS.2.2.2.2)) [.ref oS.1, .int p1, .int p2] none (zwS c3.1 oS ((BS.1.1, BS.1.2), (BS.2.1.1, BS.2.1.2), Snm', BS.2.2.2.1, BS.2.2.2.2)) := by
  obtain ⟨⟨Szr, Szf⟩, ⟨Svr, Svf⟩, Snm, Spd, Snt⟩ := BS
  have hf : f_X2_putNumber Snm p1 p2 = some (Snm') := hf
  show zM l yX2_putNumber wsX2_putNumber ⟨0, 0, 0, 0⟩ G c3 (zwS c3.1 oS ((Szr, Szf), (Svr, Svf), Snm, Spd, Snt)) [.ref oS.1, .int p1, .int p2] none (zwS c3.1 oS ((Szr, Szf), (Svr, Svf), Snm', Spd, Snt))
  refine zM.of (cc := cX2_putNumber) (maxL := 3) (ret := none) (by decide) rfl (Nat.le_of_ble_eq_true rfl) ?_
  intro p e s m args below meth c A ls S0 hr hlk hC hl
  have S0 : CallFix p m c cX2_putNumber 3 s args wsX2_putNumber RX2 := S0
  have hl : lv_has ls 3 [(0, .ref oS.1), (1, .int p1), (2, .int p2)] := hl
  have hx := S0.1
  have hb := S0.2.1
  obtain ⟨H, hH⟩ : ∃ y, y = s.heap := ⟨_, rfl⟩
  rw [← hH] at hC ⊢
  obtain ⟨locs, hlo⟩ : ∃ y : List Loc, y = [] := ⟨_, rfl⟩
  rw [← hlo] at hC ⊢
  clear hH hlo
  unfold f_X2_putNumber at hf
  refine lv_iload_n hx hb dX2_putNumber_0 rfl (lv_at hl 1 rfl) ?_
  refine lv_if_lt (tgt := 20) hx hb dX2_putNumber_1 (by decide) (fun cd1 => ?_) (fun cd1 => ?_)
  · replace hf := z_pos cd1 hf
    have e1 := z_s1 hf
    subst e1
    exact z_vret S0 hr hlk hC dX2_putNumber_20
  · replace hf := z_neg cd1 hf
    refine lv_iload_n hx hb dX2_putNumber_4 rfl (lv_at hl 1 rfl) ?_
    refine lv_aload_n hx hb dX2_putNumber_5 rfl (lv_at hl 0 rfl) ?_
    refine z_get S0 hC (ci := 2) (C := RX2) (T := TX2) (N := 5) (v := .ref oS.2.1) jX2_putNumber_X2 0 rfl rfl 2 (by decide) kX2_putNumber_23 rfl rfl dX2_putNumber_6 ?_
    refine z_alen S0 hC 1 0 rfl rfl (v := 13) rfl dX2_putNumber_9 ?_
    refine lv_icmp_ge (tgt := 20) hx hb dX2_putNumber_10 (by decide) (fun cd2 => ?_) (fun cd2 => ?_)
    · replace hf := z_pos cd2 hf
      have e1 := z_s1 hf
      subst e1
      exact z_vret S0 hr hlk hC dX2_putNumber_20
    · replace hf := z_neg cd2 hf
      refine lv_aload_n hx hb dX2_putNumber_13 rfl (lv_at hl 0 rfl) ?_
      refine z_get S0 hC (ci := 2) (C := RX2) (T := TX2) (N := 5) (v := .ref oS.2.1) jX2_putNumber_X2 0 rfl rfl 2 (by decide) kX2_putNumber_23 rfl rfl dX2_putNumber_14 ?_
      refine lv_iload_n hx hb dX2_putNumber_17 rfl (lv_at hl 1 rfl) ?_
      refine lv_iload_n hx hb dX2_putNumber_18 rfl (lv_at hl 2 rfl) ?_
      obtain ⟨g3, hg3, hf⟩ := z_bind hf
      refine z_iast S0 hC 1 rfl hg3 dX2_putNumber_19 (ws2 := (zwS c3.1 oS ((Szr, Szf), (Svr, Svf), g3, Spd, Snt))) rfl (fun H locs hC => ?_)
      have e1 := z_s1 hf
      subst e1
      exact z_vret S0 hr hlk hC dX2_putNumber_20

-- X2 grow
def f_X2_grow (Snm : (Nat → Int32)) (p1 : Int32) (p2 : Int32) : Option ((Nat → Int32)) :=
  (f_X2_number Snm p1).bind fun r1 => (f_X2_putNumber Snm p1 (r1 + p2)).bind fun r2 => some (r2)

set_option maxHeartbeats 4000000 in
set_option maxRecDepth 100000 in
theorem c_X2_grow (l : Launch) (G : va_G) (c3 : zT3) (oS : zR6) (BS : zSt) (p1 : Int32) (p2 : Int32) {Snm' : (Nat → Int32)} (hf : f_X2_grow BS.2.2.1 p1 p2 = some (Snm')) : zM l yX2_grow wsX2_grow ⟨1, 0, 0, 22⟩ G c3 (zwS c3.1 oS ((BS.1.1, BS.1.2), (BS.2.1.1, BS.2.1.2), BS.2.2.1, BS.2.2.2.1, BS.2.2.2.2)) [.ref oS.1, .int p1, .int p2] none (zwS c3.1 oS ((BS.1.1, BS.1.2), (BS.2.1.1, BS.2.1.2), Snm', BS.2.2.2.1, BS.2.2.2.2)) := by
  obtain ⟨⟨Szr, Szf⟩, ⟨Svr, Svf⟩, Snm, Spd, Snt⟩ := BS
  have hf : f_X2_grow Snm p1 p2 = some (Snm') := hf
  show zM l yX2_grow wsX2_grow ⟨1, 0, 0, 22⟩ G c3 (zwS c3.1 oS ((Szr, Szf), (Svr, Svf), Snm, Spd, Snt)) [.ref oS.1, .int p1, .int p2] none (zwS c3.1 oS ((Szr, Szf), (Svr, Svf), Snm', Spd, Snt))
  refine zM.of (cc := cX2_grow) (maxL := 3) (ret := none) (by decide) rfl (Nat.le_of_ble_eq_true rfl) ?_
  intro p e s m args below meth c A ls S0 hr hlk hC hl
  have S0 : CallFix p m c cX2_grow 3 s args wsX2_grow RX2 := S0
  have hl : lv_has ls 3 [(0, .ref oS.1), (1, .int p1), (2, .int p2)] := hl
  have hx := S0.1
  have hb := S0.2.1
  obtain ⟨H, hH⟩ : ∃ y, y = s.heap := ⟨_, rfl⟩
  rw [← hH] at hC ⊢
  obtain ⟨locs, hlo⟩ : ∃ y : List Loc, y = [] := ⟨_, rfl⟩
  rw [← hlo] at hC ⊢
  clear hH hlo
  unfold f_X2_grow at hf
  refine lv_aload_n hx hb dX2_grow_0 rfl (lv_at hl 0 rfl) ?_
  refine lv_iload_n hx hb dX2_grow_1 rfl (lv_at hl 1 rfl) ?_
  refine lv_aload_n hx hb dX2_grow_2 rfl (lv_at hl 0 rfl) ?_
  refine lv_iload_n hx hb dX2_grow_3 rfl (lv_at hl 1 rfl) ?_
  obtain ⟨r1, hr1, hf⟩ := z_bind hf
  refine z_callPi (z_runV (n := 1) (rest := [.int p1, .ref oS.1]) (As := [.int p1]) S0 hC (c_X2_number l G c3 oS ((Szr, Szf), (Svr, Svf), Snm, Spd, Snt) p1 hr1) [0, 1, 2, 3, 4, 5] (by decide) rfl gX2_grow_X2_number rfl rfl rfl (by decide +kernel) ⟨Nat.le_of_ble_eq_true rfl, Nat.le_of_ble_eq_true rfl⟩ (ci := 2) (q0 := 0) rfl rfl rfl hl.1 rfl (Nat.le_of_ble_eq_true rfl) dX2_grow_4) hC [0, 1, 2, 3, 4, 5] rfl (fun H locs hC => ?_)
  refine lv_iload_n hx hb dX2_grow_7 rfl (lv_at hl 2 rfl) ?_
  refine lv_iadd hx hb dX2_grow_8 ?_
  obtain ⟨r2, hr2, hf⟩ := z_bind hf
  refine z_callv (z_runV (n := 2) (rest := []) (As := [.int p1, .int (r1 + p2)]) S0 hC (c_X2_putNumber l G c3 oS ((Szr, Szf), (Svr, Svf), Snm, Spd, Snt) p1 (r1 + p2) hr2) [0, 1, 2, 3, 4, 5] (by decide) rfl gX2_grow_X2_putNumber rfl rfl rfl (by decide +kernel) ⟨Nat.le_of_ble_eq_true rfl, Nat.le_of_ble_eq_true rfl⟩ (ci := 2) (q0 := 0) rfl rfl rfl hl.1 rfl (Nat.le_of_ble_eq_true rfl) dX2_grow_9) hC [0, 1, 2, 3, 4, 5] [] [0, 1, 2, 3, 4, 5] rfl (wr := ([] : va_W)) rfl (by decide) (by decide) (ws2 := (zwS c3.1 oS ((Szr, Szf), (Svr, Svf), r2, Spd, Snt))) rfl (by decide) (fun H locs hC => ?_)
  have e1 := z_s1 hf
  subst e1
  exact z_vret S0 hr hlk hC dX2_grow_12

-- X2 shapeZone
def f_X2_shapeZone (Szr : Int32) (Szf : (Nat → Int32)) (p1 : Int32) (p2 : Int32) (p3 : Int32) (p4 : Int32) : Option ((Nat → Int32)) :=
  (f_X4_put 70 Szr Szf p1 4 p2).bind fun r1 => (f_X4_put 70 Szr r1 p1 5 p3).bind fun r2 => (f_X4_put 70 Szr r2 p1 6 p4).bind fun r3 => some (r3)

theorem kX2_shapeZone_14 : Cond.fieldLink RX2 14 "ZoneSampler$State" "zones" "LZoneSampler$Table;" ∈ wsX2_shapeZone := by decide +kernel
theorem jX2_shapeZone_X2 : ∀ w ∈ u_ws RX2 TX2 5, w ∈ wsX2_shapeZone := by decide +kernel
set_option maxHeartbeats 4000000 in
set_option maxRecDepth 100000 in
theorem c_X2_shapeZone (l : Launch) (G : va_G) (c3 : zT3) (oS : zR6) (BS : zSt) (p1 : Int32) (p2 : Int32) (p3 : Int32) (p4 : Int32) {Szf' : (Nat → Int32)} (hf : f_X2_shapeZone BS.1.1 BS.1.2 p1 p2 p3 p4 = some (Szf')) : zM l yX2_shapeZone wsX2_shapeZone ⟨1, 0, 0, 24⟩ G c3 (zwS c3.1 oS ((BS.1.1, BS.1.2), (BS.2.1.1, BS.2.1.2), BS.2.2.1, BS.2.2.2.1, BS.2.2.2.2)) [.ref oS.1, .int p1, .int p2, .int p3, .int p4] none (zwS c3.1 oS ((BS.1.1, Szf'), (BS.2.1.1, BS.2.1.2), BS.2.2.1, BS.2.2.2.1, BS.2.2.2.2)) := by
  obtain ⟨⟨Szr, Szf⟩, ⟨Svr, Svf⟩, Snm, Spd, Snt⟩ := BS
  have hf : f_X2_shapeZone Szr Szf p1 p2 p3 p4 = some (Szf') := hf
  show zM l yX2_shapeZone wsX2_shapeZone ⟨1, 0, 0, 24⟩ G c3 (zwS c3.1 oS ((Szr, Szf), (Svr, Svf), Snm, Spd, Snt)) [.ref oS.1, .int p1, .int p2, .int p3, .int p4] none (zwS c3.1 oS ((Szr, Szf'), (Svr, Svf), Snm, Spd, Snt))
  refine zM.of (cc := cX2_shapeZone) (maxL := 5) (ret := none) (by decide) rfl (Nat.le_of_ble_eq_true rfl) ?_
  intro p e s m args below meth c A ls S0 hr hlk hC hl
  have S0 : CallFix p m c cX2_shapeZone 5 s args wsX2_shapeZone RX2 := S0
  have hl : lv_has ls 5 [(0, .ref oS.1), (1, .int p1), (2, .int p2), (3, .int p3), (4, .int p4)] := hl
  have hx := S0.1
  have hb := S0.2.1
  obtain ⟨H, hH⟩ : ∃ y, y = s.heap := ⟨_, rfl⟩
  rw [← hH] at hC ⊢
  obtain ⟨locs, hlo⟩ : ∃ y : List Loc, y = [] := ⟨_, rfl⟩
  rw [← hlo] at hC ⊢
  clear hH hlo
  unfold f_X2_shapeZone at hf
  refine lv_aload_n hx hb dX2_shapeZone_0 rfl (lv_at hl 0 rfl) ?_
  refine z_get S0 hC (ci := 2) (C := RX2) (T := TX2) (N := 5) (v := .ref oS.2.2.1.1) jX2_shapeZone_X2 0 rfl rfl 0 (by decide) kX2_shapeZone_14 rfl rfl dX2_shapeZone_1 ?_
  refine lv_iload_n hx hb dX2_shapeZone_4 rfl (lv_at hl 1 rfl) ?_
  refine lv_iconst (v := 4) hx hb dX2_shapeZone_5 (by decide) ?_
  refine lv_iload_n hx hb dX2_shapeZone_6 rfl (lv_at hl 2 rfl) ?_
  obtain ⟨r1, hr1, hf⟩ := z_bind hf
  refine z_callv (z_runV (n := 3) (rest := []) (As := [.int p1, .int 4, .int p2]) S0 hC (c_X4_put l G c3 oS.2.2.1 70 (Szr, Szf) p1 4 p2 hr1) [2, 3] (by decide) rfl gX2_shapeZone_X4_put rfl rfl rfl (by decide +kernel) ⟨Nat.le_of_ble_eq_true rfl, Nat.le_of_ble_eq_true rfl⟩ (ci := 4) (q0 := 2) rfl rfl rfl hl.1 rfl (Nat.le_of_ble_eq_true rfl) dX2_shapeZone_7) hC [2, 3] [0, 1, 4, 5] [0, 1, 4, 5, 2, 3] rfl (wr := [(oS.1, .inr (2, [.ref oS.2.2.1.1, .ref oS.2.2.2.1, .ref oS.2.1, .int Spd, .int Snt])), (oS.2.1, .inl (c3.1, 13, .inl Snm)), (oS.2.2.2.1, .inr (4, [.int 7, .ref oS.2.2.2.2, .int Svr])), (oS.2.2.2.2, .inl (c3.1, 56, .inl Svf))]) rfl (by decide) (by decide) (ws2 := (zwS c3.1 oS ((Szr, r1), (Svr, Svf), Snm, Spd, Snt))) rfl (by decide) (fun H locs hC => ?_)
  refine lv_aload_n hx hb dX2_shapeZone_10 rfl (lv_at hl 0 rfl) ?_
  refine z_get S0 hC (ci := 2) (C := RX2) (T := TX2) (N := 5) (v := .ref oS.2.2.1.1) jX2_shapeZone_X2 0 rfl rfl 0 (by decide) kX2_shapeZone_14 rfl rfl dX2_shapeZone_11 ?_
  refine lv_iload_n hx hb dX2_shapeZone_14 rfl (lv_at hl 1 rfl) ?_
  refine lv_iconst (v := 5) hx hb dX2_shapeZone_15 (by decide) ?_
  refine lv_iload_n hx hb dX2_shapeZone_16 rfl (lv_at hl 3 rfl) ?_
  obtain ⟨r2, hr2, hf⟩ := z_bind hf
  refine z_callv (z_runV (n := 3) (rest := []) (As := [.int p1, .int 5, .int p3]) S0 hC (c_X4_put l G c3 oS.2.2.1 70 (Szr, r1) p1 5 p3 hr2) [2, 3] (by decide) rfl gX2_shapeZone_X4_put rfl rfl rfl (by decide +kernel) ⟨Nat.le_of_ble_eq_true rfl, Nat.le_of_ble_eq_true rfl⟩ (ci := 4) (q0 := 2) rfl rfl rfl hl.1 rfl (Nat.le_of_ble_eq_true rfl) dX2_shapeZone_17) hC [2, 3] [0, 1, 4, 5] [0, 1, 4, 5, 2, 3] rfl (wr := [(oS.1, .inr (2, [.ref oS.2.2.1.1, .ref oS.2.2.2.1, .ref oS.2.1, .int Spd, .int Snt])), (oS.2.1, .inl (c3.1, 13, .inl Snm)), (oS.2.2.2.1, .inr (4, [.int 7, .ref oS.2.2.2.2, .int Svr])), (oS.2.2.2.2, .inl (c3.1, 56, .inl Svf))]) rfl (by decide) (by decide) (ws2 := (zwS c3.1 oS ((Szr, r2), (Svr, Svf), Snm, Spd, Snt))) rfl (by decide) (fun H locs hC => ?_)
  refine lv_aload_n hx hb dX2_shapeZone_20 rfl (lv_at hl 0 rfl) ?_
  refine z_get S0 hC (ci := 2) (C := RX2) (T := TX2) (N := 5) (v := .ref oS.2.2.1.1) jX2_shapeZone_X2 0 rfl rfl 0 (by decide) kX2_shapeZone_14 rfl rfl dX2_shapeZone_21 ?_
  refine lv_iload_n hx hb dX2_shapeZone_24 rfl (lv_at hl 1 rfl) ?_
  refine lv_bipush (v := 6) hx hb dX2_shapeZone_25 (by decide) ?_
  refine lv_iload hx hb dX2_shapeZone_27 (lv_at hl 4 rfl) ?_
  obtain ⟨r3, hr3, hf⟩ := z_bind hf
  refine z_callv (z_runV (n := 3) (rest := []) (As := [.int p1, .int 6, .int p4]) S0 hC (c_X4_put l G c3 oS.2.2.1 70 (Szr, r2) p1 6 p4 hr3) [2, 3] (by decide) rfl gX2_shapeZone_X4_put rfl rfl rfl (by decide +kernel) ⟨Nat.le_of_ble_eq_true rfl, Nat.le_of_ble_eq_true rfl⟩ (ci := 4) (q0 := 2) rfl rfl rfl hl.1 rfl (Nat.le_of_ble_eq_true rfl) dX2_shapeZone_29) hC [2, 3] [0, 1, 4, 5] [0, 1, 4, 5, 2, 3] rfl (wr := [(oS.1, .inr (2, [.ref oS.2.2.1.1, .ref oS.2.2.2.1, .ref oS.2.1, .int Spd, .int Snt])), (oS.2.1, .inl (c3.1, 13, .inl Snm)), (oS.2.2.2.1, .inr (4, [.int 7, .ref oS.2.2.2.2, .int Svr])), (oS.2.2.2.2, .inl (c3.1, 56, .inl Svf))]) rfl (by decide) (by decide) (ws2 := (zwS c3.1 oS ((Szr, r3), (Svr, Svf), Snm, Spd, Snt))) rfl (by decide) (fun H locs hC => ?_)
  have e1 := z_s1 hf
  subst e1
  exact z_vret S0 hr hlk hC dX2_shapeZone_32

-- X2 dropZone
def f_X2_dropZone_12 (y1 : Int32) : Nat → Int32 → Int32 → Int32 → (Nat → Int32) → Option (Int32 × Int32 × Int32 × (Nat → Int32))
  | 0, _, _, _, _ => none
  | fu + 1, y2, y3, Svr, Svf =>
    if y3 < 0 then
      some (y2, y3, Svr, Svf)
    else
      (f_X4_get 56 Svr Svf y3 0).bind fun r4 => Option.bind (α := Int32 × Int32 × (Nat → Int32)) (
        if r4 = y1 then
          (f_X4_removeRow 56 Svr Svf y3).bind fun r9 => some ((y2 + 1), r9.1, r9.2)
        else
          if r4 ≤ y1 then
            some (y2, Svr, Svf)
          else
            (f_X4_put 56 Svr Svf y3 0 (r4 - 1)).bind fun r8 => some (y2, Svr, r8)
      ) fun t6 =>
        f_X2_dropZone_12 y1 fu t6.1 (y3 + (-1)) t6.2.1 t6.2.2

theorem f_X2_dropZone_12_s (y1 : Int32) (y2 : Int32) (y3 : Int32) (Svr : Int32) (Svf : (Nat → Int32)) (fu : Nat) : f_X2_dropZone_12 y1 (fu + 1) y2 y3 Svr Svf = (
    if y3 < 0 then
      some (y2, y3, Svr, Svf)
    else
      (f_X4_get 56 Svr Svf y3 0).bind fun r4 => Option.bind (α := Int32 × Int32 × (Nat → Int32)) (
        if r4 = y1 then
          (f_X4_removeRow 56 Svr Svf y3).bind fun r9 => some ((y2 + 1), r9.1, r9.2)
        else
          if r4 ≤ y1 then
            some (y2, Svr, Svf)
          else
            (f_X4_put 56 Svr Svf y3 0 (r4 - 1)).bind fun r8 => some (y2, Svr, r8)
      ) fun t6 =>
        f_X2_dropZone_12 y1 fu t6.1 (y3 + (-1)) t6.2.1 t6.2.2
    ) := rfl

def f_X2_dropZone (Szr : Int32) (Szf : (Nat → Int32)) (Svr : Int32) (Svf : (Nat → Int32)) (Snm : (Nat → Int32)) (p1 : Int32) : Option (Int32 × Int32 × (Nat → Int32) × Int32 × (Nat → Int32) × (Nat → Int32)) :=
  (f_X4_rows 56 Svr).bind fun r1 => (f_X2_dropZone_12 p1 zF 0 (r1 - 1) Svr Svf).bind fun t10 =>
    (f_X4_removeRow 70 Szr Szf p1).bind fun r11 => (f_X2_grow Snm 5 t10.1).bind fun r12 => some (t10.1, r11.1, r11.2, t10.2.2.1, t10.2.2.2, r12)

theorem kX2_dropZone_20 : Cond.fieldLink RX2 20 "ZoneSampler$State" "voices" "LZoneSampler$Table;" ∈ wsX2_dropZone := by decide +kernel
theorem kX2_dropZone_14 : Cond.fieldLink RX2 14 "ZoneSampler$State" "zones" "LZoneSampler$Table;" ∈ wsX2_dropZone := by decide +kernel
theorem jX2_dropZone_X2 : ∀ w ∈ u_ws RX2 TX2 5, w ∈ wsX2_dropZone := by decide +kernel
set_option maxHeartbeats 4000000 in
set_option maxRecDepth 100000 in
theorem c_X2_dropZone (l : Launch) (G : va_G) (c3 : zT3) (oS : zR6) (BS : zSt) (p1 : Int32) {r : Int32} {Szr' : Int32} {Szf' : (Nat → Int32)} {Svr' : Int32} {Svf' : (Nat → Int32)} {Snm' : (Nat → Int32)} (hf : f_X2_dropZone BS.1.1 BS.1.2 BS.2.1.1 BS.2.1.2 BS.2.2.1 p1 = some (r, Szr', Szf', Svr', Svf', Snm')) : zM l yX2_dropZone wsX2_dropZone ⟨2, 0, 0, 44⟩ G c3 (zwS c3.1 oS ((BS.1.1, BS.1.2), (BS.2.1.1, BS.2.1.2), BS.2.2.1, BS.2.2.2.1, BS.2.2.2.2)) [.ref oS.1, .int p1] (some (.int r)) (zwS c3.1 oS ((Szr', Szf'), (Svr', Svf'), Snm', BS.2.2.2.1, BS.2.2.2.2)) := by
  obtain ⟨⟨Szr, Szf⟩, ⟨Svr, Svf⟩, Snm, Spd, Snt⟩ := BS
  have hf : f_X2_dropZone Szr Szf Svr Svf Snm p1 = some (r, Szr', Szf', Svr', Svf', Snm') := hf
  show zM l yX2_dropZone wsX2_dropZone ⟨2, 0, 0, 44⟩ G c3 (zwS c3.1 oS ((Szr, Szf), (Svr, Svf), Snm, Spd, Snt)) [.ref oS.1, .int p1] (some (.int r)) (zwS c3.1 oS ((Szr', Szf'), (Svr', Svf'), Snm', Spd, Snt))
  refine zM.of (cc := cX2_dropZone) (maxL := 5) (ret := (some .int)) (by decide) rfl (Nat.le_of_ble_eq_true rfl) ?_
  intro p e s m args below meth c A ls S0 hr hlk hC hl
  have S0 : CallFix p m c cX2_dropZone 5 s args wsX2_dropZone RX2 := S0
  have hl : lv_has ls 5 [(0, .ref oS.1), (1, .int p1)] := hl
  have hx := S0.1
  have hb := S0.2.1
  obtain ⟨H, hH⟩ : ∃ y, y = s.heap := ⟨_, rfl⟩
  rw [← hH] at hC ⊢
  obtain ⟨locs, hlo⟩ : ∃ y : List Loc, y = [] := ⟨_, rfl⟩
  rw [← hlo] at hC ⊢
  clear hH hlo
  unfold f_X2_dropZone at hf
  refine lv_iconst (v := 0) hx hb dX2_dropZone_0 (by decide) ?_
  refine lv_istore_n (lv' := [(2, .int 0), (0, .ref oS.1), (1, .int p1)]) hx hb dX2_dropZone_1 rfl hl (by decide) rfl (fun ls hl => ?_)
  refine lv_aload_n hx hb dX2_dropZone_2 rfl (lv_at hl 1 rfl) ?_
  refine z_get S0 hC (ci := 2) (C := RX2) (T := TX2) (N := 5) (v := .ref oS.2.2.2.1) jX2_dropZone_X2 0 rfl rfl 1 (by decide) kX2_dropZone_20 rfl rfl dX2_dropZone_3 ?_
  obtain ⟨r1, hr1, hf⟩ := z_bind hf
  refine z_callPi (z_runV (n := 0) (rest := []) (As := []) S0 hC (c_X4_rows l G c3 oS.2.2.2 56 (Svr, Svf) hr1) [4, 5] (by decide) rfl gX2_dropZone_X4_rows rfl rfl rfl (by decide +kernel) ⟨Nat.le_of_ble_eq_true rfl, Nat.le_of_ble_eq_true rfl⟩ (ci := 4) (q0 := 4) rfl rfl rfl hl.1 rfl (Nat.le_of_ble_eq_true rfl) dX2_dropZone_6) hC [4, 5] rfl (fun H locs hC => ?_)
  refine lv_iconst (v := 1) hx hb dX2_dropZone_9 (by decide) ?_
  refine lv_isub hx hb dX2_dropZone_10 ?_
  refine lv_istore_n (lv' := [(3, .int (r1 - 1)), (2, .int 0), (0, .ref oS.1), (1, .int p1)]) hx hb dX2_dropZone_11 rfl hl (by decide) rfl (fun ls hl => ?_)
  have L12 : ∀ (fu : Nat) (y1 : Int32) (y2 : Int32) (y3 : Int32) (Szr : Int32) (Szf : (Nat → Int32)) (Svr : Int32) (Svf : (Nat → Int32)) (Snm : (Nat → Int32)) (Spd : Int32) (Snt : Int32) (tt : Int32 × Int32 × Int32 × (Nat → Int32)), f_X2_dropZone_12 y1 fu y2 y3 Svr Svf = some tt → ∀ (H : Heap) (locs : List Loc) (ls : Array Slot), zC G c3 A s (zwS c3.1 oS ((Szr, Szf), (Svr, Svf), Snm, Spd, Snt)) H locs → lv_has ls 5 [(0, .ref oS.1), (1, .int y1), (2, .int y2), (3, .int y3)] → (∀ (H : Heap) (locs : List Loc) (ls : Array Slot), zC G c3 A s (zwS c3.1 oS ((Szr, Szf), (tt.2.2.1, tt.2.2.2), Snm, Spd, Snt)) H locs → lv_has ls 5 [(0, .ref oS.1), (1, .int y1), (2, .int tt.1), (3, .int tt.2.1)] → W p l e ⟨2, 0, 0, 44⟩ s m args below meth c H locs 0 0 (MQ below (zPost G (zwS c3.1 oS ((Szr', Szf'), (Svr', Svf'), Snm', Spd, Snt)) (some (.int r)) A) args s 0 0 A) (F0 m 72 ls [])) → W p l e ⟨2, 0, 0, 44⟩ s m args below meth c H locs 0 0 (MQ below (zPost G (zwS c3.1 oS ((Szr', Szf'), (Svr', Svf'), Snm', Spd, Snt)) (some (.int r)) A) args s 0 0 A) (F0 m 12 ls []) := by
    intro fu
    induction fu with
    | zero =>
      intro y1 y2 y3 Szr Szf Svr Svf Snm Spd Snt tt hf H locs ls hC hl hK
      exact (z_none hf).elim
    | succ fu ih12 =>
      intro y1 y2 y3 Szr Szf Svr Svf Snm Spd Snt tt hf H locs ls hC hl hK
      replace hf := (f_X2_dropZone_12_s y1 y2 y3 Svr Svf fu).symm.trans hf
      refine lv_iload_n hx hb dX2_dropZone_12 rfl (lv_at hl 3 rfl) ?_
      refine lv_if_lt (tgt := 72) hx hb dX2_dropZone_13 (by decide) (fun cd3 => ?_) (fun cd3 => ?_)
      · replace hf := z_pos cd3 hf
        have e1 := z_s1 hf
        subst e1
        exact hK H locs ls hC (lv_sub hl [0, 1, 2, 3] rfl)
      · replace hf := z_neg cd3 hf
        refine lv_aload_n hx hb dX2_dropZone_16 rfl (lv_at hl 0 rfl) ?_
        refine z_get S0 hC (ci := 2) (C := RX2) (T := TX2) (N := 5) (v := .ref oS.2.2.2.1) jX2_dropZone_X2 0 rfl rfl 1 (by decide) kX2_dropZone_20 rfl rfl dX2_dropZone_17 ?_
        refine lv_iload_n hx hb dX2_dropZone_20 rfl (lv_at hl 3 rfl) ?_
        refine lv_iconst (v := 0) hx hb dX2_dropZone_21 (by decide) ?_
        obtain ⟨r4, hr4, hf⟩ := z_bind hf
        refine z_callPi (z_runV (n := 2) (rest := []) (As := [.int y3, .int 0]) S0 hC (c_X4_get l G c3 oS.2.2.2 56 (Svr, Svf) y3 0 hr4) [4, 5] (by decide) rfl gX2_dropZone_X4_get rfl rfl rfl (by decide +kernel) ⟨Nat.le_of_ble_eq_true rfl, Nat.le_of_ble_eq_true rfl⟩ (ci := 4) (q0 := 4) rfl rfl rfl hl.1 rfl (Nat.le_of_ble_eq_true rfl) dX2_dropZone_22) hC [4, 5] rfl (fun H locs hC => ?_)
        refine lv_istore (lv' := [(4, .int r4), (0, .ref oS.1), (1, .int y1), (2, .int y2), (3, .int y3)]) hx hb dX2_dropZone_25 hl (by decide) rfl (fun ls hl => ?_)
        refine lv_iload hx hb dX2_dropZone_27 (lv_at hl 0 rfl) ?_
        refine lv_iload_n hx hb dX2_dropZone_29 rfl (lv_at hl 2 rfl) ?_
        obtain ⟨t6, ht6, hf⟩ := z_bind hf
        have Jt6 : ∀ (H : Heap) (locs : List Loc) (ls : Array Slot), zC G c3 A s (zwS c3.1 oS ((Szr, Szf), (t6.2.1, t6.2.2), Snm, Spd, Snt)) H locs → lv_has ls 5 [(0, .ref oS.1), (1, .int y1), (2, .int t6.1), (3, .int y3), (4, .int r4)] → W p l e ⟨2, 0, 0, 44⟩ s m args below meth c H locs 0 0 (MQ below (zPost G (zwS c3.1 oS ((Szr', Szf'), (Svr', Svf'), Snm', Spd, Snt)) (some (.int r)) A) args s 0 0 A) (F0 m 66 ls []) := by
          intro H locs ls hC hl
          refine lv_iinc (v := (y3 + (-1))) (lv' := [(3, .int (y3 + (-1))), (0, .ref oS.1), (1, .int y1), (2, .int t6.1), (4, .int r4)]) hx hb dX2_dropZone_66 hl (k := 3) rfl rfl (by decide) rfl (fun ls hl => ?_)
          refine lv_goto (tgt := 12) hx hb dX2_dropZone_69 (by decide) ?_
          exact ih12 y1 t6.1 (y3 + (-1)) Szr Szf t6.2.1 t6.2.2 Snm Spd Snt _ hf H locs ls hC (lv_sub hl [1, 2, 3, 0] rfl) hK
        refine lv_icmp_ne (tgt := 47) hx hb dX2_dropZone_30 (by decide) (fun cd5 => ?_) (fun cd5 => ?_)
        · replace ht6 := z_neg cd5 ht6
          refine lv_iload hx hb dX2_dropZone_47 (lv_at hl 0 rfl) ?_
          refine lv_iload_n hx hb dX2_dropZone_49 rfl (lv_at hl 2 rfl) ?_
          refine lv_icmp_le (tgt := 66) hx hb dX2_dropZone_50 (by decide) (fun cd7 => ?_) (fun cd7 => ?_)
          · replace ht6 := z_pos cd7 ht6
            have e1 := z_s1 ht6
            subst e1
            exact Jt6 H locs ls hC (lv_sub hl [1, 2, 3, 4, 0] rfl)
          · replace ht6 := z_neg cd7 ht6
            refine lv_aload_n hx hb dX2_dropZone_53 rfl (lv_at hl 1 rfl) ?_
            refine z_get S0 hC (ci := 2) (C := RX2) (T := TX2) (N := 5) (v := .ref oS.2.2.2.1) jX2_dropZone_X2 0 rfl rfl 1 (by decide) kX2_dropZone_20 rfl rfl dX2_dropZone_54 ?_
            refine lv_iload_n hx hb dX2_dropZone_57 rfl (lv_at hl 4 rfl) ?_
            refine lv_iconst (v := 0) hx hb dX2_dropZone_58 (by decide) ?_
            refine lv_iload hx hb dX2_dropZone_59 (lv_at hl 0 rfl) ?_
            refine lv_iconst (v := 1) hx hb dX2_dropZone_61 (by decide) ?_
            refine lv_isub hx hb dX2_dropZone_62 ?_
            obtain ⟨r8, hr8, ht6⟩ := z_bind ht6
            refine z_callv (z_runV (n := 3) (rest := []) (As := [.int y3, .int 0, .int (r4 - 1)]) S0 hC (c_X4_put l G c3 oS.2.2.2 56 (Svr, Svf) y3 0 (r4 - 1) hr8) [4, 5] (by decide) rfl gX2_dropZone_X4_put rfl rfl rfl (by decide +kernel) ⟨Nat.le_of_ble_eq_true rfl, Nat.le_of_ble_eq_true rfl⟩ (ci := 4) (q0 := 4) rfl rfl rfl hl.1 rfl (Nat.le_of_ble_eq_true rfl) dX2_dropZone_63) hC [4, 5] [0, 1, 2, 3] [0, 1, 2, 3, 4, 5] rfl (wr := [(oS.1, .inr (2, [.ref oS.2.2.1.1, .ref oS.2.2.2.1, .ref oS.2.1, .int Spd, .int Snt])), (oS.2.1, .inl (c3.1, 13, .inl Snm)), (oS.2.2.1.1, .inr (4, [.int 7, .ref oS.2.2.1.2, .int Szr])), (oS.2.2.1.2, .inl (c3.1, 70, .inl Szf))]) rfl (by decide) (by decide) (ws2 := (zwS c3.1 oS ((Szr, Szf), (Svr, r8), Snm, Spd, Snt))) rfl (by decide) (fun H locs hC => ?_)
            have e1 := z_s1 ht6
            subst e1
            exact Jt6 H locs ls hC (lv_sub hl [1, 2, 3, 4, 0] rfl)
        · replace ht6 := z_pos cd5 ht6
          refine lv_aload_n hx hb dX2_dropZone_33 rfl (lv_at hl 1 rfl) ?_
          refine z_get S0 hC (ci := 2) (C := RX2) (T := TX2) (N := 5) (v := .ref oS.2.2.2.1) jX2_dropZone_X2 0 rfl rfl 1 (by decide) kX2_dropZone_20 rfl rfl dX2_dropZone_34 ?_
          refine lv_iload_n hx hb dX2_dropZone_37 rfl (lv_at hl 4 rfl) ?_
          obtain ⟨r9, hr9, ht6⟩ := z_bind ht6
          refine z_callv (z_runV (n := 1) (rest := []) (As := [.int y3]) S0 hC (c_X4_removeRow l G c3 oS.2.2.2 56 (Svr, Svf) y3 hr9) [4, 5] (by decide) rfl gX2_dropZone_X4_removeRow rfl rfl rfl (by decide +kernel) ⟨Nat.le_of_ble_eq_true rfl, Nat.le_of_ble_eq_true rfl⟩ (ci := 4) (q0 := 4) rfl rfl rfl hl.1 rfl (Nat.le_of_ble_eq_true rfl) dX2_dropZone_38) hC [4, 5] [0, 1, 2, 3] [0, 1, 2, 3, 4, 5] rfl (wr := [(oS.1, .inr (2, [.ref oS.2.2.1.1, .ref oS.2.2.2.1, .ref oS.2.1, .int Spd, .int Snt])), (oS.2.1, .inl (c3.1, 13, .inl Snm)), (oS.2.2.1.1, .inr (4, [.int 7, .ref oS.2.2.1.2, .int Szr])), (oS.2.2.1.2, .inl (c3.1, 70, .inl Szf))]) rfl (by decide) (by decide) (ws2 := (zwS c3.1 oS ((Szr, Szf), (r9.1, r9.2), Snm, Spd, Snt))) rfl (by decide) (fun H locs hC => ?_)
          refine lv_iinc (v := (y2 + 1)) (lv' := [(2, .int (y2 + 1)), (4, .int r4), (0, .ref oS.1), (1, .int y1), (3, .int y3)]) hx hb dX2_dropZone_41 hl (k := 3) rfl rfl (by decide) rfl (fun ls hl => ?_)
          refine lv_goto (tgt := 66) hx hb dX2_dropZone_44 (by decide) ?_
          have e1 := z_s1 ht6
          subst e1
          exact Jt6 H locs ls hC (lv_sub hl [2, 3, 0, 4, 1] rfl)
  obtain ⟨t10, ht10, hf⟩ := z_bind hf
  refine L12 zF p1 0 (r1 - 1) Szr Szf Svr Svf Snm Spd Snt t10 ht10 H locs ls hC (lv_sub hl [2, 3, 1, 0] rfl) (fun H locs ls hC hl => ?_)
  refine lv_aload_n hx hb dX2_dropZone_72 rfl (lv_at hl 0 rfl) ?_
  refine z_get S0 hC (ci := 2) (C := RX2) (T := TX2) (N := 5) (v := .ref oS.2.2.1.1) jX2_dropZone_X2 0 rfl rfl 0 (by decide) kX2_dropZone_14 rfl rfl dX2_dropZone_73 ?_
  refine lv_iload_n hx hb dX2_dropZone_76 rfl (lv_at hl 1 rfl) ?_
  obtain ⟨r11, hr11, hf⟩ := z_bind hf
  refine z_callv (z_runV (n := 1) (rest := []) (As := [.int p1]) S0 hC (c_X4_removeRow l G c3 oS.2.2.1 70 (Szr, Szf) p1 hr11) [2, 3] (by decide) rfl gX2_dropZone_X4_removeRow rfl rfl rfl (by decide +kernel) ⟨Nat.le_of_ble_eq_true rfl, Nat.le_of_ble_eq_true rfl⟩ (ci := 4) (q0 := 2) rfl rfl rfl hl.1 rfl (Nat.le_of_ble_eq_true rfl) dX2_dropZone_77) hC [2, 3] [0, 1, 4, 5] [0, 1, 4, 5, 2, 3] rfl (wr := [(oS.1, .inr (2, [.ref oS.2.2.1.1, .ref oS.2.2.2.1, .ref oS.2.1, .int Spd, .int Snt])), (oS.2.1, .inl (c3.1, 13, .inl Snm)), (oS.2.2.2.1, .inr (4, [.int 7, .ref oS.2.2.2.2, .int t10.2.2.1])), (oS.2.2.2.2, .inl (c3.1, 56, .inl t10.2.2.2))]) rfl (by decide) (by decide) (ws2 := (zwS c3.1 oS ((r11.1, r11.2), (t10.2.2.1, t10.2.2.2), Snm, Spd, Snt))) rfl (by decide) (fun H locs hC => ?_)
  refine lv_aload_n hx hb dX2_dropZone_80 rfl (lv_at hl 0 rfl) ?_
  refine lv_iconst (v := 5) hx hb dX2_dropZone_81 (by decide) ?_
  refine lv_iload_n hx hb dX2_dropZone_82 rfl (lv_at hl 2 rfl) ?_
  obtain ⟨r12, hr12, hf⟩ := z_bind hf
  refine z_callv (z_runV (n := 2) (rest := []) (As := [.int 5, .int t10.1]) S0 hC (c_X2_grow l G c3 oS ((r11.1, r11.2), (t10.2.2.1, t10.2.2.2), Snm, Spd, Snt) 5 t10.1 hr12) [0, 1, 2, 3, 4, 5] (by decide) rfl gX2_dropZone_X2_grow rfl rfl rfl (by decide +kernel) ⟨Nat.le_of_ble_eq_true rfl, Nat.le_of_ble_eq_true rfl⟩ (ci := 2) (q0 := 0) rfl rfl rfl hl.1 rfl (Nat.le_of_ble_eq_true rfl) dX2_dropZone_83) hC [0, 1, 2, 3, 4, 5] [] [0, 1, 2, 3, 4, 5] rfl (wr := ([] : va_W)) rfl (by decide) (by decide) (ws2 := (zwS c3.1 oS ((r11.1, r11.2), (t10.2.2.1, t10.2.2.2), r12, Spd, Snt))) rfl (by decide) (fun H locs hC => ?_)
  refine lv_iload_n hx hb dX2_dropZone_86 rfl (lv_at hl 2 rfl) ?_
  obtain ⟨e1, e2, e3, e4, e5, e6⟩ := z_s6 hf
  subst e1
  subst e2
  subst e3
  subst e4
  subst e5
  subst e6
  exact z_iret S0 hr hlk hC dX2_dropZone_87

-- X2 matches
def f_X2_matches (Szr : Int32) (Szf : (Nat → Int32)) (p1 : Int32) (p2 : Int32) (p3 : Int32) : Option (Int32) :=
  (f_X4_get 70 Szr Szf p1 0).bind fun r1 => if p2 < r1 then
    some (0)
  else
    (f_X4_get 70 Szr Szf p1 1).bind fun r3 => if r3 < p2 then
      some (0)
    else
      (f_X4_get 70 Szr Szf p1 2).bind fun r5 => if p3 < r5 then
        some (0)
      else
        (f_X4_get 70 Szr Szf p1 3).bind fun r7 => if r7 < p3 then
          some (0)
        else
          some (1)

theorem kX2_matches_14 : Cond.fieldLink RX2 14 "ZoneSampler$State" "zones" "LZoneSampler$Table;" ∈ wsX2_matches := by decide +kernel
theorem jX2_matches_X2 : ∀ w ∈ u_ws RX2 TX2 5, w ∈ wsX2_matches := by decide +kernel
set_option maxHeartbeats 4000000 in
set_option maxRecDepth 100000 in
theorem c_X2_matches (l : Launch) (G : va_G) (c3 : zT3) (oS : zR6) (BS : zSt) (p1 : Int32) (p2 : Int32) (p3 : Int32) {r : Int32} (hf : f_X2_matches BS.1.1 BS.1.2 p1 p2 p3 = some (r)) : zM l yX2_matches wsX2_matches ⟨1, 0, 0, 23⟩ G c3 (zwS c3.1 oS ((BS.1.1, BS.1.2), (BS.2.1.1, BS.2.1.2), BS.2.2.1, BS.2.2.2.1, BS.2.2.2.2)) [.ref oS.1, .int p1, .int p2, .int p3] (some (.int r)) (zwS c3.1 oS ((BS.1.1, BS.1.2), (BS.2.1.1, BS.2.1.2), BS.2.2.1, BS.2.2.2.1, BS.2.2.2.2)) := by
  obtain ⟨⟨Szr, Szf⟩, ⟨Svr, Svf⟩, Snm, Spd, Snt⟩ := BS
  have hf : f_X2_matches Szr Szf p1 p2 p3 = some (r) := hf
  show zM l yX2_matches wsX2_matches ⟨1, 0, 0, 23⟩ G c3 (zwS c3.1 oS ((Szr, Szf), (Svr, Svf), Snm, Spd, Snt)) [.ref oS.1, .int p1, .int p2, .int p3] (some (.int r)) (zwS c3.1 oS ((Szr, Szf), (Svr, Svf), Snm, Spd, Snt))
  refine zM.of (cc := cX2_matches) (maxL := 4) (ret := (some .boolean)) (by decide) rfl (Nat.le_of_ble_eq_true rfl) ?_
  intro p e s m args below meth c A ls S0 hr hlk hC hl
  have S0 : CallFix p m c cX2_matches 4 s args wsX2_matches RX2 := S0
  have hl : lv_has ls 4 [(0, .ref oS.1), (1, .int p1), (2, .int p2), (3, .int p3)] := hl
  have hx := S0.1
  have hb := S0.2.1
  obtain ⟨H, hH⟩ : ∃ y, y = s.heap := ⟨_, rfl⟩
  rw [← hH] at hC ⊢
  obtain ⟨locs, hlo⟩ : ∃ y : List Loc, y = [] := ⟨_, rfl⟩
  rw [← hlo] at hC ⊢
  clear hH hlo
  unfold f_X2_matches at hf
  refine lv_iload_n hx hb dX2_matches_0 rfl (lv_at hl 2 rfl) ?_
  refine lv_aload_n hx hb dX2_matches_1 rfl (lv_at hl 0 rfl) ?_
  refine z_get S0 hC (ci := 2) (C := RX2) (T := TX2) (N := 5) (v := .ref oS.2.2.1.1) jX2_matches_X2 0 rfl rfl 0 (by decide) kX2_matches_14 rfl rfl dX2_matches_2 ?_
  refine lv_iload_n hx hb dX2_matches_5 rfl (lv_at hl 1 rfl) ?_
  refine lv_iconst (v := 0) hx hb dX2_matches_6 (by decide) ?_
  obtain ⟨r1, hr1, hf⟩ := z_bind hf
  refine z_callPi (z_runV (n := 2) (rest := [.int p2]) (As := [.int p1, .int 0]) S0 hC (c_X4_get l G c3 oS.2.2.1 70 (Szr, Szf) p1 0 hr1) [2, 3] (by decide) rfl gX2_matches_X4_get rfl rfl rfl (by decide +kernel) ⟨Nat.le_of_ble_eq_true rfl, Nat.le_of_ble_eq_true rfl⟩ (ci := 4) (q0 := 2) rfl rfl rfl hl.1 rfl (Nat.le_of_ble_eq_true rfl) dX2_matches_7) hC [2, 3] rfl (fun H locs hC => ?_)
  refine lv_icmp_lt (tgt := 56) hx hb dX2_matches_10 (by decide) (fun cd2 => ?_) (fun cd2 => ?_)
  · replace hf := z_pos cd2 hf
    refine lv_iconst (v := 0) hx hb dX2_matches_56 (by decide) ?_
    have e1 := z_s1 hf
    subst e1
    exact z_zret S0 hr hlk rfl hC dX2_matches_57
  · replace hf := z_neg cd2 hf
    refine lv_iload_n hx hb dX2_matches_13 rfl (lv_at hl 2 rfl) ?_
    refine lv_aload_n hx hb dX2_matches_14 rfl (lv_at hl 0 rfl) ?_
    refine z_get S0 hC (ci := 2) (C := RX2) (T := TX2) (N := 5) (v := .ref oS.2.2.1.1) jX2_matches_X2 0 rfl rfl 0 (by decide) kX2_matches_14 rfl rfl dX2_matches_15 ?_
    refine lv_iload_n hx hb dX2_matches_18 rfl (lv_at hl 1 rfl) ?_
    refine lv_iconst (v := 1) hx hb dX2_matches_19 (by decide) ?_
    obtain ⟨r3, hr3, hf⟩ := z_bind hf
    refine z_callPi (z_runV (n := 2) (rest := [.int p2]) (As := [.int p1, .int 1]) S0 hC (c_X4_get l G c3 oS.2.2.1 70 (Szr, Szf) p1 1 hr3) [2, 3] (by decide) rfl gX2_matches_X4_get rfl rfl rfl (by decide +kernel) ⟨Nat.le_of_ble_eq_true rfl, Nat.le_of_ble_eq_true rfl⟩ (ci := 4) (q0 := 2) rfl rfl rfl hl.1 rfl (Nat.le_of_ble_eq_true rfl) dX2_matches_20) hC [2, 3] rfl (fun H locs hC => ?_)
    refine lv_icmp_gt (tgt := 56) hx hb dX2_matches_23 (by decide) (fun cd4 => ?_) (fun cd4 => ?_)
    · replace hf := z_pos cd4 hf
      refine lv_iconst (v := 0) hx hb dX2_matches_56 (by decide) ?_
      have e1 := z_s1 hf
      subst e1
      exact z_zret S0 hr hlk rfl hC dX2_matches_57
    · replace hf := z_neg cd4 hf
      refine lv_iload_n hx hb dX2_matches_26 rfl (lv_at hl 3 rfl) ?_
      refine lv_aload_n hx hb dX2_matches_27 rfl (lv_at hl 0 rfl) ?_
      refine z_get S0 hC (ci := 2) (C := RX2) (T := TX2) (N := 5) (v := .ref oS.2.2.1.1) jX2_matches_X2 0 rfl rfl 0 (by decide) kX2_matches_14 rfl rfl dX2_matches_28 ?_
      refine lv_iload_n hx hb dX2_matches_31 rfl (lv_at hl 1 rfl) ?_
      refine lv_iconst (v := 2) hx hb dX2_matches_32 (by decide) ?_
      obtain ⟨r5, hr5, hf⟩ := z_bind hf
      refine z_callPi (z_runV (n := 2) (rest := [.int p3]) (As := [.int p1, .int 2]) S0 hC (c_X4_get l G c3 oS.2.2.1 70 (Szr, Szf) p1 2 hr5) [2, 3] (by decide) rfl gX2_matches_X4_get rfl rfl rfl (by decide +kernel) ⟨Nat.le_of_ble_eq_true rfl, Nat.le_of_ble_eq_true rfl⟩ (ci := 4) (q0 := 2) rfl rfl rfl hl.1 rfl (Nat.le_of_ble_eq_true rfl) dX2_matches_33) hC [2, 3] rfl (fun H locs hC => ?_)
      refine lv_icmp_lt (tgt := 56) hx hb dX2_matches_36 (by decide) (fun cd6 => ?_) (fun cd6 => ?_)
      · replace hf := z_pos cd6 hf
        refine lv_iconst (v := 0) hx hb dX2_matches_56 (by decide) ?_
        have e1 := z_s1 hf
        subst e1
        exact z_zret S0 hr hlk rfl hC dX2_matches_57
      · replace hf := z_neg cd6 hf
        refine lv_iload_n hx hb dX2_matches_39 rfl (lv_at hl 3 rfl) ?_
        refine lv_aload_n hx hb dX2_matches_40 rfl (lv_at hl 0 rfl) ?_
        refine z_get S0 hC (ci := 2) (C := RX2) (T := TX2) (N := 5) (v := .ref oS.2.2.1.1) jX2_matches_X2 0 rfl rfl 0 (by decide) kX2_matches_14 rfl rfl dX2_matches_41 ?_
        refine lv_iload_n hx hb dX2_matches_44 rfl (lv_at hl 1 rfl) ?_
        refine lv_iconst (v := 3) hx hb dX2_matches_45 (by decide) ?_
        obtain ⟨r7, hr7, hf⟩ := z_bind hf
        refine z_callPi (z_runV (n := 2) (rest := [.int p3]) (As := [.int p1, .int 3]) S0 hC (c_X4_get l G c3 oS.2.2.1 70 (Szr, Szf) p1 3 hr7) [2, 3] (by decide) rfl gX2_matches_X4_get rfl rfl rfl (by decide +kernel) ⟨Nat.le_of_ble_eq_true rfl, Nat.le_of_ble_eq_true rfl⟩ (ci := 4) (q0 := 2) rfl rfl rfl hl.1 rfl (Nat.le_of_ble_eq_true rfl) dX2_matches_46) hC [2, 3] rfl (fun H locs hC => ?_)
        refine lv_icmp_gt (tgt := 56) hx hb dX2_matches_49 (by decide) (fun cd8 => ?_) (fun cd8 => ?_)
        · replace hf := z_pos cd8 hf
          refine lv_iconst (v := 0) hx hb dX2_matches_56 (by decide) ?_
          have e1 := z_s1 hf
          subst e1
          exact z_zret S0 hr hlk rfl hC dX2_matches_57
        · replace hf := z_neg cd8 hf
          refine lv_iconst (v := 1) hx hb dX2_matches_52 (by decide) ?_
          refine lv_goto (tgt := 57) hx hb dX2_matches_53 (by decide) ?_
          have e1 := z_s1 hf
          subst e1
          exact z_zret S0 hr hlk rfl hC dX2_matches_57

-- X2 matching
def f_X2_matching_5 (y1 : Int32) (y2 : Int32) (Szr : Int32) (Szf : (Nat → Int32)) : Nat → Int32 → Int32 → Option (Int32 × Int32)
  | 0, _, _ => none
  | fu + 1, y3, y4 =>
    (f_X4_rows 70 Szr).bind fun r2 => if r2 ≤ y4 then
      some (y3, y4)
    else
      (f_X2_matches Szr Szf y4 y1 y2).bind fun r4 => Option.bind (α := Int32) (
        if r4 = 0 then
          some (y3)
        else
          some ((y3 + 1))
      ) fun t6 =>
        f_X2_matching_5 y1 y2 Szr Szf fu t6 (y4 + 1)

theorem f_X2_matching_5_s (y1 : Int32) (y2 : Int32) (Szr : Int32) (Szf : (Nat → Int32)) (y3 : Int32) (y4 : Int32) (fu : Nat) : f_X2_matching_5 y1 y2 Szr Szf (fu + 1) y3 y4 = (
    (f_X4_rows 70 Szr).bind fun r2 => if r2 ≤ y4 then
      some (y3, y4)
    else
      (f_X2_matches Szr Szf y4 y1 y2).bind fun r4 => Option.bind (α := Int32) (
        if r4 = 0 then
          some (y3)
        else
          some ((y3 + 1))
      ) fun t6 =>
        f_X2_matching_5 y1 y2 Szr Szf fu t6 (y4 + 1)
    ) := rfl

def f_X2_matching (Szr : Int32) (Szf : (Nat → Int32)) (p1 : Int32) (p2 : Int32) : Option (Int32) :=
  (f_X2_matching_5 p1 p2 Szr Szf zF 0 0).bind fun t7 =>
    some (t7.1)

theorem kX2_matching_14 : Cond.fieldLink RX2 14 "ZoneSampler$State" "zones" "LZoneSampler$Table;" ∈ wsX2_matching := by decide +kernel
theorem jX2_matching_X2 : ∀ w ∈ u_ws RX2 TX2 5, w ∈ wsX2_matching := by decide +kernel
set_option maxHeartbeats 4000000 in
set_option maxRecDepth 100000 in
theorem c_X2_matching (l : Launch) (G : va_G) (c3 : zT3) (oS : zR6) (BS : zSt) (p1 : Int32) (p2 : Int32) {r : Int32} (hf : f_X2_matching BS.1.1 BS.1.2 p1 p2 = some (r)) : zM l yX2_matching wsX2_matching ⟨2, 0, 0, 46⟩ G c3 (zwS c3.1 oS ((BS.1.1, BS.1.2), (BS.2.1.1, BS.2.1.2), BS.2.2.1, BS.2.2.2.1, BS.2.2.2.2)) [.ref oS.1, .int p1, .int p2] (some (.int r)) (zwS c3.1 oS ((BS.1.1, BS.1.2), (BS.2.1.1, BS.2.1.2), BS.2.2.1, BS.2.2.2.1, BS.2.2.2.2)) := by
  obtain ⟨⟨Szr, Szf⟩, ⟨Svr, Svf⟩, Snm, Spd, Snt⟩ := BS
  have hf : f_X2_matching Szr Szf p1 p2 = some (r) := hf
  show zM l yX2_matching wsX2_matching ⟨2, 0, 0, 46⟩ G c3 (zwS c3.1 oS ((Szr, Szf), (Svr, Svf), Snm, Spd, Snt)) [.ref oS.1, .int p1, .int p2] (some (.int r)) (zwS c3.1 oS ((Szr, Szf), (Svr, Svf), Snm, Spd, Snt))
  refine zM.of (cc := cX2_matching) (maxL := 5) (ret := (some .int)) (by decide) rfl (Nat.le_of_ble_eq_true rfl) ?_
  intro p e s m args below meth c A ls S0 hr hlk hC hl
  have S0 : CallFix p m c cX2_matching 5 s args wsX2_matching RX2 := S0
  have hl : lv_has ls 5 [(0, .ref oS.1), (1, .int p1), (2, .int p2)] := hl
  have hx := S0.1
  have hb := S0.2.1
  obtain ⟨H, hH⟩ : ∃ y, y = s.heap := ⟨_, rfl⟩
  rw [← hH] at hC ⊢
  obtain ⟨locs, hlo⟩ : ∃ y : List Loc, y = [] := ⟨_, rfl⟩
  rw [← hlo] at hC ⊢
  clear hH hlo
  unfold f_X2_matching at hf
  refine lv_iconst (v := 0) hx hb dX2_matching_0 (by decide) ?_
  refine lv_istore_n (lv' := [(3, .int 0), (0, .ref oS.1), (1, .int p1), (2, .int p2)]) hx hb dX2_matching_1 rfl hl (by decide) rfl (fun ls hl => ?_)
  refine lv_iconst (v := 0) hx hb dX2_matching_2 (by decide) ?_
  refine lv_istore (lv' := [(4, .int 0), (3, .int 0), (0, .ref oS.1), (1, .int p1), (2, .int p2)]) hx hb dX2_matching_3 hl (by decide) rfl (fun ls hl => ?_)
  have L5 : ∀ (fu : Nat) (y1 : Int32) (y2 : Int32) (y3 : Int32) (y4 : Int32) (Szr : Int32) (Szf : (Nat → Int32)) (Svr : Int32) (Svf : (Nat → Int32)) (Snm : (Nat → Int32)) (Spd : Int32) (Snt : Int32) (tt : Int32 × Int32), f_X2_matching_5 y1 y2 Szr Szf fu y3 y4 = some tt → ∀ (H : Heap) (locs : List Loc) (ls : Array Slot), zC G c3 A s (zwS c3.1 oS ((Szr, Szf), (Svr, Svf), Snm, Spd, Snt)) H locs → lv_has ls 5 [(0, .ref oS.1), (1, .int y1), (2, .int y2), (3, .int y3), (4, .int y4)] → (∀ (H : Heap) (locs : List Loc) (ls : Array Slot), zC G c3 A s (zwS c3.1 oS ((Szr, Szf), (Svr, Svf), Snm, Spd, Snt)) H locs → lv_has ls 5 [(0, .ref oS.1), (1, .int y1), (2, .int y2), (3, .int tt.1), (4, .int tt.2)] → W p l e ⟨2, 0, 0, 46⟩ s m args below meth c H locs 0 0 (MQ below (zPost G (zwS c3.1 oS ((Szr, Szf), (Svr, Svf), Snm, Spd, Snt)) (some (.int r)) A) args s 0 0 A) (F0 m 37 ls [])) → W p l e ⟨2, 0, 0, 46⟩ s m args below meth c H locs 0 0 (MQ below (zPost G (zwS c3.1 oS ((Szr, Szf), (Svr, Svf), Snm, Spd, Snt)) (some (.int r)) A) args s 0 0 A) (F0 m 5 ls []) := by
    intro fu
    induction fu with
    | zero =>
      intro y1 y2 y3 y4 Szr Szf Svr Svf Snm Spd Snt tt hf H locs ls hC hl hK
      exact (z_none hf).elim
    | succ fu ih5 =>
      intro y1 y2 y3 y4 Szr Szf Svr Svf Snm Spd Snt tt hf H locs ls hC hl hK
      replace hf := (f_X2_matching_5_s y1 y2 Szr Szf y3 y4 fu).symm.trans hf
      refine lv_iload hx hb dX2_matching_5 (lv_at hl 4 rfl) ?_
      refine lv_aload_n hx hb dX2_matching_7 rfl (lv_at hl 0 rfl) ?_
      refine z_get S0 hC (ci := 2) (C := RX2) (T := TX2) (N := 5) (v := .ref oS.2.2.1.1) jX2_matching_X2 0 rfl rfl 0 (by decide) kX2_matching_14 rfl rfl dX2_matching_8 ?_
      obtain ⟨r2, hr2, hf⟩ := z_bind hf
      refine z_callPi (z_runV (n := 0) (rest := [.int y4]) (As := []) S0 hC (c_X4_rows l G c3 oS.2.2.1 70 (Szr, Szf) hr2) [2, 3] (by decide) rfl gX2_matching_X4_rows rfl rfl rfl (by decide +kernel) ⟨Nat.le_of_ble_eq_true rfl, Nat.le_of_ble_eq_true rfl⟩ (ci := 4) (q0 := 2) rfl rfl rfl hl.1 rfl (Nat.le_of_ble_eq_true rfl) dX2_matching_11) hC [2, 3] rfl (fun H locs hC => ?_)
      refine lv_icmp_ge (tgt := 37) hx hb dX2_matching_14 (by decide) (fun cd3 => ?_) (fun cd3 => ?_)
      · replace hf := z_pos cd3 hf
        have e1 := z_s1 hf
        subst e1
        exact hK H locs ls hC (lv_sub hl [0, 1, 2, 3, 4] rfl)
      · replace hf := z_neg cd3 hf
        refine lv_aload_n hx hb dX2_matching_17 rfl (lv_at hl 0 rfl) ?_
        refine lv_iload hx hb dX2_matching_18 (lv_at hl 4 rfl) ?_
        refine lv_iload_n hx hb dX2_matching_20 rfl (lv_at hl 1 rfl) ?_
        refine lv_iload_n hx hb dX2_matching_21 rfl (lv_at hl 2 rfl) ?_
        obtain ⟨r4, hr4, hf⟩ := z_bind hf
        refine z_callPi (z_runV (n := 3) (rest := []) (As := [.int y4, .int y1, .int y2]) S0 hC (c_X2_matches l G c3 oS ((Szr, Szf), (Svr, Svf), Snm, Spd, Snt) y4 y1 y2 hr4) [0, 1, 2, 3, 4, 5] (by decide) rfl gX2_matching_X2_matches rfl rfl rfl (by decide +kernel) ⟨Nat.le_of_ble_eq_true rfl, Nat.le_of_ble_eq_true rfl⟩ (ci := 2) (q0 := 0) rfl rfl rfl hl.1 rfl (Nat.le_of_ble_eq_true rfl) dX2_matching_22) hC [0, 1, 2, 3, 4, 5] rfl (fun H locs hC => ?_)
        obtain ⟨t6, ht6, hf⟩ := z_bind hf
        have Jt6 : ∀ (H : Heap) (locs : List Loc) (ls : Array Slot), zC G c3 A s (zwS c3.1 oS ((Szr, Szf), (Svr, Svf), Snm, Spd, Snt)) H locs → lv_has ls 5 [(0, .ref oS.1), (1, .int y1), (2, .int y2), (3, .int t6), (4, .int y4)] → W p l e ⟨2, 0, 0, 46⟩ s m args below meth c H locs 0 0 (MQ below (zPost G (zwS c3.1 oS ((Szr, Szf), (Svr, Svf), Snm, Spd, Snt)) (some (.int r)) A) args s 0 0 A) (F0 m 31 ls []) := by
          intro H locs ls hC hl
          refine lv_iinc (v := (y4 + 1)) (lv' := [(4, .int (y4 + 1)), (0, .ref oS.1), (1, .int y1), (2, .int y2), (3, .int t6)]) hx hb dX2_matching_31 hl (k := 4) rfl rfl (by decide) rfl (fun ls hl => ?_)
          refine lv_goto (tgt := 5) hx hb dX2_matching_34 (by decide) ?_
          exact ih5 y1 y2 t6 (y4 + 1) Szr Szf Svr Svf Snm Spd Snt _ hf H locs ls hC (lv_sub hl [1, 2, 3, 4, 0] rfl) hK
        refine lv_if_eq (tgt := 31) hx hb dX2_matching_25 (by decide) (fun cd5 => ?_) (fun cd5 => ?_)
        · replace ht6 := z_pos cd5 ht6
          have e1 := z_s1 ht6
          subst e1
          exact Jt6 H locs ls hC (lv_sub hl [0, 1, 2, 3, 4] rfl)
        · replace ht6 := z_neg cd5 ht6
          refine lv_iinc (v := (y3 + 1)) (lv' := [(3, .int (y3 + 1)), (0, .ref oS.1), (1, .int y1), (2, .int y2), (4, .int y4)]) hx hb dX2_matching_28 hl (k := 3) rfl rfl (by decide) rfl (fun ls hl => ?_)
          have e1 := z_s1 ht6
          subst e1
          exact Jt6 H locs ls hC (lv_sub hl [1, 2, 3, 0, 4] rfl)
  obtain ⟨t7, ht7, hf⟩ := z_bind hf
  refine L5 zF p1 p2 0 0 Szr Szf Svr Svf Snm Spd Snt t7 ht7 H locs ls hC (lv_sub hl [2, 3, 4, 1, 0] rfl) (fun H locs ls hC hl => ?_)
  refine lv_iload_n hx hb dX2_matching_37 rfl (lv_at hl 3 rfl) ?_
  have e1 := z_s1 hf
  subst e1
  exact z_iret S0 hr hlk hC dX2_matching_38

-- X2 sounds
def f_X2_sounds_39 (y1 : Int32) (y2 : Int32) (y3 : Int32) (y4 : Int32) (Szr : Int32) (Szf : (Nat → Int32)) : Nat → Int32 → Int32 → Int32 → Option (Int32 × Int32 × Int32)
  | 0, _, _, _ => none
  | fu + 1, y5, y6, y7 =>
    (f_X4_rows 70 Szr).bind fun r6 => if r6 ≤ y7 then
      some (y5, y6, y7)
    else
      (f_X4_get 70 Szr Szf y7 5).bind fun r8 => Option.bind (α := Int32 × Int32) (
        if r8 = y4 then
          (f_X2_matches Szr Szf y7 y2 y3).bind fun r11 => if r11 = 0 then
            some (y5, y6)
          else
            Option.bind (α := Int32) (
              if y1 ≤ y7 then
                some (0)
              else
                some (1)
            ) fun t14 =>
              some ((y5 + 1), (y6 + t14))
        else
          some (y5, y6)
      ) fun t10 =>
        f_X2_sounds_39 y1 y2 y3 y4 Szr Szf fu t10.1 t10.2 (y7 + 1)

theorem f_X2_sounds_39_s (y1 : Int32) (y2 : Int32) (y3 : Int32) (y4 : Int32) (Szr : Int32) (Szf : (Nat → Int32)) (y5 : Int32) (y6 : Int32) (y7 : Int32) (fu : Nat) : f_X2_sounds_39 y1 y2 y3 y4 Szr Szf (fu + 1) y5 y6 y7 = (
    (f_X4_rows 70 Szr).bind fun r6 => if r6 ≤ y7 then
      some (y5, y6, y7)
    else
      (f_X4_get 70 Szr Szf y7 5).bind fun r8 => Option.bind (α := Int32 × Int32) (
        if r8 = y4 then
          (f_X2_matches Szr Szf y7 y2 y3).bind fun r11 => if r11 = 0 then
            some (y5, y6)
          else
            Option.bind (α := Int32) (
              if y1 ≤ y7 then
                some (0)
              else
                some (1)
            ) fun t14 =>
              some ((y5 + 1), (y6 + t14))
        else
          some (y5, y6)
      ) fun t10 =>
        f_X2_sounds_39 y1 y2 y3 y4 Szr Szf fu t10.1 t10.2 (y7 + 1)
    ) := rfl

def f_X2_sounds (Szr : Int32) (Szf : (Nat → Int32)) (Snm : (Nat → Int32)) (p1 : Int32) (p2 : Int32) (p3 : Int32) : Option (Int32) :=
  (f_X2_matches Szr Szf p1 p2 p3).bind fun r1 => if r1 = 0 then
    some (0)
  else
    (f_X4_get 70 Szr Szf p1 5).bind fun r3 => if r3 = 0 then
      some (1)
    else
      (f_X2_sounds_39 p1 p2 p3 r3 Szr Szf zF 0 0 0).bind fun t15 =>
        if t15.1 ≤ 0 then
          some (0)
        else
          (f_X2_number Snm ((9 + r3) - 1)).bind fun r17 => (zrem r17 t15.1).bind fun x18 => if t15.2.1 = x18 then
            some (1)
          else
            some (0)

theorem kX2_sounds_14 : Cond.fieldLink RX2 14 "ZoneSampler$State" "zones" "LZoneSampler$Table;" ∈ wsX2_sounds := by decide +kernel
theorem jX2_sounds_X2 : ∀ w ∈ u_ws RX2 TX2 5, w ∈ wsX2_sounds := by decide +kernel
set_option maxHeartbeats 4000000 in
set_option maxRecDepth 100000 in
theorem c_X2_sounds (l : Launch) (G : va_G) (c3 : zT3) (oS : zR6) (BS : zSt) (p1 : Int32) (p2 : Int32) (p3 : Int32) {r : Int32} (hf : f_X2_sounds BS.1.1 BS.1.2 BS.2.2.1 p1 p2 p3 = some (r)) : zM l yX2_sounds wsX2_sounds ⟨2, 0, 0, 46⟩ G c3 (zwS c3.1 oS ((BS.1.1, BS.1.2), (BS.2.1.1, BS.2.1.2), BS.2.2.1, BS.2.2.2.1, BS.2.2.2.2)) [.ref oS.1, .int p1, .int p2, .int p3] (some (.int r)) (zwS c3.1 oS ((BS.1.1, BS.1.2), (BS.2.1.1, BS.2.1.2), BS.2.2.1, BS.2.2.2.1, BS.2.2.2.2)) := by
  obtain ⟨⟨Szr, Szf⟩, ⟨Svr, Svf⟩, Snm, Spd, Snt⟩ := BS
  have hf : f_X2_sounds Szr Szf Snm p1 p2 p3 = some (r) := hf
  show zM l yX2_sounds wsX2_sounds ⟨2, 0, 0, 46⟩ G c3 (zwS c3.1 oS ((Szr, Szf), (Svr, Svf), Snm, Spd, Snt)) [.ref oS.1, .int p1, .int p2, .int p3] (some (.int r)) (zwS c3.1 oS ((Szr, Szf), (Svr, Svf), Snm, Spd, Snt))
  refine zM.of (cc := cX2_sounds) (maxL := 8) (ret := (some .boolean)) (by decide) rfl (Nat.le_of_ble_eq_true rfl) ?_
  intro p e s m args below meth c A ls S0 hr hlk hC hl
  have S0 : CallFix p m c cX2_sounds 8 s args wsX2_sounds RX2 := S0
  have hl : lv_has ls 8 [(0, .ref oS.1), (1, .int p1), (2, .int p2), (3, .int p3)] := hl
  have hx := S0.1
  have hb := S0.2.1
  obtain ⟨H, hH⟩ : ∃ y, y = s.heap := ⟨_, rfl⟩
  rw [← hH] at hC ⊢
  obtain ⟨locs, hlo⟩ : ∃ y : List Loc, y = [] := ⟨_, rfl⟩
  rw [← hlo] at hC ⊢
  clear hH hlo
  unfold f_X2_sounds at hf
  refine lv_aload_n hx hb dX2_sounds_0 rfl (lv_at hl 0 rfl) ?_
  refine lv_iload_n hx hb dX2_sounds_1 rfl (lv_at hl 1 rfl) ?_
  refine lv_iload_n hx hb dX2_sounds_2 rfl (lv_at hl 2 rfl) ?_
  refine lv_iload_n hx hb dX2_sounds_3 rfl (lv_at hl 3 rfl) ?_
  obtain ⟨r1, hr1, hf⟩ := z_bind hf
  refine z_callPi (z_runV (n := 3) (rest := []) (As := [.int p1, .int p2, .int p3]) S0 hC (c_X2_matches l G c3 oS ((Szr, Szf), (Svr, Svf), Snm, Spd, Snt) p1 p2 p3 hr1) [0, 1, 2, 3, 4, 5] (by decide) rfl gX2_sounds_X2_matches rfl rfl rfl (by decide +kernel) ⟨Nat.le_of_ble_eq_true rfl, Nat.le_of_ble_eq_true rfl⟩ (ci := 2) (q0 := 0) rfl rfl rfl hl.1 rfl (Nat.le_of_ble_eq_true rfl) dX2_sounds_4) hC [0, 1, 2, 3, 4, 5] rfl (fun H locs hC => ?_)
  refine lv_if_ne (tgt := 12) hx hb dX2_sounds_7 (by decide) (fun cd2 => ?_) (fun cd2 => ?_)
  · replace hf := z_neg cd2 hf
    refine lv_aload_n hx hb dX2_sounds_12 rfl (lv_at hl 0 rfl) ?_
    refine z_get S0 hC (ci := 2) (C := RX2) (T := TX2) (N := 5) (v := .ref oS.2.2.1.1) jX2_sounds_X2 0 rfl rfl 0 (by decide) kX2_sounds_14 rfl rfl dX2_sounds_13 ?_
    refine lv_iload_n hx hb dX2_sounds_16 rfl (lv_at hl 1 rfl) ?_
    refine lv_iconst (v := 5) hx hb dX2_sounds_17 (by decide) ?_
    obtain ⟨r3, hr3, hf⟩ := z_bind hf
    refine z_callPi (z_runV (n := 2) (rest := []) (As := [.int p1, .int 5]) S0 hC (c_X4_get l G c3 oS.2.2.1 70 (Szr, Szf) p1 5 hr3) [2, 3] (by decide) rfl gX2_sounds_X4_get rfl rfl rfl (by decide +kernel) ⟨Nat.le_of_ble_eq_true rfl, Nat.le_of_ble_eq_true rfl⟩ (ci := 4) (q0 := 2) rfl rfl rfl hl.1 rfl (Nat.le_of_ble_eq_true rfl) dX2_sounds_18) hC [2, 3] rfl (fun H locs hC => ?_)
    refine lv_istore (lv' := [(4, .int r3), (0, .ref oS.1), (1, .int p1), (2, .int p2), (3, .int p3)]) hx hb dX2_sounds_21 hl (by decide) rfl (fun ls hl => ?_)
    refine lv_iload hx hb dX2_sounds_23 (lv_at hl 0 rfl) ?_
    refine lv_if_ne (tgt := 30) hx hb dX2_sounds_25 (by decide) (fun cd4 => ?_) (fun cd4 => ?_)
    · replace hf := z_neg cd4 hf
      refine lv_iconst (v := 0) hx hb dX2_sounds_30 (by decide) ?_
      refine lv_istore (lv' := [(5, .int 0), (4, .int r3), (0, .ref oS.1), (1, .int p1), (2, .int p2), (3, .int p3)]) hx hb dX2_sounds_31 hl (by decide) rfl (fun ls hl => ?_)
      refine lv_iconst (v := 0) hx hb dX2_sounds_33 (by decide) ?_
      refine lv_istore (lv' := [(6, .int 0), (5, .int 0), (4, .int r3), (0, .ref oS.1), (1, .int p1), (2, .int p2), (3, .int p3)]) hx hb dX2_sounds_34 hl (by decide) rfl (fun ls hl => ?_)
      refine lv_iconst (v := 0) hx hb dX2_sounds_36 (by decide) ?_
      refine lv_istore (lv' := [(7, .int 0), (6, .int 0), (5, .int 0), (4, .int r3), (0, .ref oS.1), (1, .int p1), (2, .int p2), (3, .int p3)]) hx hb dX2_sounds_37 hl (by decide) rfl (fun ls hl => ?_)
      have L39 : ∀ (fu : Nat) (y1 : Int32) (y2 : Int32) (y3 : Int32) (y4 : Int32) (y5 : Int32) (y6 : Int32) (y7 : Int32) (Szr : Int32) (Szf : (Nat → Int32)) (Svr : Int32) (Svf : (Nat → Int32)) (Snm : (Nat → Int32)) (Spd : Int32) (Snt : Int32) (tt : Int32 × Int32 × Int32), f_X2_sounds_39 y1 y2 y3 y4 Szr Szf fu y5 y6 y7 = some tt → ∀ (H : Heap) (locs : List Loc) (ls : Array Slot), zC G c3 A s (zwS c3.1 oS ((Szr, Szf), (Svr, Svf), Snm, Spd, Snt)) H locs → lv_has ls 8 [(0, .ref oS.1), (1, .int y1), (2, .int y2), (3, .int y3), (4, .int y4), (5, .int y5), (6, .int y6), (7, .int y7)] → (∀ (H : Heap) (locs : List Loc) (ls : Array Slot), zC G c3 A s (zwS c3.1 oS ((Szr, Szf), (Svr, Svf), Snm, Spd, Snt)) H locs → lv_has ls 8 [(0, .ref oS.1), (1, .int y1), (2, .int y2), (3, .int y3), (4, .int y4), (5, .int tt.1), (6, .int tt.2.1), (7, .int tt.2.2)] → W p l e ⟨2, 0, 0, 46⟩ s m args below meth c H locs 0 0 (MQ below (zPost G (zwS c3.1 oS ((Szr, Szf), (Svr, Svf), Snm, Spd, Snt)) (some (.int r)) A) args s 0 0 A) (F0 m 102 ls [])) → W p l e ⟨2, 0, 0, 46⟩ s m args below meth c H locs 0 0 (MQ below (zPost G (zwS c3.1 oS ((Szr, Szf), (Svr, Svf), Snm, Spd, Snt)) (some (.int r)) A) args s 0 0 A) (F0 m 39 ls []) := by
        intro fu
        induction fu with
        | zero =>
          intro y1 y2 y3 y4 y5 y6 y7 Szr Szf Svr Svf Snm Spd Snt tt hf H locs ls hC hl hK
          exact (z_none hf).elim
        | succ fu ih39 =>
          intro y1 y2 y3 y4 y5 y6 y7 Szr Szf Svr Svf Snm Spd Snt tt hf H locs ls hC hl hK
          replace hf := (f_X2_sounds_39_s y1 y2 y3 y4 Szr Szf y5 y6 y7 fu).symm.trans hf
          refine lv_iload hx hb dX2_sounds_39 (lv_at hl 7 rfl) ?_
          refine lv_aload_n hx hb dX2_sounds_41 rfl (lv_at hl 0 rfl) ?_
          refine z_get S0 hC (ci := 2) (C := RX2) (T := TX2) (N := 5) (v := .ref oS.2.2.1.1) jX2_sounds_X2 0 rfl rfl 0 (by decide) kX2_sounds_14 rfl rfl dX2_sounds_42 ?_
          obtain ⟨r6, hr6, hf⟩ := z_bind hf
          refine z_callPi (z_runV (n := 0) (rest := [.int y7]) (As := []) S0 hC (c_X4_rows l G c3 oS.2.2.1 70 (Szr, Szf) hr6) [2, 3] (by decide) rfl gX2_sounds_X4_rows rfl rfl rfl (by decide +kernel) ⟨Nat.le_of_ble_eq_true rfl, Nat.le_of_ble_eq_true rfl⟩ (ci := 4) (q0 := 2) rfl rfl rfl hl.1 rfl (Nat.le_of_ble_eq_true rfl) dX2_sounds_45) hC [2, 3] rfl (fun H locs hC => ?_)
          refine lv_icmp_ge (tgt := 102) hx hb dX2_sounds_48 (by decide) (fun cd7 => ?_) (fun cd7 => ?_)
          · replace hf := z_pos cd7 hf
            have e1 := z_s1 hf
            subst e1
            exact hK H locs ls hC (lv_sub hl [0, 1, 2, 3, 4, 5, 6, 7] rfl)
          · replace hf := z_neg cd7 hf
            refine lv_aload_n hx hb dX2_sounds_51 rfl (lv_at hl 0 rfl) ?_
            refine z_get S0 hC (ci := 2) (C := RX2) (T := TX2) (N := 5) (v := .ref oS.2.2.1.1) jX2_sounds_X2 0 rfl rfl 0 (by decide) kX2_sounds_14 rfl rfl dX2_sounds_52 ?_
            refine lv_iload hx hb dX2_sounds_55 (lv_at hl 7 rfl) ?_
            refine lv_iconst (v := 5) hx hb dX2_sounds_57 (by decide) ?_
            obtain ⟨r8, hr8, hf⟩ := z_bind hf
            refine z_callPi (z_runV (n := 2) (rest := []) (As := [.int y7, .int 5]) S0 hC (c_X4_get l G c3 oS.2.2.1 70 (Szr, Szf) y7 5 hr8) [2, 3] (by decide) rfl gX2_sounds_X4_get rfl rfl rfl (by decide +kernel) ⟨Nat.le_of_ble_eq_true rfl, Nat.le_of_ble_eq_true rfl⟩ (ci := 4) (q0 := 2) rfl rfl rfl hl.1 rfl (Nat.le_of_ble_eq_true rfl) dX2_sounds_58) hC [2, 3] rfl (fun H locs hC => ?_)
            refine lv_iload hx hb dX2_sounds_61 (lv_at hl 4 rfl) ?_
            obtain ⟨t10, ht10, hf⟩ := z_bind hf
            have Jt10 : ∀ (H : Heap) (locs : List Loc) (ls : Array Slot), zC G c3 A s (zwS c3.1 oS ((Szr, Szf), (Svr, Svf), Snm, Spd, Snt)) H locs → lv_has ls 8 [(0, .ref oS.1), (1, .int y1), (2, .int y2), (3, .int y3), (4, .int y4), (5, .int t10.1), (6, .int t10.2), (7, .int y7)] → W p l e ⟨2, 0, 0, 46⟩ s m args below meth c H locs 0 0 (MQ below (zPost G (zwS c3.1 oS ((Szr, Szf), (Svr, Svf), Snm, Spd, Snt)) (some (.int r)) A) args s 0 0 A) (F0 m 96 ls []) := by
              intro H locs ls hC hl
              refine lv_iinc (v := (y7 + 1)) (lv' := [(7, .int (y7 + 1)), (0, .ref oS.1), (1, .int y1), (2, .int y2), (3, .int y3), (4, .int y4), (5, .int t10.1), (6, .int t10.2)]) hx hb dX2_sounds_96 hl (k := 7) rfl rfl (by decide) rfl (fun ls hl => ?_)
              refine lv_goto (tgt := 39) hx hb dX2_sounds_99 (by decide) ?_
              exact ih39 y1 y2 y3 y4 t10.1 t10.2 (y7 + 1) Szr Szf Svr Svf Snm Spd Snt _ hf H locs ls hC (lv_sub hl [1, 2, 3, 4, 5, 6, 7, 0] rfl) hK
            refine lv_icmp_ne (tgt := 96) hx hb dX2_sounds_63 (by decide) (fun cd9 => ?_) (fun cd9 => ?_)
            · replace ht10 := z_neg cd9 ht10
              have e1 := z_s1 ht10
              subst e1
              exact Jt10 H locs ls hC (lv_sub hl [0, 1, 2, 3, 4, 5, 6, 7] rfl)
            · replace ht10 := z_pos cd9 ht10
              refine lv_aload_n hx hb dX2_sounds_66 rfl (lv_at hl 0 rfl) ?_
              refine lv_iload hx hb dX2_sounds_67 (lv_at hl 7 rfl) ?_
              refine lv_iload_n hx hb dX2_sounds_69 rfl (lv_at hl 2 rfl) ?_
              refine lv_iload_n hx hb dX2_sounds_70 rfl (lv_at hl 3 rfl) ?_
              obtain ⟨r11, hr11, ht10⟩ := z_bind ht10
              refine z_callPi (z_runV (n := 3) (rest := []) (As := [.int y7, .int y2, .int y3]) S0 hC (c_X2_matches l G c3 oS ((Szr, Szf), (Svr, Svf), Snm, Spd, Snt) y7 y2 y3 hr11) [0, 1, 2, 3, 4, 5] (by decide) rfl gX2_sounds_X2_matches rfl rfl rfl (by decide +kernel) ⟨Nat.le_of_ble_eq_true rfl, Nat.le_of_ble_eq_true rfl⟩ (ci := 2) (q0 := 0) rfl rfl rfl hl.1 rfl (Nat.le_of_ble_eq_true rfl) dX2_sounds_71) hC [0, 1, 2, 3, 4, 5] rfl (fun H locs hC => ?_)
              refine lv_if_eq (tgt := 96) hx hb dX2_sounds_74 (by decide) (fun cd12 => ?_) (fun cd12 => ?_)
              · replace ht10 := z_pos cd12 ht10
                have e1 := z_s1 ht10
                subst e1
                exact Jt10 H locs ls hC (lv_sub hl [0, 1, 2, 3, 4, 5, 6, 7] rfl)
              · replace ht10 := z_neg cd12 ht10
                refine lv_iinc (v := (y5 + 1)) (lv' := [(5, .int (y5 + 1)), (0, .ref oS.1), (1, .int y1), (2, .int y2), (3, .int y3), (4, .int y4), (6, .int y6), (7, .int y7)]) hx hb dX2_sounds_77 hl (k := 5) rfl rfl (by decide) rfl (fun ls hl => ?_)
                refine lv_iload hx hb dX2_sounds_80 (lv_at hl 6 rfl) ?_
                refine lv_iload hx hb dX2_sounds_82 (lv_at hl 7 rfl) ?_
                refine lv_iload_n hx hb dX2_sounds_84 rfl (lv_at hl 2 rfl) ?_
                obtain ⟨t14, ht14, ht10⟩ := z_bind ht10
                have Jt14 : ∀ (H : Heap) (locs : List Loc) (ls : Array Slot), zC G c3 A s (zwS c3.1 oS ((Szr, Szf), (Svr, Svf), Snm, Spd, Snt)) H locs → lv_has ls 8 [(0, .ref oS.1), (1, .int y1), (2, .int y2), (3, .int y3), (4, .int y4), (5, .int (y5 + 1)), (6, .int y6), (7, .int y7)] → W p l e ⟨2, 0, 0, 46⟩ s m args below meth c H locs 0 0 (MQ below (zPost G (zwS c3.1 oS ((Szr, Szf), (Svr, Svf), Snm, Spd, Snt)) (some (.int r)) A) args s 0 0 A) (F0 m 93 ls [.int t14, .int y6]) := by
                  intro H locs ls hC hl
                  refine lv_iadd hx hb dX2_sounds_93 ?_
                  refine lv_istore (lv' := [(6, .int (y6 + t14)), (0, .ref oS.1), (1, .int y1), (2, .int y2), (3, .int y3), (4, .int y4), (5, .int (y5 + 1)), (7, .int y7)]) hx hb dX2_sounds_94 hl (by decide) rfl (fun ls hl => ?_)
                  have e1 := z_s1 ht10
                  subst e1
                  exact Jt10 H locs ls hC (lv_sub hl [1, 2, 3, 4, 5, 6, 0, 7] rfl)
                refine lv_icmp_ge (tgt := 92) hx hb dX2_sounds_85 (by decide) (fun cd13 => ?_) (fun cd13 => ?_)
                · replace ht14 := z_pos cd13 ht14
                  refine lv_iconst (v := 0) hx hb dX2_sounds_92 (by decide) ?_
                  have e1 := z_s1 ht14
                  subst e1
                  exact Jt14 H locs ls hC (lv_sub hl [1, 2, 3, 4, 5, 0, 6, 7] rfl)
                · replace ht14 := z_neg cd13 ht14
                  refine lv_iconst (v := 1) hx hb dX2_sounds_88 (by decide) ?_
                  refine lv_goto (tgt := 93) hx hb dX2_sounds_89 (by decide) ?_
                  have e1 := z_s1 ht14
                  subst e1
                  exact Jt14 H locs ls hC (lv_sub hl [1, 2, 3, 4, 5, 0, 6, 7] rfl)
      obtain ⟨t15, ht15, hf⟩ := z_bind hf
      refine L39 zF p1 p2 p3 r3 0 0 0 Szr Szf Svr Svf Snm Spd Snt t15 ht15 H locs ls hC (lv_sub hl [4, 5, 6, 7, 3, 2, 1, 0] rfl) (fun H locs ls hC hl => ?_)
      refine lv_iload hx hb dX2_sounds_102 (lv_at hl 5 rfl) ?_
      refine lv_if_le (tgt := 130) hx hb dX2_sounds_104 (by decide) (fun cd16 => ?_) (fun cd16 => ?_)
      · replace hf := z_pos cd16 hf
        refine lv_iconst (v := 0) hx hb dX2_sounds_130 (by decide) ?_
        have e1 := z_s1 hf
        subst e1
        exact z_zret S0 hr hlk rfl hC dX2_sounds_131
      · replace hf := z_neg cd16 hf
        refine lv_iload hx hb dX2_sounds_107 (lv_at hl 6 rfl) ?_
        refine lv_aload_n hx hb dX2_sounds_109 rfl (lv_at hl 0 rfl) ?_
        refine lv_bipush (v := 9) hx hb dX2_sounds_110 (by decide) ?_
        refine lv_iload hx hb dX2_sounds_112 (lv_at hl 4 rfl) ?_
        refine lv_iadd hx hb dX2_sounds_114 ?_
        refine lv_iconst (v := 1) hx hb dX2_sounds_115 (by decide) ?_
        refine lv_isub hx hb dX2_sounds_116 ?_
        obtain ⟨r17, hr17, hf⟩ := z_bind hf
        refine z_callPi (z_runV (n := 1) (rest := [.int t15.2.1]) (As := [.int ((9 + r3) - 1)]) S0 hC (c_X2_number l G c3 oS ((Szr, Szf), (Svr, Svf), Snm, Spd, Snt) ((9 + r3) - 1) hr17) [0, 1, 2, 3, 4, 5] (by decide) rfl gX2_sounds_X2_number rfl rfl rfl (by decide +kernel) ⟨Nat.le_of_ble_eq_true rfl, Nat.le_of_ble_eq_true rfl⟩ (ci := 2) (q0 := 0) rfl rfl rfl hl.1 rfl (Nat.le_of_ble_eq_true rfl) dX2_sounds_117) hC [0, 1, 2, 3, 4, 5] rfl (fun H locs hC => ?_)
        refine lv_iload hx hb dX2_sounds_120 (lv_at hl 5 rfl) ?_
        obtain ⟨x18, hx18, hf⟩ := z_bind hf
        refine z_irem S0 hx18 dX2_sounds_122 ?_
        refine lv_icmp_ne (tgt := 130) hx hb dX2_sounds_123 (by decide) (fun cd19 => ?_) (fun cd19 => ?_)
        · replace hf := z_neg cd19 hf
          refine lv_iconst (v := 0) hx hb dX2_sounds_130 (by decide) ?_
          have e1 := z_s1 hf
          subst e1
          exact z_zret S0 hr hlk rfl hC dX2_sounds_131
        · replace hf := z_pos cd19 hf
          refine lv_iconst (v := 1) hx hb dX2_sounds_126 (by decide) ?_
          refine lv_goto (tgt := 131) hx hb dX2_sounds_127 (by decide) ?_
          have e1 := z_s1 hf
          subst e1
          exact z_zret S0 hr hlk rfl hC dX2_sounds_131
    · replace hf := z_pos cd4 hf
      refine lv_iconst (v := 1) hx hb dX2_sounds_28 (by decide) ?_
      have e1 := z_s1 hf
      subst e1
      exact z_zret S0 hr hlk rfl hC dX2_sounds_29
  · replace hf := z_pos cd2 hf
    refine lv_iconst (v := 0) hx hb dX2_sounds_10 (by decide) ?_
    have e1 := z_s1 hf
    subst e1
    exact z_zret S0 hr hlk rfl hC dX2_sounds_11

-- X2 sounding
def f_X2_sounding_5 (y1 : Int32) (y2 : Int32) (Szr : Int32) (Szf : (Nat → Int32)) (Snm : (Nat → Int32)) : Nat → Int32 → Int32 → Option (Int32 × Int32)
  | 0, _, _ => none
  | fu + 1, y3, y4 =>
    (f_X4_rows 70 Szr).bind fun r2 => if r2 ≤ y4 then
      some (y3, y4)
    else
      (f_X2_sounds Szr Szf Snm y4 y1 y2).bind fun r4 => Option.bind (α := Int32) (
        if r4 = 0 then
          some (y3)
        else
          some ((y3 + 1))
      ) fun t6 =>
        f_X2_sounding_5 y1 y2 Szr Szf Snm fu t6 (y4 + 1)

theorem f_X2_sounding_5_s (y1 : Int32) (y2 : Int32) (Szr : Int32) (Szf : (Nat → Int32)) (Snm : (Nat → Int32)) (y3 : Int32) (y4 : Int32) (fu : Nat) : f_X2_sounding_5 y1 y2 Szr Szf Snm (fu + 1) y3 y4 = (
    (f_X4_rows 70 Szr).bind fun r2 => if r2 ≤ y4 then
      some (y3, y4)
    else
      (f_X2_sounds Szr Szf Snm y4 y1 y2).bind fun r4 => Option.bind (α := Int32) (
        if r4 = 0 then
          some (y3)
        else
          some ((y3 + 1))
      ) fun t6 =>
        f_X2_sounding_5 y1 y2 Szr Szf Snm fu t6 (y4 + 1)
    ) := rfl

def f_X2_sounding (Szr : Int32) (Szf : (Nat → Int32)) (Snm : (Nat → Int32)) (p1 : Int32) (p2 : Int32) : Option (Int32) :=
  (f_X2_sounding_5 p1 p2 Szr Szf Snm zF 0 0).bind fun t7 =>
    some (t7.1)

theorem kX2_sounding_14 : Cond.fieldLink RX2 14 "ZoneSampler$State" "zones" "LZoneSampler$Table;" ∈ wsX2_sounding := by decide +kernel
theorem jX2_sounding_X2 : ∀ w ∈ u_ws RX2 TX2 5, w ∈ wsX2_sounding := by decide +kernel
set_option maxHeartbeats 4000000 in
set_option maxRecDepth 100000 in
theorem c_X2_sounding (l : Launch) (G : va_G) (c3 : zT3) (oS : zR6) (BS : zSt) (p1 : Int32) (p2 : Int32) {r : Int32} (hf : f_X2_sounding BS.1.1 BS.1.2 BS.2.2.1 p1 p2 = some (r)) : zM l yX2_sounding wsX2_sounding ⟨3, 0, 0, 73⟩ G c3 (zwS c3.1 oS ((BS.1.1, BS.1.2), (BS.2.1.1, BS.2.1.2), BS.2.2.1, BS.2.2.2.1, BS.2.2.2.2)) [.ref oS.1, .int p1, .int p2] (some (.int r)) (zwS c3.1 oS ((BS.1.1, BS.1.2), (BS.2.1.1, BS.2.1.2), BS.2.2.1, BS.2.2.2.1, BS.2.2.2.2)) := by
  obtain ⟨⟨Szr, Szf⟩, ⟨Svr, Svf⟩, Snm, Spd, Snt⟩ := BS
  have hf : f_X2_sounding Szr Szf Snm p1 p2 = some (r) := hf
  show zM l yX2_sounding wsX2_sounding ⟨3, 0, 0, 73⟩ G c3 (zwS c3.1 oS ((Szr, Szf), (Svr, Svf), Snm, Spd, Snt)) [.ref oS.1, .int p1, .int p2] (some (.int r)) (zwS c3.1 oS ((Szr, Szf), (Svr, Svf), Snm, Spd, Snt))
  refine zM.of (cc := cX2_sounding) (maxL := 5) (ret := (some .int)) (by decide) rfl (Nat.le_of_ble_eq_true rfl) ?_
  intro p e s m args below meth c A ls S0 hr hlk hC hl
  have S0 : CallFix p m c cX2_sounding 5 s args wsX2_sounding RX2 := S0
  have hl : lv_has ls 5 [(0, .ref oS.1), (1, .int p1), (2, .int p2)] := hl
  have hx := S0.1
  have hb := S0.2.1
  obtain ⟨H, hH⟩ : ∃ y, y = s.heap := ⟨_, rfl⟩
  rw [← hH] at hC ⊢
  obtain ⟨locs, hlo⟩ : ∃ y : List Loc, y = [] := ⟨_, rfl⟩
  rw [← hlo] at hC ⊢
  clear hH hlo
  unfold f_X2_sounding at hf
  refine lv_iconst (v := 0) hx hb dX2_sounding_0 (by decide) ?_
  refine lv_istore_n (lv' := [(3, .int 0), (0, .ref oS.1), (1, .int p1), (2, .int p2)]) hx hb dX2_sounding_1 rfl hl (by decide) rfl (fun ls hl => ?_)
  refine lv_iconst (v := 0) hx hb dX2_sounding_2 (by decide) ?_
  refine lv_istore (lv' := [(4, .int 0), (3, .int 0), (0, .ref oS.1), (1, .int p1), (2, .int p2)]) hx hb dX2_sounding_3 hl (by decide) rfl (fun ls hl => ?_)
  have L5 : ∀ (fu : Nat) (y1 : Int32) (y2 : Int32) (y3 : Int32) (y4 : Int32) (Szr : Int32) (Szf : (Nat → Int32)) (Svr : Int32) (Svf : (Nat → Int32)) (Snm : (Nat → Int32)) (Spd : Int32) (Snt : Int32) (tt : Int32 × Int32), f_X2_sounding_5 y1 y2 Szr Szf Snm fu y3 y4 = some tt → ∀ (H : Heap) (locs : List Loc) (ls : Array Slot), zC G c3 A s (zwS c3.1 oS ((Szr, Szf), (Svr, Svf), Snm, Spd, Snt)) H locs → lv_has ls 5 [(0, .ref oS.1), (1, .int y1), (2, .int y2), (3, .int y3), (4, .int y4)] → (∀ (H : Heap) (locs : List Loc) (ls : Array Slot), zC G c3 A s (zwS c3.1 oS ((Szr, Szf), (Svr, Svf), Snm, Spd, Snt)) H locs → lv_has ls 5 [(0, .ref oS.1), (1, .int y1), (2, .int y2), (3, .int tt.1), (4, .int tt.2)] → W p l e ⟨3, 0, 0, 73⟩ s m args below meth c H locs 0 0 (MQ below (zPost G (zwS c3.1 oS ((Szr, Szf), (Svr, Svf), Snm, Spd, Snt)) (some (.int r)) A) args s 0 0 A) (F0 m 37 ls [])) → W p l e ⟨3, 0, 0, 73⟩ s m args below meth c H locs 0 0 (MQ below (zPost G (zwS c3.1 oS ((Szr, Szf), (Svr, Svf), Snm, Spd, Snt)) (some (.int r)) A) args s 0 0 A) (F0 m 5 ls []) := by
    intro fu
    induction fu with
    | zero =>
      intro y1 y2 y3 y4 Szr Szf Svr Svf Snm Spd Snt tt hf H locs ls hC hl hK
      exact (z_none hf).elim
    | succ fu ih5 =>
      intro y1 y2 y3 y4 Szr Szf Svr Svf Snm Spd Snt tt hf H locs ls hC hl hK
      replace hf := (f_X2_sounding_5_s y1 y2 Szr Szf Snm y3 y4 fu).symm.trans hf
      refine lv_iload hx hb dX2_sounding_5 (lv_at hl 4 rfl) ?_
      refine lv_aload_n hx hb dX2_sounding_7 rfl (lv_at hl 0 rfl) ?_
      refine z_get S0 hC (ci := 2) (C := RX2) (T := TX2) (N := 5) (v := .ref oS.2.2.1.1) jX2_sounding_X2 0 rfl rfl 0 (by decide) kX2_sounding_14 rfl rfl dX2_sounding_8 ?_
      obtain ⟨r2, hr2, hf⟩ := z_bind hf
      refine z_callPi (z_runV (n := 0) (rest := [.int y4]) (As := []) S0 hC (c_X4_rows l G c3 oS.2.2.1 70 (Szr, Szf) hr2) [2, 3] (by decide) rfl gX2_sounding_X4_rows rfl rfl rfl (by decide +kernel) ⟨Nat.le_of_ble_eq_true rfl, Nat.le_of_ble_eq_true rfl⟩ (ci := 4) (q0 := 2) rfl rfl rfl hl.1 rfl (Nat.le_of_ble_eq_true rfl) dX2_sounding_11) hC [2, 3] rfl (fun H locs hC => ?_)
      refine lv_icmp_ge (tgt := 37) hx hb dX2_sounding_14 (by decide) (fun cd3 => ?_) (fun cd3 => ?_)
      · replace hf := z_pos cd3 hf
        have e1 := z_s1 hf
        subst e1
        exact hK H locs ls hC (lv_sub hl [0, 1, 2, 3, 4] rfl)
      · replace hf := z_neg cd3 hf
        refine lv_aload_n hx hb dX2_sounding_17 rfl (lv_at hl 0 rfl) ?_
        refine lv_iload hx hb dX2_sounding_18 (lv_at hl 4 rfl) ?_
        refine lv_iload_n hx hb dX2_sounding_20 rfl (lv_at hl 1 rfl) ?_
        refine lv_iload_n hx hb dX2_sounding_21 rfl (lv_at hl 2 rfl) ?_
        obtain ⟨r4, hr4, hf⟩ := z_bind hf
        refine z_callPi (z_runV (n := 3) (rest := []) (As := [.int y4, .int y1, .int y2]) S0 hC (c_X2_sounds l G c3 oS ((Szr, Szf), (Svr, Svf), Snm, Spd, Snt) y4 y1 y2 hr4) [0, 1, 2, 3, 4, 5] (by decide) rfl gX2_sounding_X2_sounds rfl rfl rfl (by decide +kernel) ⟨Nat.le_of_ble_eq_true rfl, Nat.le_of_ble_eq_true rfl⟩ (ci := 2) (q0 := 0) rfl rfl rfl hl.1 rfl (Nat.le_of_ble_eq_true rfl) dX2_sounding_22) hC [0, 1, 2, 3, 4, 5] rfl (fun H locs hC => ?_)
        obtain ⟨t6, ht6, hf⟩ := z_bind hf
        have Jt6 : ∀ (H : Heap) (locs : List Loc) (ls : Array Slot), zC G c3 A s (zwS c3.1 oS ((Szr, Szf), (Svr, Svf), Snm, Spd, Snt)) H locs → lv_has ls 5 [(0, .ref oS.1), (1, .int y1), (2, .int y2), (3, .int t6), (4, .int y4)] → W p l e ⟨3, 0, 0, 73⟩ s m args below meth c H locs 0 0 (MQ below (zPost G (zwS c3.1 oS ((Szr, Szf), (Svr, Svf), Snm, Spd, Snt)) (some (.int r)) A) args s 0 0 A) (F0 m 31 ls []) := by
          intro H locs ls hC hl
          refine lv_iinc (v := (y4 + 1)) (lv' := [(4, .int (y4 + 1)), (0, .ref oS.1), (1, .int y1), (2, .int y2), (3, .int t6)]) hx hb dX2_sounding_31 hl (k := 4) rfl rfl (by decide) rfl (fun ls hl => ?_)
          refine lv_goto (tgt := 5) hx hb dX2_sounding_34 (by decide) ?_
          exact ih5 y1 y2 t6 (y4 + 1) Szr Szf Svr Svf Snm Spd Snt _ hf H locs ls hC (lv_sub hl [1, 2, 3, 4, 0] rfl) hK
        refine lv_if_eq (tgt := 31) hx hb dX2_sounding_25 (by decide) (fun cd5 => ?_) (fun cd5 => ?_)
        · replace ht6 := z_pos cd5 ht6
          have e1 := z_s1 ht6
          subst e1
          exact Jt6 H locs ls hC (lv_sub hl [0, 1, 2, 3, 4] rfl)
        · replace ht6 := z_neg cd5 ht6
          refine lv_iinc (v := (y3 + 1)) (lv' := [(3, .int (y3 + 1)), (0, .ref oS.1), (1, .int y1), (2, .int y2), (4, .int y4)]) hx hb dX2_sounding_28 hl (k := 3) rfl rfl (by decide) rfl (fun ls hl => ?_)
          have e1 := z_s1 ht6
          subst e1
          exact Jt6 H locs ls hC (lv_sub hl [1, 2, 3, 0, 4] rfl)
  obtain ⟨t7, ht7, hf⟩ := z_bind hf
  refine L5 zF p1 p2 0 0 Szr Szf Svr Svf Snm Spd Snt t7 ht7 H locs ls hC (lv_sub hl [2, 3, 4, 1, 0] rfl) (fun H locs ls hC hl => ?_)
  refine lv_iload_n hx hb dX2_sounding_37 rfl (lv_at hl 3 rfl) ?_
  have e1 := z_s1 hf
  subst e1
  exact z_iret S0 hr hlk hC dX2_sounding_38

-- X2 firstSounding
def f_X2_firstSounding_2 (y1 : Int32) (y2 : Int32) (Szr : Int32) (Szf : (Nat → Int32)) (Snm : (Nat → Int32)) (kk : Int32 → Option (Int32)) : Nat → Int32 → Option (Int32)
  | 0, _ => none
  | fu + 1, y3 =>
    (f_X4_rows 70 Szr).bind fun r2 => if r2 ≤ y3 then
      kk (y3)
    else
      (f_X2_sounds Szr Szf Snm y3 y1 y2).bind fun r4 => if r4 = 0 then
        f_X2_firstSounding_2 y1 y2 Szr Szf Snm kk fu (y3 + 1)
      else
        some (y3)

theorem f_X2_firstSounding_2_s (y1 : Int32) (y2 : Int32) (Szr : Int32) (Szf : (Nat → Int32)) (Snm : (Nat → Int32)) (y3 : Int32) (kk : Int32 → Option (Int32)) (fu : Nat) : f_X2_firstSounding_2 y1 y2 Szr Szf Snm kk (fu + 1) y3 = (
    (f_X4_rows 70 Szr).bind fun r2 => if r2 ≤ y3 then
      kk (y3)
    else
      (f_X2_sounds Szr Szf Snm y3 y1 y2).bind fun r4 => if r4 = 0 then
        f_X2_firstSounding_2 y1 y2 Szr Szf Snm kk fu (y3 + 1)
      else
        some (y3)
    ) := rfl

def f_X2_firstSounding (Szr : Int32) (Szf : (Nat → Int32)) (Snm : (Nat → Int32)) (p1 : Int32) (p2 : Int32) : Option (Int32) :=
  f_X2_firstSounding_2 p1 p2 Szr Szf Snm (fun t6 =>
    some ((-4))
    ) zF 0

theorem kX2_firstSounding_14 : Cond.fieldLink RX2 14 "ZoneSampler$State" "zones" "LZoneSampler$Table;" ∈ wsX2_firstSounding := by decide +kernel
theorem jX2_firstSounding_X2 : ∀ w ∈ u_ws RX2 TX2 5, w ∈ wsX2_firstSounding := by decide +kernel
set_option maxHeartbeats 4000000 in
set_option maxRecDepth 100000 in
theorem c_X2_firstSounding (l : Launch) (G : va_G) (c3 : zT3) (oS : zR6) (BS : zSt) (p1 : Int32) (p2 : Int32) {r : Int32} (hf : f_X2_firstSounding BS.1.1 BS.1.2 BS.2.2.1 p1 p2 = some (r)) : zM l yX2_firstSounding wsX2_firstSounding ⟨3, 0, 0, 73⟩ G c3 (zwS c3.1 oS ((BS.1.1, BS.1.2), (BS.2.1.1, BS.2.1.2), BS.2.2.1, BS.2.2.2.1, BS.2.2.2.2)) [.ref oS.1, .int p1, .int p2] (some (.int r)) (zwS c3.1 oS ((BS.1.1, BS.1.2), (BS.2.1.1, BS.2.1.2), BS.2.2.1, BS.2.2.2.1, BS.2.2.2.2)) := by
  obtain ⟨⟨Szr, Szf⟩, ⟨Svr, Svf⟩, Snm, Spd, Snt⟩ := BS
  have hf : f_X2_firstSounding Szr Szf Snm p1 p2 = some (r) := hf
  show zM l yX2_firstSounding wsX2_firstSounding ⟨3, 0, 0, 73⟩ G c3 (zwS c3.1 oS ((Szr, Szf), (Svr, Svf), Snm, Spd, Snt)) [.ref oS.1, .int p1, .int p2] (some (.int r)) (zwS c3.1 oS ((Szr, Szf), (Svr, Svf), Snm, Spd, Snt))
  refine zM.of (cc := cX2_firstSounding) (maxL := 4) (ret := (some .int)) (by decide) rfl (Nat.le_of_ble_eq_true rfl) ?_
  intro p e s m args below meth c A ls S0 hr hlk hC hl
  have S0 : CallFix p m c cX2_firstSounding 4 s args wsX2_firstSounding RX2 := S0
  have hl : lv_has ls 4 [(0, .ref oS.1), (1, .int p1), (2, .int p2)] := hl
  have hx := S0.1
  have hb := S0.2.1
  obtain ⟨H, hH⟩ : ∃ y, y = s.heap := ⟨_, rfl⟩
  rw [← hH] at hC ⊢
  obtain ⟨locs, hlo⟩ : ∃ y : List Loc, y = [] := ⟨_, rfl⟩
  rw [← hlo] at hC ⊢
  clear hH hlo
  unfold f_X2_firstSounding at hf
  refine lv_iconst (v := 0) hx hb dX2_firstSounding_0 (by decide) ?_
  refine lv_istore_n (lv' := [(3, .int 0), (0, .ref oS.1), (1, .int p1), (2, .int p2)]) hx hb dX2_firstSounding_1 rfl hl (by decide) rfl (fun ls hl => ?_)
  have L2 : ∀ (fu : Nat) (y1 : Int32) (y2 : Int32) (y3 : Int32) (Szr : Int32) (Szf : (Nat → Int32)) (Svr : Int32) (Svf : (Nat → Int32)) (Snm : (Nat → Int32)) (Spd : Int32) (Snt : Int32) (kk : Int32 → Option (Int32)), (∀ tt, kk tt = some (r) → ∀ (H : Heap) (locs : List Loc) (ls : Array Slot), zC G c3 A s (zwS c3.1 oS ((Szr, Szf), (Svr, Svf), Snm, Spd, Snt)) H locs → lv_has ls 4 [(0, .ref oS.1), (1, .int y1), (2, .int y2), (3, .int tt)] → W p l e ⟨3, 0, 0, 73⟩ s m args below meth c H locs 0 0 (MQ below (zPost G (zwS c3.1 oS ((Szr, Szf), (Svr, Svf), Snm, Spd, Snt)) (some (.int r)) A) args s 0 0 A) (F0 m 31 ls [])) → f_X2_firstSounding_2 y1 y2 Szr Szf Snm kk fu y3 = some (r) → ∀ (H : Heap) (locs : List Loc) (ls : Array Slot), zC G c3 A s (zwS c3.1 oS ((Szr, Szf), (Svr, Svf), Snm, Spd, Snt)) H locs → lv_has ls 4 [(0, .ref oS.1), (1, .int y1), (2, .int y2), (3, .int y3)] → W p l e ⟨3, 0, 0, 73⟩ s m args below meth c H locs 0 0 (MQ below (zPost G (zwS c3.1 oS ((Szr, Szf), (Svr, Svf), Snm, Spd, Snt)) (some (.int r)) A) args s 0 0 A) (F0 m 2 ls []) := by
    intro fu
    induction fu with
    | zero =>
      intro y1 y2 y3 Szr Szf Svr Svf Snm Spd Snt kk hk hf H locs ls hC hl
      exact (z_none hf).elim
    | succ fu ih2 =>
      intro y1 y2 y3 Szr Szf Svr Svf Snm Spd Snt kk hk hf H locs ls hC hl
      replace hf := (f_X2_firstSounding_2_s y1 y2 Szr Szf Snm y3 kk fu).symm.trans hf
      refine lv_iload_n hx hb dX2_firstSounding_2 rfl (lv_at hl 3 rfl) ?_
      refine lv_aload_n hx hb dX2_firstSounding_3 rfl (lv_at hl 0 rfl) ?_
      refine z_get S0 hC (ci := 2) (C := RX2) (T := TX2) (N := 5) (v := .ref oS.2.2.1.1) jX2_firstSounding_X2 0 rfl rfl 0 (by decide) kX2_firstSounding_14 rfl rfl dX2_firstSounding_4 ?_
      obtain ⟨r2, hr2, hf⟩ := z_bind hf
      refine z_callPi (z_runV (n := 0) (rest := [.int y3]) (As := []) S0 hC (c_X4_rows l G c3 oS.2.2.1 70 (Szr, Szf) hr2) [2, 3] (by decide) rfl gX2_firstSounding_X4_rows rfl rfl rfl (by decide +kernel) ⟨Nat.le_of_ble_eq_true rfl, Nat.le_of_ble_eq_true rfl⟩ (ci := 4) (q0 := 2) rfl rfl rfl hl.1 rfl (Nat.le_of_ble_eq_true rfl) dX2_firstSounding_7) hC [2, 3] rfl (fun H locs hC => ?_)
      refine lv_icmp_ge (tgt := 31) hx hb dX2_firstSounding_10 (by decide) (fun cd3 => ?_) (fun cd3 => ?_)
      · replace hf := z_pos cd3 hf
        exact hk (y3) hf H locs ls hC (lv_sub hl [0, 1, 2, 3] rfl)
      · replace hf := z_neg cd3 hf
        refine lv_aload_n hx hb dX2_firstSounding_13 rfl (lv_at hl 0 rfl) ?_
        refine lv_iload_n hx hb dX2_firstSounding_14 rfl (lv_at hl 3 rfl) ?_
        refine lv_iload_n hx hb dX2_firstSounding_15 rfl (lv_at hl 1 rfl) ?_
        refine lv_iload_n hx hb dX2_firstSounding_16 rfl (lv_at hl 2 rfl) ?_
        obtain ⟨r4, hr4, hf⟩ := z_bind hf
        refine z_callPi (z_runV (n := 3) (rest := []) (As := [.int y3, .int y1, .int y2]) S0 hC (c_X2_sounds l G c3 oS ((Szr, Szf), (Svr, Svf), Snm, Spd, Snt) y3 y1 y2 hr4) [0, 1, 2, 3, 4, 5] (by decide) rfl gX2_firstSounding_X2_sounds rfl rfl rfl (by decide +kernel) ⟨Nat.le_of_ble_eq_true rfl, Nat.le_of_ble_eq_true rfl⟩ (ci := 2) (q0 := 0) rfl rfl rfl hl.1 rfl (Nat.le_of_ble_eq_true rfl) dX2_firstSounding_17) hC [0, 1, 2, 3, 4, 5] rfl (fun H locs hC => ?_)
        refine lv_if_eq (tgt := 25) hx hb dX2_firstSounding_20 (by decide) (fun cd5 => ?_) (fun cd5 => ?_)
        · replace hf := z_pos cd5 hf
          refine lv_iinc (v := (y3 + 1)) (lv' := [(3, .int (y3 + 1)), (0, .ref oS.1), (1, .int y1), (2, .int y2)]) hx hb dX2_firstSounding_25 hl (k := 3) rfl rfl (by decide) rfl (fun ls hl => ?_)
          refine lv_goto (tgt := 2) hx hb dX2_firstSounding_28 (by decide) ?_
          exact ih2 y1 y2 (y3 + 1) Szr Szf Svr Svf Snm Spd Snt kk hk hf H locs ls hC (lv_sub hl [1, 2, 3, 0] rfl)
        · replace hf := z_neg cd5 hf
          refine lv_iload_n hx hb dX2_firstSounding_23 rfl (lv_at hl 3 rfl) ?_
          have e1 := z_s1 hf
          subst e1
          exact z_iret S0 hr hlk hC dX2_firstSounding_24
  refine L2 zF p1 p2 0 Szr Szf Svr Svf Snm Spd Snt _ (fun t6 hf H locs ls hC hl => ?_) hf H locs ls hC (lv_sub hl [1, 2, 3, 0] rfl)
  refine lv_bipush (v := (-4)) hx hb dX2_firstSounding_31 (by decide) ?_
  have e1 := z_s1 hf
  subst e1
  exact z_iret S0 hr hlk hC dX2_firstSounding_33

-- X2 canSound
def f_X2_canSound_33 (y1 : Int32) (y2 : Int32) (Szr : Int32) (Szf : (Nat → Int32)) (Snm : (Nat → Int32)) (kk : Int32 → Option (Int32)) : Nat → Int32 → Option (Int32)
  | 0, _ => none
  | fu + 1, y3 =>
    (f_X4_get 70 Szr Szf y1 3).bind fun r7 => if r7 < y3 then
      kk (y3)
    else
      (f_X2_sounds Szr Szf Snm y1 y2 y3).bind fun r9 => if r9 = 0 then
        f_X2_canSound_33 y1 y2 Szr Szf Snm kk fu (y3 + 1)
      else
        some (1)

theorem f_X2_canSound_33_s (y1 : Int32) (y2 : Int32) (Szr : Int32) (Szf : (Nat → Int32)) (Snm : (Nat → Int32)) (y3 : Int32) (kk : Int32 → Option (Int32)) (fu : Nat) : f_X2_canSound_33 y1 y2 Szr Szf Snm kk (fu + 1) y3 = (
    (f_X4_get 70 Szr Szf y1 3).bind fun r7 => if r7 < y3 then
      kk (y3)
    else
      (f_X2_sounds Szr Szf Snm y1 y2 y3).bind fun r9 => if r9 = 0 then
        f_X2_canSound_33 y1 y2 Szr Szf Snm kk fu (y3 + 1)
      else
        some (1)
    ) := rfl

def f_X2_canSound_10 (y1 : Int32) (Szr : Int32) (Szf : (Nat → Int32)) (Snm : (Nat → Int32)) (kk : Int32 → Option (Int32)) : Nat → Int32 → Option (Int32)
  | 0, _ => none
  | fu + 1, y2 =>
    (f_X4_get 70 Szr Szf y1 1).bind fun r3 => if r3 < y2 then
      kk (y2)
    else
      (f_X4_get 70 Szr Szf y1 2).bind fun r5 => f_X2_canSound_33 y1 y2 Szr Szf Snm (fun t11 =>
        f_X2_canSound_10 y1 Szr Szf Snm kk fu (y2 + 1)
        ) zF r5

theorem f_X2_canSound_10_s (y1 : Int32) (Szr : Int32) (Szf : (Nat → Int32)) (Snm : (Nat → Int32)) (y2 : Int32) (kk : Int32 → Option (Int32)) (fu : Nat) : f_X2_canSound_10 y1 Szr Szf Snm kk (fu + 1) y2 = (
    (f_X4_get 70 Szr Szf y1 1).bind fun r3 => if r3 < y2 then
      kk (y2)
    else
      (f_X4_get 70 Szr Szf y1 2).bind fun r5 => f_X2_canSound_33 y1 y2 Szr Szf Snm (fun t11 =>
        f_X2_canSound_10 y1 Szr Szf Snm kk fu (y2 + 1)
        ) zF r5
    ) := rfl

def f_X2_canSound (Szr : Int32) (Szf : (Nat → Int32)) (Snm : (Nat → Int32)) (p1 : Int32) : Option (Int32) :=
  (f_X4_get 70 Szr Szf p1 0).bind fun r1 => f_X2_canSound_10 p1 Szr Szf Snm (fun t12 =>
    some (0)
    ) zF r1

theorem kX2_canSound_14 : Cond.fieldLink RX2 14 "ZoneSampler$State" "zones" "LZoneSampler$Table;" ∈ wsX2_canSound := by decide +kernel
theorem jX2_canSound_X2 : ∀ w ∈ u_ws RX2 TX2 5, w ∈ wsX2_canSound := by decide +kernel
set_option maxHeartbeats 4000000 in
set_option maxRecDepth 100000 in
theorem c_X2_canSound (l : Launch) (G : va_G) (c3 : zT3) (oS : zR6) (BS : zSt) (p1 : Int32) {r : Int32} (hf : f_X2_canSound BS.1.1 BS.1.2 BS.2.2.1 p1 = some (r)) : zM l yX2_canSound wsX2_canSound ⟨3, 0, 0, 73⟩ G c3 (zwS c3.1 oS ((BS.1.1, BS.1.2), (BS.2.1.1, BS.2.1.2), BS.2.2.1, BS.2.2.2.1, BS.2.2.2.2)) [.ref oS.1, .int p1] (some (.int r)) (zwS c3.1 oS ((BS.1.1, BS.1.2), (BS.2.1.1, BS.2.1.2), BS.2.2.1, BS.2.2.2.1, BS.2.2.2.2)) := by
  obtain ⟨⟨Szr, Szf⟩, ⟨Svr, Svf⟩, Snm, Spd, Snt⟩ := BS
  have hf : f_X2_canSound Szr Szf Snm p1 = some (r) := hf
  show zM l yX2_canSound wsX2_canSound ⟨3, 0, 0, 73⟩ G c3 (zwS c3.1 oS ((Szr, Szf), (Svr, Svf), Snm, Spd, Snt)) [.ref oS.1, .int p1] (some (.int r)) (zwS c3.1 oS ((Szr, Szf), (Svr, Svf), Snm, Spd, Snt))
  refine zM.of (cc := cX2_canSound) (maxL := 4) (ret := (some .boolean)) (by decide) rfl (Nat.le_of_ble_eq_true rfl) ?_
  intro p e s m args below meth c A ls S0 hr hlk hC hl
  have S0 : CallFix p m c cX2_canSound 4 s args wsX2_canSound RX2 := S0
  have hl : lv_has ls 4 [(0, .ref oS.1), (1, .int p1)] := hl
  have hx := S0.1
  have hb := S0.2.1
  obtain ⟨H, hH⟩ : ∃ y, y = s.heap := ⟨_, rfl⟩
  rw [← hH] at hC ⊢
  obtain ⟨locs, hlo⟩ : ∃ y : List Loc, y = [] := ⟨_, rfl⟩
  rw [← hlo] at hC ⊢
  clear hH hlo
  unfold f_X2_canSound at hf
  refine lv_aload_n hx hb dX2_canSound_0 rfl (lv_at hl 0 rfl) ?_
  refine z_get S0 hC (ci := 2) (C := RX2) (T := TX2) (N := 5) (v := .ref oS.2.2.1.1) jX2_canSound_X2 0 rfl rfl 0 (by decide) kX2_canSound_14 rfl rfl dX2_canSound_1 ?_
  refine lv_iload_n hx hb dX2_canSound_4 rfl (lv_at hl 1 rfl) ?_
  refine lv_iconst (v := 0) hx hb dX2_canSound_5 (by decide) ?_
  obtain ⟨r1, hr1, hf⟩ := z_bind hf
  refine z_callPi (z_runV (n := 2) (rest := []) (As := [.int p1, .int 0]) S0 hC (c_X4_get l G c3 oS.2.2.1 70 (Szr, Szf) p1 0 hr1) [2, 3] (by decide) rfl gX2_canSound_X4_get rfl rfl rfl (by decide +kernel) ⟨Nat.le_of_ble_eq_true rfl, Nat.le_of_ble_eq_true rfl⟩ (ci := 4) (q0 := 2) rfl rfl rfl hl.1 rfl (Nat.le_of_ble_eq_true rfl) dX2_canSound_6) hC [2, 3] rfl (fun H locs hC => ?_)
  refine lv_istore_n (lv' := [(2, .int r1), (0, .ref oS.1), (1, .int p1)]) hx hb dX2_canSound_9 rfl hl (by decide) rfl (fun ls hl => ?_)
  have L10 : ∀ (fu : Nat) (y1 : Int32) (y2 : Int32) (Szr : Int32) (Szf : (Nat → Int32)) (Svr : Int32) (Svf : (Nat → Int32)) (Snm : (Nat → Int32)) (Spd : Int32) (Snt : Int32) (kk : Int32 → Option (Int32)), (∀ tt, kk tt = some (r) → ∀ (H : Heap) (locs : List Loc) (ls : Array Slot), zC G c3 A s (zwS c3.1 oS ((Szr, Szf), (Svr, Svf), Snm, Spd, Snt)) H locs → lv_has ls 4 [(0, .ref oS.1), (1, .int y1), (2, .int tt)] → W p l e ⟨3, 0, 0, 73⟩ s m args below meth c H locs 0 0 (MQ below (zPost G (zwS c3.1 oS ((Szr, Szf), (Svr, Svf), Snm, Spd, Snt)) (some (.int r)) A) args s 0 0 A) (F0 m 70 ls [])) → f_X2_canSound_10 y1 Szr Szf Snm kk fu y2 = some (r) → ∀ (H : Heap) (locs : List Loc) (ls : Array Slot), zC G c3 A s (zwS c3.1 oS ((Szr, Szf), (Svr, Svf), Snm, Spd, Snt)) H locs → lv_has ls 4 [(0, .ref oS.1), (1, .int y1), (2, .int y2)] → W p l e ⟨3, 0, 0, 73⟩ s m args below meth c H locs 0 0 (MQ below (zPost G (zwS c3.1 oS ((Szr, Szf), (Svr, Svf), Snm, Spd, Snt)) (some (.int r)) A) args s 0 0 A) (F0 m 10 ls []) := by
    intro fu
    induction fu with
    | zero =>
      intro y1 y2 Szr Szf Svr Svf Snm Spd Snt kk hk hf H locs ls hC hl
      exact (z_none hf).elim
    | succ fu ih10 =>
      intro y1 y2 Szr Szf Svr Svf Snm Spd Snt kk hk hf H locs ls hC hl
      replace hf := (f_X2_canSound_10_s y1 Szr Szf Snm y2 kk fu).symm.trans hf
      refine lv_iload_n hx hb dX2_canSound_10 rfl (lv_at hl 2 rfl) ?_
      refine lv_aload_n hx hb dX2_canSound_11 rfl (lv_at hl 0 rfl) ?_
      refine z_get S0 hC (ci := 2) (C := RX2) (T := TX2) (N := 5) (v := .ref oS.2.2.1.1) jX2_canSound_X2 0 rfl rfl 0 (by decide) kX2_canSound_14 rfl rfl dX2_canSound_12 ?_
      refine lv_iload_n hx hb dX2_canSound_15 rfl (lv_at hl 1 rfl) ?_
      refine lv_iconst (v := 1) hx hb dX2_canSound_16 (by decide) ?_
      obtain ⟨r3, hr3, hf⟩ := z_bind hf
      refine z_callPi (z_runV (n := 2) (rest := [.int y2]) (As := [.int y1, .int 1]) S0 hC (c_X4_get l G c3 oS.2.2.1 70 (Szr, Szf) y1 1 hr3) [2, 3] (by decide) rfl gX2_canSound_X4_get rfl rfl rfl (by decide +kernel) ⟨Nat.le_of_ble_eq_true rfl, Nat.le_of_ble_eq_true rfl⟩ (ci := 4) (q0 := 2) rfl rfl rfl hl.1 rfl (Nat.le_of_ble_eq_true rfl) dX2_canSound_17) hC [2, 3] rfl (fun H locs hC => ?_)
      refine lv_icmp_gt (tgt := 70) hx hb dX2_canSound_20 (by decide) (fun cd4 => ?_) (fun cd4 => ?_)
      · replace hf := z_pos cd4 hf
        exact hk (y2) hf H locs ls hC (lv_sub hl [0, 1, 2] rfl)
      · replace hf := z_neg cd4 hf
        refine lv_aload_n hx hb dX2_canSound_23 rfl (lv_at hl 0 rfl) ?_
        refine z_get S0 hC (ci := 2) (C := RX2) (T := TX2) (N := 5) (v := .ref oS.2.2.1.1) jX2_canSound_X2 0 rfl rfl 0 (by decide) kX2_canSound_14 rfl rfl dX2_canSound_24 ?_
        refine lv_iload_n hx hb dX2_canSound_27 rfl (lv_at hl 1 rfl) ?_
        refine lv_iconst (v := 2) hx hb dX2_canSound_28 (by decide) ?_
        obtain ⟨r5, hr5, hf⟩ := z_bind hf
        refine z_callPi (z_runV (n := 2) (rest := []) (As := [.int y1, .int 2]) S0 hC (c_X4_get l G c3 oS.2.2.1 70 (Szr, Szf) y1 2 hr5) [2, 3] (by decide) rfl gX2_canSound_X4_get rfl rfl rfl (by decide +kernel) ⟨Nat.le_of_ble_eq_true rfl, Nat.le_of_ble_eq_true rfl⟩ (ci := 4) (q0 := 2) rfl rfl rfl hl.1 rfl (Nat.le_of_ble_eq_true rfl) dX2_canSound_29) hC [2, 3] rfl (fun H locs hC => ?_)
        refine lv_istore_n (lv' := [(3, .int r5), (0, .ref oS.1), (1, .int y1), (2, .int y2)]) hx hb dX2_canSound_32 rfl hl (by decide) rfl (fun ls hl => ?_)
        have L33 : ∀ (fu : Nat) (y1 : Int32) (y2 : Int32) (y3 : Int32) (Szr : Int32) (Szf : (Nat → Int32)) (Svr : Int32) (Svf : (Nat → Int32)) (Snm : (Nat → Int32)) (Spd : Int32) (Snt : Int32) (kk : Int32 → Option (Int32)), (∀ tt, kk tt = some (r) → ∀ (H : Heap) (locs : List Loc) (ls : Array Slot), zC G c3 A s (zwS c3.1 oS ((Szr, Szf), (Svr, Svf), Snm, Spd, Snt)) H locs → lv_has ls 4 [(0, .ref oS.1), (1, .int y1), (2, .int y2), (3, .int tt)] → W p l e ⟨3, 0, 0, 73⟩ s m args below meth c H locs 0 0 (MQ below (zPost G (zwS c3.1 oS ((Szr, Szf), (Svr, Svf), Snm, Spd, Snt)) (some (.int r)) A) args s 0 0 A) (F0 m 64 ls [])) → f_X2_canSound_33 y1 y2 Szr Szf Snm kk fu y3 = some (r) → ∀ (H : Heap) (locs : List Loc) (ls : Array Slot), zC G c3 A s (zwS c3.1 oS ((Szr, Szf), (Svr, Svf), Snm, Spd, Snt)) H locs → lv_has ls 4 [(0, .ref oS.1), (1, .int y1), (2, .int y2), (3, .int y3)] → W p l e ⟨3, 0, 0, 73⟩ s m args below meth c H locs 0 0 (MQ below (zPost G (zwS c3.1 oS ((Szr, Szf), (Svr, Svf), Snm, Spd, Snt)) (some (.int r)) A) args s 0 0 A) (F0 m 33 ls []) := by
          intro fu
          induction fu with
          | zero =>
            intro y1 y2 y3 Szr Szf Svr Svf Snm Spd Snt kk hk hf H locs ls hC hl
            exact (z_none hf).elim
          | succ fu ih33 =>
            intro y1 y2 y3 Szr Szf Svr Svf Snm Spd Snt kk hk hf H locs ls hC hl
            replace hf := (f_X2_canSound_33_s y1 y2 Szr Szf Snm y3 kk fu).symm.trans hf
            refine lv_iload_n hx hb dX2_canSound_33 rfl (lv_at hl 3 rfl) ?_
            refine lv_aload_n hx hb dX2_canSound_34 rfl (lv_at hl 0 rfl) ?_
            refine z_get S0 hC (ci := 2) (C := RX2) (T := TX2) (N := 5) (v := .ref oS.2.2.1.1) jX2_canSound_X2 0 rfl rfl 0 (by decide) kX2_canSound_14 rfl rfl dX2_canSound_35 ?_
            refine lv_iload_n hx hb dX2_canSound_38 rfl (lv_at hl 1 rfl) ?_
            refine lv_iconst (v := 3) hx hb dX2_canSound_39 (by decide) ?_
            obtain ⟨r7, hr7, hf⟩ := z_bind hf
            refine z_callPi (z_runV (n := 2) (rest := [.int y3]) (As := [.int y1, .int 3]) S0 hC (c_X4_get l G c3 oS.2.2.1 70 (Szr, Szf) y1 3 hr7) [2, 3] (by decide) rfl gX2_canSound_X4_get rfl rfl rfl (by decide +kernel) ⟨Nat.le_of_ble_eq_true rfl, Nat.le_of_ble_eq_true rfl⟩ (ci := 4) (q0 := 2) rfl rfl rfl hl.1 rfl (Nat.le_of_ble_eq_true rfl) dX2_canSound_40) hC [2, 3] rfl (fun H locs hC => ?_)
            refine lv_icmp_gt (tgt := 64) hx hb dX2_canSound_43 (by decide) (fun cd8 => ?_) (fun cd8 => ?_)
            · replace hf := z_pos cd8 hf
              exact hk (y3) hf H locs ls hC (lv_sub hl [0, 1, 2, 3] rfl)
            · replace hf := z_neg cd8 hf
              refine lv_aload_n hx hb dX2_canSound_46 rfl (lv_at hl 0 rfl) ?_
              refine lv_iload_n hx hb dX2_canSound_47 rfl (lv_at hl 1 rfl) ?_
              refine lv_iload_n hx hb dX2_canSound_48 rfl (lv_at hl 2 rfl) ?_
              refine lv_iload_n hx hb dX2_canSound_49 rfl (lv_at hl 3 rfl) ?_
              obtain ⟨r9, hr9, hf⟩ := z_bind hf
              refine z_callPi (z_runV (n := 3) (rest := []) (As := [.int y1, .int y2, .int y3]) S0 hC (c_X2_sounds l G c3 oS ((Szr, Szf), (Svr, Svf), Snm, Spd, Snt) y1 y2 y3 hr9) [0, 1, 2, 3, 4, 5] (by decide) rfl gX2_canSound_X2_sounds rfl rfl rfl (by decide +kernel) ⟨Nat.le_of_ble_eq_true rfl, Nat.le_of_ble_eq_true rfl⟩ (ci := 2) (q0 := 0) rfl rfl rfl hl.1 rfl (Nat.le_of_ble_eq_true rfl) dX2_canSound_50) hC [0, 1, 2, 3, 4, 5] rfl (fun H locs hC => ?_)
              refine lv_if_eq (tgt := 58) hx hb dX2_canSound_53 (by decide) (fun cd10 => ?_) (fun cd10 => ?_)
              · replace hf := z_pos cd10 hf
                refine lv_iinc (v := (y3 + 1)) (lv' := [(3, .int (y3 + 1)), (0, .ref oS.1), (1, .int y1), (2, .int y2)]) hx hb dX2_canSound_58 hl (k := 3) rfl rfl (by decide) rfl (fun ls hl => ?_)
                refine lv_goto (tgt := 33) hx hb dX2_canSound_61 (by decide) ?_
                exact ih33 y1 y2 (y3 + 1) Szr Szf Svr Svf Snm Spd Snt kk hk hf H locs ls hC (lv_sub hl [1, 2, 3, 0] rfl)
              · replace hf := z_neg cd10 hf
                refine lv_iconst (v := 1) hx hb dX2_canSound_56 (by decide) ?_
                have e1 := z_s1 hf
                subst e1
                exact z_zret S0 hr hlk rfl hC dX2_canSound_57
        refine L33 zF y1 y2 r5 Szr Szf Svr Svf Snm Spd Snt _ (fun t11 hf H locs ls hC hl => ?_) hf H locs ls hC (lv_sub hl [1, 2, 3, 0] rfl)
        refine lv_iinc (v := (y2 + 1)) (lv' := [(2, .int (y2 + 1)), (0, .ref oS.1), (1, .int y1), (3, .int t11)]) hx hb dX2_canSound_64 hl (k := 2) rfl rfl (by decide) rfl (fun ls hl => ?_)
        refine lv_goto (tgt := 10) hx hb dX2_canSound_67 (by decide) ?_
        exact ih10 y1 (y2 + 1) Szr Szf Svr Svf Snm Spd Snt kk hk hf H locs ls hC (lv_sub hl [1, 2, 0] rfl)
  refine L10 zF p1 r1 Szr Szf Svr Svf Snm Spd Snt _ (fun t12 hf H locs ls hC hl => ?_) hf H locs ls hC (lv_sub hl [1, 2, 0] rfl)
  refine lv_iconst (v := 0) hx hb dX2_canSound_70 (by decide) ?_
  have e1 := z_s1 hf
  subst e1
  exact z_zret S0 hr hlk rfl hC dX2_canSound_71

-- X2 passTurns
def f_X2_passTurns_13 (y1 : Int32) (y2 : Int32) (y3 : Int32) (Szr : Int32) (Szf : (Nat → Int32)) : Nat → Int32 → Int32 → Option (Int32 × Int32)
  | 0, _, _ => none
  | fu + 1, y4, y5 =>
    (f_X4_rows 70 Szr).bind fun r4 => if r4 ≤ y5 then
      some (y4, y5)
    else
      (f_X4_get 70 Szr Szf y5 5).bind fun r6 => Option.bind (α := Int32) (
        if r6 = y3 then
          (f_X2_matches Szr Szf y5 y1 y2).bind fun r9 => if r9 = 0 then
            some (0)
          else
            some (1)
        else
          some (0)
      ) fun t8 =>
        f_X2_passTurns_13 y1 y2 y3 Szr Szf fu (y4 ||| t8) (y5 + 1)

theorem f_X2_passTurns_13_s (y1 : Int32) (y2 : Int32) (y3 : Int32) (Szr : Int32) (Szf : (Nat → Int32)) (y4 : Int32) (y5 : Int32) (fu : Nat) : f_X2_passTurns_13 y1 y2 y3 Szr Szf (fu + 1) y4 y5 = (
    (f_X4_rows 70 Szr).bind fun r4 => if r4 ≤ y5 then
      some (y4, y5)
    else
      (f_X4_get 70 Szr Szf y5 5).bind fun r6 => Option.bind (α := Int32) (
        if r6 = y3 then
          (f_X2_matches Szr Szf y5 y1 y2).bind fun r9 => if r9 = 0 then
            some (0)
          else
            some (1)
        else
          some (0)
      ) fun t8 =>
        f_X2_passTurns_13 y1 y2 y3 Szr Szf fu (y4 ||| t8) (y5 + 1)
    ) := rfl

def f_X2_passTurns_2 (y1 : Int32) (y2 : Int32) (Szr : Int32) (Szf : (Nat → Int32)) : Nat → Int32 → (Nat → Int32) → Option (Int32 × (Nat → Int32))
  | 0, _, _ => none
  | fu + 1, y3, Snm =>
    if 4 < y3 then
      some (y3, Snm)
    else
      (f_X2_passTurns_13 y1 y2 y3 Szr Szf zF 0 0).bind fun t11 =>
        Option.bind (α := Int32) (
          if t11.1 = 0 then
            some (0)
          else
            some (1)
        ) fun t13 =>
          (f_X2_grow Snm ((9 + y3) - 1) t13).bind fun r14 => f_X2_passTurns_2 y1 y2 Szr Szf fu (y3 + 1) r14

theorem f_X2_passTurns_2_s (y1 : Int32) (y2 : Int32) (Szr : Int32) (Szf : (Nat → Int32)) (y3 : Int32) (Snm : (Nat → Int32)) (fu : Nat) : f_X2_passTurns_2 y1 y2 Szr Szf (fu + 1) y3 Snm = (
    if 4 < y3 then
      some (y3, Snm)
    else
      (f_X2_passTurns_13 y1 y2 y3 Szr Szf zF 0 0).bind fun t11 =>
        Option.bind (α := Int32) (
          if t11.1 = 0 then
            some (0)
          else
            some (1)
        ) fun t13 =>
          (f_X2_grow Snm ((9 + y3) - 1) t13).bind fun r14 => f_X2_passTurns_2 y1 y2 Szr Szf fu (y3 + 1) r14
    ) := rfl

def f_X2_passTurns (Szr : Int32) (Szf : (Nat → Int32)) (Snm : (Nat → Int32)) (p1 : Int32) (p2 : Int32) : Option ((Nat → Int32)) :=
  (f_X2_passTurns_2 p1 p2 Szr Szf zF 1 Snm).bind fun t15 =>
    some (t15.2)

theorem kX2_passTurns_14 : Cond.fieldLink RX2 14 "ZoneSampler$State" "zones" "LZoneSampler$Table;" ∈ wsX2_passTurns := by decide +kernel
theorem jX2_passTurns_X2 : ∀ w ∈ u_ws RX2 TX2 5, w ∈ wsX2_passTurns := by decide +kernel
set_option maxHeartbeats 4000000 in
set_option maxRecDepth 100000 in
theorem c_X2_passTurns (l : Launch) (G : va_G) (c3 : zT3) (oS : zR6) (BS : zSt) (p1 : Int32) (p2 : Int32) {Snm' : (Nat → Int32)} (hf : f_X2_passTurns BS.1.1 BS.1.2 BS.2.2.1 p1 p2 = some (Snm')) : zM l yX2_passTurns wsX2_passTurns ⟨2, 0, 0, 46⟩ G c3 (zwS c3.1 oS ((BS.1.1, BS.1.2), (BS.2.1.1, BS.2.1.2), BS.2.2.1, BS.2.2.2.1, BS.2.2.2.2)) [.ref oS.1, .int p1, .int p2] none (zwS c3.1 oS ((BS.1.1, BS.1.2), (BS.2.1.1, BS.2.1.2), Snm', BS.2.2.2.1, BS.2.2.2.2)) := by
  obtain ⟨⟨Szr, Szf⟩, ⟨Svr, Svf⟩, Snm, Spd, Snt⟩ := BS
  have hf : f_X2_passTurns Szr Szf Snm p1 p2 = some (Snm') := hf
  show zM l yX2_passTurns wsX2_passTurns ⟨2, 0, 0, 46⟩ G c3 (zwS c3.1 oS ((Szr, Szf), (Svr, Svf), Snm, Spd, Snt)) [.ref oS.1, .int p1, .int p2] none (zwS c3.1 oS ((Szr, Szf), (Svr, Svf), Snm', Spd, Snt))
  refine zM.of (cc := cX2_passTurns) (maxL := 6) (ret := none) (by decide) rfl (Nat.le_of_ble_eq_true rfl) ?_
  intro p e s m args below meth c A ls S0 hr hlk hC hl
  have S0 : CallFix p m c cX2_passTurns 6 s args wsX2_passTurns RX2 := S0
  have hl : lv_has ls 6 [(0, .ref oS.1), (1, .int p1), (2, .int p2)] := hl
  have hx := S0.1
  have hb := S0.2.1
  obtain ⟨H, hH⟩ : ∃ y, y = s.heap := ⟨_, rfl⟩
  rw [← hH] at hC ⊢
  obtain ⟨locs, hlo⟩ : ∃ y : List Loc, y = [] := ⟨_, rfl⟩
  rw [← hlo] at hC ⊢
  clear hH hlo
  unfold f_X2_passTurns at hf
  refine lv_iconst (v := 1) hx hb dX2_passTurns_0 (by decide) ?_
  refine lv_istore_n (lv' := [(3, .int 1), (0, .ref oS.1), (1, .int p1), (2, .int p2)]) hx hb dX2_passTurns_1 rfl hl (by decide) rfl (fun ls hl => ?_)
  have L2 : ∀ (fu : Nat) (y1 : Int32) (y2 : Int32) (y3 : Int32) (Szr : Int32) (Szf : (Nat → Int32)) (Svr : Int32) (Svf : (Nat → Int32)) (Snm : (Nat → Int32)) (Spd : Int32) (Snt : Int32) (tt : Int32 × (Nat → Int32)), f_X2_passTurns_2 y1 y2 Szr Szf fu y3 Snm = some tt → ∀ (H : Heap) (locs : List Loc) (ls : Array Slot), zC G c3 A s (zwS c3.1 oS ((Szr, Szf), (Svr, Svf), Snm, Spd, Snt)) H locs → lv_has ls 6 [(0, .ref oS.1), (1, .int y1), (2, .int y2), (3, .int y3)] → (∀ (H : Heap) (locs : List Loc) (ls : Array Slot), zC G c3 A s (zwS c3.1 oS ((Szr, Szf), (Svr, Svf), tt.2, Spd, Snt)) H locs → lv_has ls 6 [(0, .ref oS.1), (1, .int y1), (2, .int y2), (3, .int tt.1)] → W p l e ⟨2, 0, 0, 46⟩ s m args below meth c H locs 0 0 (MQ below (zPost G (zwS c3.1 oS ((Szr, Szf), (Svr, Svf), Snm', Spd, Snt)) none A) args s 0 0 A) (F0 m 92 ls [])) → W p l e ⟨2, 0, 0, 46⟩ s m args below meth c H locs 0 0 (MQ below (zPost G (zwS c3.1 oS ((Szr, Szf), (Svr, Svf), Snm', Spd, Snt)) none A) args s 0 0 A) (F0 m 2 ls []) := by
    intro fu
    induction fu with
    | zero =>
      intro y1 y2 y3 Szr Szf Svr Svf Snm Spd Snt tt hf H locs ls hC hl hK
      exact (z_none hf).elim
    | succ fu ih2 =>
      intro y1 y2 y3 Szr Szf Svr Svf Snm Spd Snt tt hf H locs ls hC hl hK
      replace hf := (f_X2_passTurns_2_s y1 y2 Szr Szf y3 Snm fu).symm.trans hf
      refine lv_iload_n hx hb dX2_passTurns_2 rfl (lv_at hl 3 rfl) ?_
      refine lv_iconst (v := 4) hx hb dX2_passTurns_3 (by decide) ?_
      refine lv_icmp_gt (tgt := 92) hx hb dX2_passTurns_4 (by decide) (fun cd2 => ?_) (fun cd2 => ?_)
      · replace hf := z_pos cd2 hf
        have e1 := z_s1 hf
        subst e1
        exact hK H locs ls hC (lv_sub hl [0, 1, 2, 3] rfl)
      · replace hf := z_neg cd2 hf
        refine lv_iconst (v := 0) hx hb dX2_passTurns_7 (by decide) ?_
        refine lv_istore (lv' := [(4, .int 0), (0, .ref oS.1), (1, .int y1), (2, .int y2), (3, .int y3)]) hx hb dX2_passTurns_8 hl (by decide) rfl (fun ls hl => ?_)
        refine lv_iconst (v := 0) hx hb dX2_passTurns_10 (by decide) ?_
        refine lv_istore (lv' := [(5, .int 0), (4, .int 0), (0, .ref oS.1), (1, .int y1), (2, .int y2), (3, .int y3)]) hx hb dX2_passTurns_11 hl (by decide) rfl (fun ls hl => ?_)
        have L13 : ∀ (fu : Nat) (y1 : Int32) (y2 : Int32) (y3 : Int32) (y4 : Int32) (y5 : Int32) (Szr : Int32) (Szf : (Nat → Int32)) (Svr : Int32) (Svf : (Nat → Int32)) (Snm : (Nat → Int32)) (Spd : Int32) (Snt : Int32) (tt : Int32 × Int32), f_X2_passTurns_13 y1 y2 y3 Szr Szf fu y4 y5 = some tt → ∀ (H : Heap) (locs : List Loc) (ls : Array Slot), zC G c3 A s (zwS c3.1 oS ((Szr, Szf), (Svr, Svf), Snm, Spd, Snt)) H locs → lv_has ls 6 [(0, .ref oS.1), (1, .int y1), (2, .int y2), (3, .int y3), (4, .int y4), (5, .int y5)] → (∀ (H : Heap) (locs : List Loc) (ls : Array Slot), zC G c3 A s (zwS c3.1 oS ((Szr, Szf), (Svr, Svf), Snm, Spd, Snt)) H locs → lv_has ls 6 [(0, .ref oS.1), (1, .int y1), (2, .int y2), (3, .int y3), (4, .int tt.1), (5, .int tt.2)] → W p l e ⟨2, 0, 0, 46⟩ s m args below meth c H locs 0 0 (MQ below (zPost G (zwS c3.1 oS ((Szr, Szf), (Svr, Svf), Snm', Spd, Snt)) none A) args s 0 0 A) (F0 m 66 ls [])) → W p l e ⟨2, 0, 0, 46⟩ s m args below meth c H locs 0 0 (MQ below (zPost G (zwS c3.1 oS ((Szr, Szf), (Svr, Svf), Snm', Spd, Snt)) none A) args s 0 0 A) (F0 m 13 ls []) := by
          intro fu
          induction fu with
          | zero =>
            intro y1 y2 y3 y4 y5 Szr Szf Svr Svf Snm Spd Snt tt hf H locs ls hC hl hK
            exact (z_none hf).elim
          | succ fu ih13 =>
            intro y1 y2 y3 y4 y5 Szr Szf Svr Svf Snm Spd Snt tt hf H locs ls hC hl hK
            replace hf := (f_X2_passTurns_13_s y1 y2 y3 Szr Szf y4 y5 fu).symm.trans hf
            refine lv_iload hx hb dX2_passTurns_13 (lv_at hl 5 rfl) ?_
            refine lv_aload_n hx hb dX2_passTurns_15 rfl (lv_at hl 0 rfl) ?_
            refine z_get S0 hC (ci := 2) (C := RX2) (T := TX2) (N := 5) (v := .ref oS.2.2.1.1) jX2_passTurns_X2 0 rfl rfl 0 (by decide) kX2_passTurns_14 rfl rfl dX2_passTurns_16 ?_
            obtain ⟨r4, hr4, hf⟩ := z_bind hf
            refine z_callPi (z_runV (n := 0) (rest := [.int y5]) (As := []) S0 hC (c_X4_rows l G c3 oS.2.2.1 70 (Szr, Szf) hr4) [2, 3] (by decide) rfl gX2_passTurns_X4_rows rfl rfl rfl (by decide +kernel) ⟨Nat.le_of_ble_eq_true rfl, Nat.le_of_ble_eq_true rfl⟩ (ci := 4) (q0 := 2) rfl rfl rfl hl.1 rfl (Nat.le_of_ble_eq_true rfl) dX2_passTurns_19) hC [2, 3] rfl (fun H locs hC => ?_)
            refine lv_icmp_ge (tgt := 66) hx hb dX2_passTurns_22 (by decide) (fun cd5 => ?_) (fun cd5 => ?_)
            · replace hf := z_pos cd5 hf
              have e1 := z_s1 hf
              subst e1
              exact hK H locs ls hC (lv_sub hl [0, 1, 2, 3, 4, 5] rfl)
            · replace hf := z_neg cd5 hf
              refine lv_iload hx hb dX2_passTurns_25 (lv_at hl 4 rfl) ?_
              refine lv_aload_n hx hb dX2_passTurns_27 rfl (lv_at hl 0 rfl) ?_
              refine z_get S0 hC (ci := 2) (C := RX2) (T := TX2) (N := 5) (v := .ref oS.2.2.1.1) jX2_passTurns_X2 0 rfl rfl 0 (by decide) kX2_passTurns_14 rfl rfl dX2_passTurns_28 ?_
              refine lv_iload hx hb dX2_passTurns_31 (lv_at hl 5 rfl) ?_
              refine lv_iconst (v := 5) hx hb dX2_passTurns_33 (by decide) ?_
              obtain ⟨r6, hr6, hf⟩ := z_bind hf
              refine z_callPi (z_runV (n := 2) (rest := [.int y4]) (As := [.int y5, .int 5]) S0 hC (c_X4_get l G c3 oS.2.2.1 70 (Szr, Szf) y5 5 hr6) [2, 3] (by decide) rfl gX2_passTurns_X4_get rfl rfl rfl (by decide +kernel) ⟨Nat.le_of_ble_eq_true rfl, Nat.le_of_ble_eq_true rfl⟩ (ci := 4) (q0 := 2) rfl rfl rfl hl.1 rfl (Nat.le_of_ble_eq_true rfl) dX2_passTurns_34) hC [2, 3] rfl (fun H locs hC => ?_)
              refine lv_iload_n hx hb dX2_passTurns_37 rfl (lv_at hl 3 rfl) ?_
              obtain ⟨t8, ht8, hf⟩ := z_bind hf
              have Jt8 : ∀ (H : Heap) (locs : List Loc) (ls : Array Slot), zC G c3 A s (zwS c3.1 oS ((Szr, Szf), (Svr, Svf), Snm, Spd, Snt)) H locs → lv_has ls 6 [(0, .ref oS.1), (1, .int y1), (2, .int y2), (3, .int y3), (4, .int y4), (5, .int y5)] → W p l e ⟨2, 0, 0, 46⟩ s m args below meth c H locs 0 0 (MQ below (zPost G (zwS c3.1 oS ((Szr, Szf), (Svr, Svf), Snm', Spd, Snt)) none A) args s 0 0 A) (F0 m 57 ls [.int t8, .int y4]) := by
                intro H locs ls hC hl
                refine lv_ior hx hb dX2_passTurns_57 ?_
                refine lv_istore (lv' := [(4, .int (y4 ||| t8)), (0, .ref oS.1), (1, .int y1), (2, .int y2), (3, .int y3), (5, .int y5)]) hx hb dX2_passTurns_58 hl (by decide) rfl (fun ls hl => ?_)
                refine lv_iinc (v := (y5 + 1)) (lv' := [(5, .int (y5 + 1)), (4, .int (y4 ||| t8)), (0, .ref oS.1), (1, .int y1), (2, .int y2), (3, .int y3)]) hx hb dX2_passTurns_60 hl (k := 5) rfl rfl (by decide) rfl (fun ls hl => ?_)
                refine lv_goto (tgt := 13) hx hb dX2_passTurns_63 (by decide) ?_
                exact ih13 y1 y2 y3 (y4 ||| t8) (y5 + 1) Szr Szf Svr Svf Snm Spd Snt _ hf H locs ls hC (lv_sub hl [2, 3, 4, 5, 1, 0] rfl) hK
              refine lv_icmp_ne (tgt := 56) hx hb dX2_passTurns_38 (by decide) (fun cd7 => ?_) (fun cd7 => ?_)
              · replace ht8 := z_neg cd7 ht8
                refine lv_iconst (v := 0) hx hb dX2_passTurns_56 (by decide) ?_
                have e1 := z_s1 ht8
                subst e1
                exact Jt8 H locs ls hC (lv_sub hl [0, 1, 2, 3, 4, 5] rfl)
              · replace ht8 := z_pos cd7 ht8
                refine lv_aload_n hx hb dX2_passTurns_41 rfl (lv_at hl 0 rfl) ?_
                refine lv_iload hx hb dX2_passTurns_42 (lv_at hl 5 rfl) ?_
                refine lv_iload_n hx hb dX2_passTurns_44 rfl (lv_at hl 1 rfl) ?_
                refine lv_iload_n hx hb dX2_passTurns_45 rfl (lv_at hl 2 rfl) ?_
                obtain ⟨r9, hr9, ht8⟩ := z_bind ht8
                refine z_callPi (z_runV (n := 3) (rest := [.int y4]) (As := [.int y5, .int y1, .int y2]) S0 hC (c_X2_matches l G c3 oS ((Szr, Szf), (Svr, Svf), Snm, Spd, Snt) y5 y1 y2 hr9) [0, 1, 2, 3, 4, 5] (by decide) rfl gX2_passTurns_X2_matches rfl rfl rfl (by decide +kernel) ⟨Nat.le_of_ble_eq_true rfl, Nat.le_of_ble_eq_true rfl⟩ (ci := 2) (q0 := 0) rfl rfl rfl hl.1 rfl (Nat.le_of_ble_eq_true rfl) dX2_passTurns_46) hC [0, 1, 2, 3, 4, 5] rfl (fun H locs hC => ?_)
                refine lv_if_eq (tgt := 56) hx hb dX2_passTurns_49 (by decide) (fun cd10 => ?_) (fun cd10 => ?_)
                · replace ht8 := z_pos cd10 ht8
                  refine lv_iconst (v := 0) hx hb dX2_passTurns_56 (by decide) ?_
                  have e1 := z_s1 ht8
                  subst e1
                  exact Jt8 H locs ls hC (lv_sub hl [0, 1, 2, 3, 4, 5] rfl)
                · replace ht8 := z_neg cd10 ht8
                  refine lv_iconst (v := 1) hx hb dX2_passTurns_52 (by decide) ?_
                  refine lv_goto (tgt := 57) hx hb dX2_passTurns_53 (by decide) ?_
                  have e1 := z_s1 ht8
                  subst e1
                  exact Jt8 H locs ls hC (lv_sub hl [0, 1, 2, 3, 4, 5] rfl)
        obtain ⟨t11, ht11, hf⟩ := z_bind hf
        refine L13 zF y1 y2 y3 0 0 Szr Szf Svr Svf Snm Spd Snt t11 ht11 H locs ls hC (lv_sub hl [2, 3, 4, 5, 1, 0] rfl) (fun H locs ls hC hl => ?_)
        refine lv_aload_n hx hb dX2_passTurns_66 rfl (lv_at hl 0 rfl) ?_
        refine lv_bipush (v := 9) hx hb dX2_passTurns_67 (by decide) ?_
        refine lv_iload_n hx hb dX2_passTurns_69 rfl (lv_at hl 3 rfl) ?_
        refine lv_iadd hx hb dX2_passTurns_70 ?_
        refine lv_iconst (v := 1) hx hb dX2_passTurns_71 (by decide) ?_
        refine lv_isub hx hb dX2_passTurns_72 ?_
        refine lv_iload hx hb dX2_passTurns_73 (lv_at hl 4 rfl) ?_
        obtain ⟨t13, ht13, hf⟩ := z_bind hf
        have Jt13 : ∀ (H : Heap) (locs : List Loc) (ls : Array Slot), zC G c3 A s (zwS c3.1 oS ((Szr, Szf), (Svr, Svf), Snm, Spd, Snt)) H locs → lv_has ls 6 [(0, .ref oS.1), (1, .int y1), (2, .int y2), (3, .int y3), (4, .int t11.1), (5, .int t11.2)] → W p l e ⟨2, 0, 0, 46⟩ s m args below meth c H locs 0 0 (MQ below (zPost G (zwS c3.1 oS ((Szr, Szf), (Svr, Svf), Snm', Spd, Snt)) none A) args s 0 0 A) (F0 m 83 ls [.int t13, .int ((9 + y3) - 1), .ref oS.1]) := by
          intro H locs ls hC hl
          obtain ⟨r14, hr14, hf⟩ := z_bind hf
          refine z_callv (z_runV (n := 2) (rest := []) (As := [.int ((9 + y3) - 1), .int t13]) S0 hC (c_X2_grow l G c3 oS ((Szr, Szf), (Svr, Svf), Snm, Spd, Snt) ((9 + y3) - 1) t13 hr14) [0, 1, 2, 3, 4, 5] (by decide) rfl gX2_passTurns_X2_grow rfl rfl rfl (by decide +kernel) ⟨Nat.le_of_ble_eq_true rfl, Nat.le_of_ble_eq_true rfl⟩ (ci := 2) (q0 := 0) rfl rfl rfl hl.1 rfl (Nat.le_of_ble_eq_true rfl) dX2_passTurns_83) hC [0, 1, 2, 3, 4, 5] [] [0, 1, 2, 3, 4, 5] rfl (wr := ([] : va_W)) rfl (by decide) (by decide) (ws2 := (zwS c3.1 oS ((Szr, Szf), (Svr, Svf), r14, Spd, Snt))) rfl (by decide) (fun H locs hC => ?_)
          refine lv_iinc (v := (y3 + 1)) (lv' := [(3, .int (y3 + 1)), (0, .ref oS.1), (1, .int y1), (2, .int y2), (4, .int t11.1), (5, .int t11.2)]) hx hb dX2_passTurns_86 hl (k := 3) rfl rfl (by decide) rfl (fun ls hl => ?_)
          refine lv_goto (tgt := 2) hx hb dX2_passTurns_89 (by decide) ?_
          exact ih2 y1 y2 (y3 + 1) Szr Szf Svr Svf r14 Spd Snt _ hf H locs ls hC (lv_sub hl [1, 2, 3, 0] rfl) hK
        refine lv_if_eq (tgt := 82) hx hb dX2_passTurns_75 (by decide) (fun cd12 => ?_) (fun cd12 => ?_)
        · replace ht13 := z_pos cd12 ht13
          refine lv_iconst (v := 0) hx hb dX2_passTurns_82 (by decide) ?_
          have e1 := z_s1 ht13
          subst e1
          exact Jt13 H locs ls hC (lv_sub hl [0, 1, 2, 3, 4, 5] rfl)
        · replace ht13 := z_neg cd12 ht13
          refine lv_iconst (v := 1) hx hb dX2_passTurns_78 (by decide) ?_
          refine lv_goto (tgt := 83) hx hb dX2_passTurns_79 (by decide) ?_
          have e1 := z_s1 ht13
          subst e1
          exact Jt13 H locs ls hC (lv_sub hl [0, 1, 2, 3, 4, 5] rfl)
  obtain ⟨t15, ht15, hf⟩ := z_bind hf
  refine L2 zF p1 p2 1 Szr Szf Svr Svf Snm Spd Snt t15 ht15 H locs ls hC (lv_sub hl [1, 2, 3, 0] rfl) (fun H locs ls hC hl => ?_)
  have e1 := z_s1 hf
  subst e1
  exact z_vret S0 hr hlk hC dX2_passTurns_92

-- X2 choke
def f_X2_choke_15 (y1 : Int32) (Szr : Int32) (Szf : (Nat → Int32)) (Snt : Int32) : Nat → Int32 → Int32 → (Nat → Int32) → (Nat → Int32) → Option (Int32 × Int32 × (Nat → Int32) × (Nat → Int32))
  | 0, _, _, _, _ => none
  | fu + 1, y2, Svr, Svf, Snm =>
    if y2 < 0 then
      some (y2, Svr, Svf, Snm)
    else
      (f_X4_get 56 Svr Svf y2 6).bind fun r5 => Option.bind (α := Int32) (
        if r5 = Snt then
          some (0)
        else
          some (1)
      ) fun t7 =>
        Option.bind (α := Int32 × (Nat → Int32) × (Nat → Int32)) (
          if t7 = 0 then
            some (Svr, Svf, Snm)
          else
            (f_X4_get 56 Svr Svf y2 0).bind fun r10 => (f_X4_get 70 Szr Szf r10 4).bind fun r11 => if r11 = y1 then
              (f_X4_removeRow 56 Svr Svf y2).bind fun r13 => (f_X2_grow Snm 3 1).bind fun r14 => some (r13.1, r13.2, r14)
            else
              some (Svr, Svf, Snm)
        ) fun t9 =>
          f_X2_choke_15 y1 Szr Szf Snt fu (y2 + (-1)) t9.1 t9.2.1 t9.2.2

theorem f_X2_choke_15_s (y1 : Int32) (Szr : Int32) (Szf : (Nat → Int32)) (Snt : Int32) (y2 : Int32) (Svr : Int32) (Svf : (Nat → Int32)) (Snm : (Nat → Int32)) (fu : Nat) : f_X2_choke_15 y1 Szr Szf Snt (fu + 1) y2 Svr Svf Snm = (
    if y2 < 0 then
      some (y2, Svr, Svf, Snm)
    else
      (f_X4_get 56 Svr Svf y2 6).bind fun r5 => Option.bind (α := Int32) (
        if r5 = Snt then
          some (0)
        else
          some (1)
      ) fun t7 =>
        Option.bind (α := Int32 × (Nat → Int32) × (Nat → Int32)) (
          if t7 = 0 then
            some (Svr, Svf, Snm)
          else
            (f_X4_get 56 Svr Svf y2 0).bind fun r10 => (f_X4_get 70 Szr Szf r10 4).bind fun r11 => if r11 = y1 then
              (f_X4_removeRow 56 Svr Svf y2).bind fun r13 => (f_X2_grow Snm 3 1).bind fun r14 => some (r13.1, r13.2, r14)
            else
              some (Svr, Svf, Snm)
        ) fun t9 =>
          f_X2_choke_15 y1 Szr Szf Snt fu (y2 + (-1)) t9.1 t9.2.1 t9.2.2
    ) := rfl

def f_X2_choke (Szr : Int32) (Szf : (Nat → Int32)) (Svr : Int32) (Svf : (Nat → Int32)) (Snm : (Nat → Int32)) (Snt : Int32) (p1 : Int32) : Option (Int32 × (Nat → Int32) × (Nat → Int32)) :=
  if p1 = 0 then
    some (Svr, Svf, Snm)
  else
    (f_X4_rows 56 Svr).bind fun r2 => (f_X2_choke_15 p1 Szr Szf Snt zF (r2 - 1) Svr Svf Snm).bind fun t15 =>
      some (t15.2.1, t15.2.2.1, t15.2.2.2)

theorem kX2_choke_20 : Cond.fieldLink RX2 20 "ZoneSampler$State" "voices" "LZoneSampler$Table;" ∈ wsX2_choke := by decide +kernel
theorem kX2_choke_50 : Cond.fieldLink RX2 50 "ZoneSampler$State" "notes" "I" ∈ wsX2_choke := by decide +kernel
theorem kX2_choke_14 : Cond.fieldLink RX2 14 "ZoneSampler$State" "zones" "LZoneSampler$Table;" ∈ wsX2_choke := by decide +kernel
theorem jX2_choke_X2 : ∀ w ∈ u_ws RX2 TX2 5, w ∈ wsX2_choke := by decide +kernel
set_option maxHeartbeats 4000000 in
set_option maxRecDepth 100000 in
theorem c_X2_choke (l : Launch) (G : va_G) (c3 : zT3) (oS : zR6) (BS : zSt) (p1 : Int32) {Svr' : Int32} {Svf' : (Nat → Int32)} {Snm' : (Nat → Int32)} (hf : f_X2_choke BS.1.1 BS.1.2 BS.2.1.1 BS.2.1.2 BS.2.2.1 BS.2.2.2.2 p1 = some (Svr', Svf', Snm')) : zM l yX2_choke wsX2_choke ⟨2, 0, 0, 44⟩ G c3 (zwS c3.1 oS ((BS.1.1, BS.1.2), (BS.2.1.1, BS.2.1.2), BS.2.2.1, BS.2.2.2.1, BS.2.2.2.2)) [.ref oS.1, .int p1] none (zwS c3.1 oS ((BS.1.1, BS.1.2), (Svr', Svf'), Snm', BS.2.2.2.1, BS.2.2.2.2)) := by
  obtain ⟨⟨Szr, Szf⟩, ⟨Svr, Svf⟩, Snm, Spd, Snt⟩ := BS
  have hf : f_X2_choke Szr Szf Svr Svf Snm Snt p1 = some (Svr', Svf', Snm') := hf
  show zM l yX2_choke wsX2_choke ⟨2, 0, 0, 44⟩ G c3 (zwS c3.1 oS ((Szr, Szf), (Svr, Svf), Snm, Spd, Snt)) [.ref oS.1, .int p1] none (zwS c3.1 oS ((Szr, Szf), (Svr', Svf'), Snm', Spd, Snt))
  refine zM.of (cc := cX2_choke) (maxL := 4) (ret := none) (by decide) rfl (Nat.le_of_ble_eq_true rfl) ?_
  intro p e s m args below meth c A ls S0 hr hlk hC hl
  have S0 : CallFix p m c cX2_choke 4 s args wsX2_choke RX2 := S0
  have hl : lv_has ls 4 [(0, .ref oS.1), (1, .int p1)] := hl
  have hx := S0.1
  have hb := S0.2.1
  obtain ⟨H, hH⟩ : ∃ y, y = s.heap := ⟨_, rfl⟩
  rw [← hH] at hC ⊢
  obtain ⟨locs, hlo⟩ : ∃ y : List Loc, y = [] := ⟨_, rfl⟩
  rw [← hlo] at hC ⊢
  clear hH hlo
  unfold f_X2_choke at hf
  refine lv_iload_n hx hb dX2_choke_0 rfl (lv_at hl 1 rfl) ?_
  refine lv_if_ne (tgt := 5) hx hb dX2_choke_1 (by decide) (fun cd1 => ?_) (fun cd1 => ?_)
  · replace hf := z_neg cd1 hf
    refine lv_aload_n hx hb dX2_choke_5 rfl (lv_at hl 0 rfl) ?_
    refine z_get S0 hC (ci := 2) (C := RX2) (T := TX2) (N := 5) (v := .ref oS.2.2.2.1) jX2_choke_X2 0 rfl rfl 1 (by decide) kX2_choke_20 rfl rfl dX2_choke_6 ?_
    obtain ⟨r2, hr2, hf⟩ := z_bind hf
    refine z_callPi (z_runV (n := 0) (rest := []) (As := []) S0 hC (c_X4_rows l G c3 oS.2.2.2 56 (Svr, Svf) hr2) [4, 5] (by decide) rfl gX2_choke_X4_rows rfl rfl rfl (by decide +kernel) ⟨Nat.le_of_ble_eq_true rfl, Nat.le_of_ble_eq_true rfl⟩ (ci := 4) (q0 := 4) rfl rfl rfl hl.1 rfl (Nat.le_of_ble_eq_true rfl) dX2_choke_9) hC [4, 5] rfl (fun H locs hC => ?_)
    refine lv_iconst (v := 1) hx hb dX2_choke_12 (by decide) ?_
    refine lv_isub hx hb dX2_choke_13 ?_
    refine lv_istore_n (lv' := [(2, .int (r2 - 1)), (0, .ref oS.1), (1, .int p1)]) hx hb dX2_choke_14 rfl hl (by decide) rfl (fun ls hl => ?_)
    have L15 : ∀ (fu : Nat) (y1 : Int32) (y2 : Int32) (Szr : Int32) (Szf : (Nat → Int32)) (Svr : Int32) (Svf : (Nat → Int32)) (Snm : (Nat → Int32)) (Spd : Int32) (Snt : Int32) (tt : Int32 × Int32 × (Nat → Int32) × (Nat → Int32)), f_X2_choke_15 y1 Szr Szf Snt fu y2 Svr Svf Snm = some tt → ∀ (H : Heap) (locs : List Loc) (ls : Array Slot), zC G c3 A s (zwS c3.1 oS ((Szr, Szf), (Svr, Svf), Snm, Spd, Snt)) H locs → lv_has ls 4 [(0, .ref oS.1), (1, .int y1), (2, .int y2)] → (∀ (H : Heap) (locs : List Loc) (ls : Array Slot), zC G c3 A s (zwS c3.1 oS ((Szr, Szf), (tt.2.1, tt.2.2.1), tt.2.2.2, Spd, Snt)) H locs → lv_has ls 4 [(0, .ref oS.1), (1, .int y1), (2, .int tt.1)] → W p l e ⟨2, 0, 0, 44⟩ s m args below meth c H locs 0 0 (MQ below (zPost G (zwS c3.1 oS ((Szr, Szf), (Svr', Svf'), Snm', Spd, Snt)) none A) args s 0 0 A) (F0 m 87 ls [])) → W p l e ⟨2, 0, 0, 44⟩ s m args below meth c H locs 0 0 (MQ below (zPost G (zwS c3.1 oS ((Szr, Szf), (Svr', Svf'), Snm', Spd, Snt)) none A) args s 0 0 A) (F0 m 15 ls []) := by
      intro fu
      induction fu with
      | zero =>
        intro y1 y2 Szr Szf Svr Svf Snm Spd Snt tt hf H locs ls hC hl hK
        exact (z_none hf).elim
      | succ fu ih15 =>
        intro y1 y2 Szr Szf Svr Svf Snm Spd Snt tt hf H locs ls hC hl hK
        replace hf := (f_X2_choke_15_s y1 Szr Szf Snt y2 Svr Svf Snm fu).symm.trans hf
        refine lv_iload_n hx hb dX2_choke_15 rfl (lv_at hl 2 rfl) ?_
        refine lv_if_lt (tgt := 87) hx hb dX2_choke_16 (by decide) (fun cd4 => ?_) (fun cd4 => ?_)
        · replace hf := z_pos cd4 hf
          have e1 := z_s1 hf
          subst e1
          exact hK H locs ls hC (lv_sub hl [0, 1, 2] rfl)
        · replace hf := z_neg cd4 hf
          refine lv_aload_n hx hb dX2_choke_19 rfl (lv_at hl 0 rfl) ?_
          refine z_get S0 hC (ci := 2) (C := RX2) (T := TX2) (N := 5) (v := .ref oS.2.2.2.1) jX2_choke_X2 0 rfl rfl 1 (by decide) kX2_choke_20 rfl rfl dX2_choke_20 ?_
          refine lv_iload_n hx hb dX2_choke_23 rfl (lv_at hl 2 rfl) ?_
          refine lv_bipush (v := 6) hx hb dX2_choke_24 (by decide) ?_
          obtain ⟨r5, hr5, hf⟩ := z_bind hf
          refine z_callPi (z_runV (n := 2) (rest := []) (As := [.int y2, .int 6]) S0 hC (c_X4_get l G c3 oS.2.2.2 56 (Svr, Svf) y2 6 hr5) [4, 5] (by decide) rfl gX2_choke_X4_get rfl rfl rfl (by decide +kernel) ⟨Nat.le_of_ble_eq_true rfl, Nat.le_of_ble_eq_true rfl⟩ (ci := 4) (q0 := 4) rfl rfl rfl hl.1 rfl (Nat.le_of_ble_eq_true rfl) dX2_choke_26) hC [4, 5] rfl (fun H locs hC => ?_)
          refine lv_aload_n hx hb dX2_choke_29 rfl (lv_at hl 0 rfl) ?_
          refine z_get S0 hC (ci := 2) (C := RX2) (T := TX2) (N := 5) (v := .int Snt) jX2_choke_X2 0 rfl rfl 4 (by decide) kX2_choke_50 rfl rfl dX2_choke_30 ?_
          obtain ⟨t7, ht7, hf⟩ := z_bind hf
          have Jt7 : ∀ (H : Heap) (locs : List Loc) (ls : Array Slot), zC G c3 A s (zwS c3.1 oS ((Szr, Szf), (Svr, Svf), Snm, Spd, Snt)) H locs → lv_has ls 4 [(0, .ref oS.1), (1, .int y1), (2, .int y2)] → W p l e ⟨2, 0, 0, 44⟩ s m args below meth c H locs 0 0 (MQ below (zPost G (zwS c3.1 oS ((Szr, Szf), (Svr', Svf'), Snm', Spd, Snt)) none A) args s 0 0 A) (F0 m 41 ls [.int t7]) := by
            intro H locs ls hC hl
            refine lv_istore_n (lv' := [(3, .int t7), (0, .ref oS.1), (1, .int y1), (2, .int y2)]) hx hb dX2_choke_41 rfl hl (by decide) rfl (fun ls hl => ?_)
            refine lv_iload_n hx hb dX2_choke_42 rfl (lv_at hl 0 rfl) ?_
            obtain ⟨t9, ht9, hf⟩ := z_bind hf
            have Jt9 : ∀ (H : Heap) (locs : List Loc) (ls : Array Slot), zC G c3 A s (zwS c3.1 oS ((Szr, Szf), (t9.1, t9.2.1), t9.2.2, Spd, Snt)) H locs → lv_has ls 4 [(0, .ref oS.1), (1, .int y1), (2, .int y2), (3, .int t7)] → W p l e ⟨2, 0, 0, 44⟩ s m args below meth c H locs 0 0 (MQ below (zPost G (zwS c3.1 oS ((Szr, Szf), (Svr', Svf'), Snm', Spd, Snt)) none A) args s 0 0 A) (F0 m 81 ls []) := by
              intro H locs ls hC hl
              refine lv_iinc (v := (y2 + (-1))) (lv' := [(2, .int (y2 + (-1))), (0, .ref oS.1), (1, .int y1), (3, .int t7)]) hx hb dX2_choke_81 hl (k := 2) rfl rfl (by decide) rfl (fun ls hl => ?_)
              refine lv_goto (tgt := 15) hx hb dX2_choke_84 (by decide) ?_
              exact ih15 y1 (y2 + (-1)) Szr Szf t9.1 t9.2.1 t9.2.2 Spd Snt _ hf H locs ls hC (lv_sub hl [1, 2, 0] rfl) hK
            refine lv_if_eq (tgt := 81) hx hb dX2_choke_43 (by decide) (fun cd8 => ?_) (fun cd8 => ?_)
            · replace ht9 := z_pos cd8 ht9
              have e1 := z_s1 ht9
              subst e1
              exact Jt9 H locs ls hC (lv_sub hl [1, 2, 3, 0] rfl)
            · replace ht9 := z_neg cd8 ht9
              refine lv_aload_n hx hb dX2_choke_46 rfl (lv_at hl 1 rfl) ?_
              refine z_get S0 hC (ci := 2) (C := RX2) (T := TX2) (N := 5) (v := .ref oS.2.2.1.1) jX2_choke_X2 0 rfl rfl 0 (by decide) kX2_choke_14 rfl rfl dX2_choke_47 ?_
              refine lv_aload_n hx hb dX2_choke_50 rfl (lv_at hl 1 rfl) ?_
              refine z_get S0 hC (ci := 2) (C := RX2) (T := TX2) (N := 5) (v := .ref oS.2.2.2.1) jX2_choke_X2 0 rfl rfl 1 (by decide) kX2_choke_20 rfl rfl dX2_choke_51 ?_
              refine lv_iload_n hx hb dX2_choke_54 rfl (lv_at hl 3 rfl) ?_
              refine lv_iconst (v := 0) hx hb dX2_choke_55 (by decide) ?_
              obtain ⟨r10, hr10, ht9⟩ := z_bind ht9
              refine z_callPi (z_runV (n := 2) (rest := [.ref oS.2.2.1.1]) (As := [.int y2, .int 0]) S0 hC (c_X4_get l G c3 oS.2.2.2 56 (Svr, Svf) y2 0 hr10) [4, 5] (by decide) rfl gX2_choke_X4_get rfl rfl rfl (by decide +kernel) ⟨Nat.le_of_ble_eq_true rfl, Nat.le_of_ble_eq_true rfl⟩ (ci := 4) (q0 := 4) rfl rfl rfl hl.1 rfl (Nat.le_of_ble_eq_true rfl) dX2_choke_56) hC [4, 5] rfl (fun H locs hC => ?_)
              refine lv_iconst (v := 4) hx hb dX2_choke_59 (by decide) ?_
              obtain ⟨r11, hr11, ht9⟩ := z_bind ht9
              refine z_callPi (z_runV (n := 2) (rest := []) (As := [.int r10, .int 4]) S0 hC (c_X4_get l G c3 oS.2.2.1 70 (Szr, Szf) r10 4 hr11) [2, 3] (by decide) rfl gX2_choke_X4_get rfl rfl rfl (by decide +kernel) ⟨Nat.le_of_ble_eq_true rfl, Nat.le_of_ble_eq_true rfl⟩ (ci := 4) (q0 := 2) rfl rfl rfl hl.1 rfl (Nat.le_of_ble_eq_true rfl) dX2_choke_60) hC [2, 3] rfl (fun H locs hC => ?_)
              refine lv_iload_n hx hb dX2_choke_63 rfl (lv_at hl 2 rfl) ?_
              refine lv_icmp_ne (tgt := 81) hx hb dX2_choke_64 (by decide) (fun cd12 => ?_) (fun cd12 => ?_)
              · replace ht9 := z_neg cd12 ht9
                have e1 := z_s1 ht9
                subst e1
                exact Jt9 H locs ls hC (lv_sub hl [1, 2, 3, 0] rfl)
              · replace ht9 := z_pos cd12 ht9
                refine lv_aload_n hx hb dX2_choke_67 rfl (lv_at hl 1 rfl) ?_
                refine z_get S0 hC (ci := 2) (C := RX2) (T := TX2) (N := 5) (v := .ref oS.2.2.2.1) jX2_choke_X2 0 rfl rfl 1 (by decide) kX2_choke_20 rfl rfl dX2_choke_68 ?_
                refine lv_iload_n hx hb dX2_choke_71 rfl (lv_at hl 3 rfl) ?_
                obtain ⟨r13, hr13, ht9⟩ := z_bind ht9
                refine z_callv (z_runV (n := 1) (rest := []) (As := [.int y2]) S0 hC (c_X4_removeRow l G c3 oS.2.2.2 56 (Svr, Svf) y2 hr13) [4, 5] (by decide) rfl gX2_choke_X4_removeRow rfl rfl rfl (by decide +kernel) ⟨Nat.le_of_ble_eq_true rfl, Nat.le_of_ble_eq_true rfl⟩ (ci := 4) (q0 := 4) rfl rfl rfl hl.1 rfl (Nat.le_of_ble_eq_true rfl) dX2_choke_72) hC [4, 5] [0, 1, 2, 3] [0, 1, 2, 3, 4, 5] rfl (wr := [(oS.1, .inr (2, [.ref oS.2.2.1.1, .ref oS.2.2.2.1, .ref oS.2.1, .int Spd, .int Snt])), (oS.2.1, .inl (c3.1, 13, .inl Snm)), (oS.2.2.1.1, .inr (4, [.int 7, .ref oS.2.2.1.2, .int Szr])), (oS.2.2.1.2, .inl (c3.1, 70, .inl Szf))]) rfl (by decide) (by decide) (ws2 := (zwS c3.1 oS ((Szr, Szf), (r13.1, r13.2), Snm, Spd, Snt))) rfl (by decide) (fun H locs hC => ?_)
                refine lv_aload_n hx hb dX2_choke_75 rfl (lv_at hl 1 rfl) ?_
                refine lv_iconst (v := 3) hx hb dX2_choke_76 (by decide) ?_
                refine lv_iconst (v := 1) hx hb dX2_choke_77 (by decide) ?_
                obtain ⟨r14, hr14, ht9⟩ := z_bind ht9
                refine z_callv (z_runV (n := 2) (rest := []) (As := [.int 3, .int 1]) S0 hC (c_X2_grow l G c3 oS ((Szr, Szf), (r13.1, r13.2), Snm, Spd, Snt) 3 1 hr14) [0, 1, 2, 3, 4, 5] (by decide) rfl gX2_choke_X2_grow rfl rfl rfl (by decide +kernel) ⟨Nat.le_of_ble_eq_true rfl, Nat.le_of_ble_eq_true rfl⟩ (ci := 2) (q0 := 0) rfl rfl rfl hl.1 rfl (Nat.le_of_ble_eq_true rfl) dX2_choke_78) hC [0, 1, 2, 3, 4, 5] [] [0, 1, 2, 3, 4, 5] rfl (wr := ([] : va_W)) rfl (by decide) (by decide) (ws2 := (zwS c3.1 oS ((Szr, Szf), (r13.1, r13.2), r14, Spd, Snt))) rfl (by decide) (fun H locs hC => ?_)
                have e1 := z_s1 ht9
                subst e1
                exact Jt9 H locs ls hC (lv_sub hl [1, 2, 3, 0] rfl)
          refine lv_icmp_eq (tgt := 40) hx hb dX2_choke_33 (by decide) (fun cd6 => ?_) (fun cd6 => ?_)
          · replace ht7 := z_pos cd6 ht7
            refine lv_iconst (v := 0) hx hb dX2_choke_40 (by decide) ?_
            have e1 := z_s1 ht7
            subst e1
            exact Jt7 H locs ls hC (lv_sub hl [0, 1, 2] rfl)
          · replace ht7 := z_neg cd6 ht7
            refine lv_iconst (v := 1) hx hb dX2_choke_36 (by decide) ?_
            refine lv_goto (tgt := 41) hx hb dX2_choke_37 (by decide) ?_
            have e1 := z_s1 ht7
            subst e1
            exact Jt7 H locs ls hC (lv_sub hl [0, 1, 2] rfl)
    obtain ⟨t15, ht15, hf⟩ := z_bind hf
    refine L15 zF p1 (r2 - 1) Szr Szf Svr Svf Snm Spd Snt t15 ht15 H locs ls hC (lv_sub hl [1, 2, 0] rfl) (fun H locs ls hC hl => ?_)
    obtain ⟨e1, e2, e3⟩ := z_s3 hf
    subst e1
    subst e2
    subst e3
    exact z_vret S0 hr hlk hC dX2_choke_87
  · replace hf := z_pos cd1 hf
    obtain ⟨e1, e2, e3⟩ := z_s3 hf
    subst e1
    subst e2
    subst e3
    exact z_vret S0 hr hlk hC dX2_choke_4

-- X2 stealRank
def f_X2_stealRank (Svr : Int32) (Svf : (Nat → Int32)) (Snm : (Nat → Int32)) (p1 : Int32) : Option (Int32) :=
  (f_X2_number Snm 7).bind fun r1 => if r1 = 0 then
    (f_X4_get 56 Svr Svf p1 4).bind fun r3 => some ((-r3))
  else
    if r1 = 1 then
      (f_X4_get 56 Svr Svf p1 3).bind fun r5 => some (r5)
    else
      (f_X4_get 56 Svr Svf p1 5).bind fun r6 => some ((-r6))

theorem kX2_stealRank_20 : Cond.fieldLink RX2 20 "ZoneSampler$State" "voices" "LZoneSampler$Table;" ∈ wsX2_stealRank := by decide +kernel
theorem jX2_stealRank_X2 : ∀ w ∈ u_ws RX2 TX2 5, w ∈ wsX2_stealRank := by decide +kernel
set_option maxHeartbeats 4000000 in
set_option maxRecDepth 100000 in
theorem c_X2_stealRank (l : Launch) (G : va_G) (c3 : zT3) (oS : zR6) (BS : zSt) (p1 : Int32) {r : Int32} (hf : f_X2_stealRank BS.2.1.1 BS.2.1.2 BS.2.2.1 p1 = some (r)) : zM l yX2_stealRank wsX2_stealRank ⟨1, 0, 0, 23⟩ G c3 (zwS c3.1 oS ((BS.1.1, BS.1.2), (BS.2.1.1, BS.2.1.2), BS.2.2.1, BS.2.2.2.1, BS.2.2.2.2)) [.ref oS.1, .int p1] (some (.int r)) (zwS c3.1 oS ((BS.1.1, BS.1.2), (BS.2.1.1, BS.2.1.2), BS.2.2.1, BS.2.2.2.1, BS.2.2.2.2)) := by
  obtain ⟨⟨Szr, Szf⟩, ⟨Svr, Svf⟩, Snm, Spd, Snt⟩ := BS
  have hf : f_X2_stealRank Svr Svf Snm p1 = some (r) := hf
  show zM l yX2_stealRank wsX2_stealRank ⟨1, 0, 0, 23⟩ G c3 (zwS c3.1 oS ((Szr, Szf), (Svr, Svf), Snm, Spd, Snt)) [.ref oS.1, .int p1] (some (.int r)) (zwS c3.1 oS ((Szr, Szf), (Svr, Svf), Snm, Spd, Snt))
  refine zM.of (cc := cX2_stealRank) (maxL := 2) (ret := (some .int)) (by decide) rfl (Nat.le_of_ble_eq_true rfl) ?_
  intro p e s m args below meth c A ls S0 hr hlk hC hl
  have S0 : CallFix p m c cX2_stealRank 2 s args wsX2_stealRank RX2 := S0
  have hl : lv_has ls 2 [(0, .ref oS.1), (1, .int p1)] := hl
  have hx := S0.1
  have hb := S0.2.1
  obtain ⟨H, hH⟩ : ∃ y, y = s.heap := ⟨_, rfl⟩
  rw [← hH] at hC ⊢
  obtain ⟨locs, hlo⟩ : ∃ y : List Loc, y = [] := ⟨_, rfl⟩
  rw [← hlo] at hC ⊢
  clear hH hlo
  unfold f_X2_stealRank at hf
  refine lv_aload_n hx hb dX2_stealRank_0 rfl (lv_at hl 0 rfl) ?_
  refine lv_bipush (v := 7) hx hb dX2_stealRank_1 (by decide) ?_
  obtain ⟨r1, hr1, hf⟩ := z_bind hf
  refine z_callPi (z_runV (n := 1) (rest := []) (As := [.int 7]) S0 hC (c_X2_number l G c3 oS ((Szr, Szf), (Svr, Svf), Snm, Spd, Snt) 7 hr1) [0, 1, 2, 3, 4, 5] (by decide) rfl gX2_stealRank_X2_number rfl rfl rfl (by decide +kernel) ⟨Nat.le_of_ble_eq_true rfl, Nat.le_of_ble_eq_true rfl⟩ (ci := 2) (q0 := 0) rfl rfl rfl hl.1 rfl (Nat.le_of_ble_eq_true rfl) dX2_stealRank_3) hC [0, 1, 2, 3, 4, 5] rfl (fun H locs hC => ?_)
  by_cases cd2 : r1 = 0
  · replace hf := z_pos cd2 hf
    refine lv_lookup (off := 26) (tgt := 32) hx hb dX2_stealRank_6 (by decide) (by rw [cd2]; rfl) (by decide) ?_
    refine lv_aload_n hx hb dX2_stealRank_32 rfl (lv_at hl 0 rfl) ?_
    refine z_get S0 hC (ci := 2) (C := RX2) (T := TX2) (N := 5) (v := .ref oS.2.2.2.1) jX2_stealRank_X2 0 rfl rfl 1 (by decide) kX2_stealRank_20 rfl rfl dX2_stealRank_33 ?_
    refine lv_iload_n hx hb dX2_stealRank_36 rfl (lv_at hl 1 rfl) ?_
    refine lv_iconst (v := 4) hx hb dX2_stealRank_37 (by decide) ?_
    obtain ⟨r3, hr3, hf⟩ := z_bind hf
    refine z_callPi (z_runV (n := 2) (rest := []) (As := [.int p1, .int 4]) S0 hC (c_X4_get l G c3 oS.2.2.2 56 (Svr, Svf) p1 4 hr3) [4, 5] (by decide) rfl gX2_stealRank_X4_get rfl rfl rfl (by decide +kernel) ⟨Nat.le_of_ble_eq_true rfl, Nat.le_of_ble_eq_true rfl⟩ (ci := 4) (q0 := 4) rfl rfl rfl hl.1 rfl (Nat.le_of_ble_eq_true rfl) dX2_stealRank_38) hC [4, 5] rfl (fun H locs hC => ?_)
    refine lv_ineg hx hb dX2_stealRank_41 ?_
    have e1 := z_s1 hf
    subst e1
    exact z_iret S0 hr hlk hC dX2_stealRank_42
  replace hf := z_neg cd2 hf
  by_cases cd4 : r1 = 1
  · replace hf := z_pos cd4 hf
    refine lv_lookup (off := 37) (tgt := 43) hx hb dX2_stealRank_6 (by decide) (by rw [cd4]; rfl) (by decide) ?_
    refine lv_aload_n hx hb dX2_stealRank_43 rfl (lv_at hl 0 rfl) ?_
    refine z_get S0 hC (ci := 2) (C := RX2) (T := TX2) (N := 5) (v := .ref oS.2.2.2.1) jX2_stealRank_X2 0 rfl rfl 1 (by decide) kX2_stealRank_20 rfl rfl dX2_stealRank_44 ?_
    refine lv_iload_n hx hb dX2_stealRank_47 rfl (lv_at hl 1 rfl) ?_
    refine lv_iconst (v := 3) hx hb dX2_stealRank_48 (by decide) ?_
    obtain ⟨r5, hr5, hf⟩ := z_bind hf
    refine z_callPi (z_runV (n := 2) (rest := []) (As := [.int p1, .int 3]) S0 hC (c_X4_get l G c3 oS.2.2.2 56 (Svr, Svf) p1 3 hr5) [4, 5] (by decide) rfl gX2_stealRank_X4_get rfl rfl rfl (by decide +kernel) ⟨Nat.le_of_ble_eq_true rfl, Nat.le_of_ble_eq_true rfl⟩ (ci := 4) (q0 := 4) rfl rfl rfl hl.1 rfl (Nat.le_of_ble_eq_true rfl) dX2_stealRank_49) hC [4, 5] rfl (fun H locs hC => ?_)
    have e1 := z_s1 hf
    subst e1
    exact z_iret S0 hr hlk hC dX2_stealRank_52
  replace hf := z_neg cd4 hf
  have D6 : W p l e ⟨1, 0, 0, 23⟩ s m args below meth c H locs 0 0 (MQ below (zPost G (zwS c3.1 oS ((Szr, Szf), (Svr, Svf), Snm, Spd, Snt)) (some (.int r)) A) args s 0 0 A) (F0 m 53 ls []) := by
    refine lv_aload_n hx hb dX2_stealRank_53 rfl (lv_at hl 0 rfl) ?_
    refine z_get S0 hC (ci := 2) (C := RX2) (T := TX2) (N := 5) (v := .ref oS.2.2.2.1) jX2_stealRank_X2 0 rfl rfl 1 (by decide) kX2_stealRank_20 rfl rfl dX2_stealRank_54 ?_
    refine lv_iload_n hx hb dX2_stealRank_57 rfl (lv_at hl 1 rfl) ?_
    refine lv_iconst (v := 5) hx hb dX2_stealRank_58 (by decide) ?_
    obtain ⟨r6, hr6, hf⟩ := z_bind hf
    refine z_callPi (z_runV (n := 2) (rest := []) (As := [.int p1, .int 5]) S0 hC (c_X4_get l G c3 oS.2.2.2 56 (Svr, Svf) p1 5 hr6) [4, 5] (by decide) rfl gX2_stealRank_X4_get rfl rfl rfl (by decide +kernel) ⟨Nat.le_of_ble_eq_true rfl, Nat.le_of_ble_eq_true rfl⟩ (ci := 4) (q0 := 4) rfl rfl rfl hl.1 rfl (Nat.le_of_ble_eq_true rfl) dX2_stealRank_59) hC [4, 5] rfl (fun H locs hC => ?_)
    refine lv_ineg hx hb dX2_stealRank_62 ?_
    have e1 := z_s1 hf
    subst e1
    exact z_iret S0 hr hlk hC dX2_stealRank_63
  have e0_6 : (r1).toInt ≠ 0 := fun h => cd2 (Int32.toInt_inj.mp (h.trans (by decide)))
  have e1_6 : (r1).toInt ≠ 1 := fun h => cd4 (Int32.toInt_inj.mp (h.trans (by decide)))
  exact lv_lookup (off := 47) (tgt := 53) hx hb dX2_stealRank_6 (by decide) (by simp only [Op.lookupswitch.offset]; simp [e0_6, Ne.symm e0_6, e1_6, Ne.symm e1_6]) (by decide) D6

-- X2 moveHeld
def f_X2_moveHeld_5 (y1 : Int32) (y2 : Int32) (Svr : Int32) : Nat → Int32 → Int32 → (Nat → Int32) → Option (Int32 × Int32 × (Nat → Int32))
  | 0, _, _, _ => none
  | fu + 1, y3, y4, Svf =>
    (f_X4_rows 56 Svr).bind fun r2 => if r2 ≤ y4 then
      some (y3, y4, Svf)
    else
      (f_X4_get 56 Svr Svf y4 1).bind fun r4 => Option.bind (α := Int32 × (Nat → Int32)) (
        if r4 = y1 then
          (f_X4_get 56 Svr Svf y4 5).bind fun r7 => if r7 = 0 then
            (f_X4_put 56 Svr Svf y4 5 y2).bind fun r9 => some ((y3 + 1), r9)
          else
            some (y3, Svf)
        else
          some (y3, Svf)
      ) fun t6 =>
        f_X2_moveHeld_5 y1 y2 Svr fu t6.1 (y4 + 1) t6.2

theorem f_X2_moveHeld_5_s (y1 : Int32) (y2 : Int32) (Svr : Int32) (y3 : Int32) (y4 : Int32) (Svf : (Nat → Int32)) (fu : Nat) : f_X2_moveHeld_5 y1 y2 Svr (fu + 1) y3 y4 Svf = (
    (f_X4_rows 56 Svr).bind fun r2 => if r2 ≤ y4 then
      some (y3, y4, Svf)
    else
      (f_X4_get 56 Svr Svf y4 1).bind fun r4 => Option.bind (α := Int32 × (Nat → Int32)) (
        if r4 = y1 then
          (f_X4_get 56 Svr Svf y4 5).bind fun r7 => if r7 = 0 then
            (f_X4_put 56 Svr Svf y4 5 y2).bind fun r9 => some ((y3 + 1), r9)
          else
            some (y3, Svf)
        else
          some (y3, Svf)
      ) fun t6 =>
        f_X2_moveHeld_5 y1 y2 Svr fu t6.1 (y4 + 1) t6.2
    ) := rfl

def f_X2_moveHeld (Svr : Int32) (Svf : (Nat → Int32)) (p1 : Int32) (p2 : Int32) : Option (Int32 × (Nat → Int32)) :=
  (f_X2_moveHeld_5 p1 p2 Svr zF 0 0 Svf).bind fun t10 =>
    some (t10.1, t10.2.2)

theorem kX2_moveHeld_20 : Cond.fieldLink RX2 20 "ZoneSampler$State" "voices" "LZoneSampler$Table;" ∈ wsX2_moveHeld := by decide +kernel
theorem jX2_moveHeld_X2 : ∀ w ∈ u_ws RX2 TX2 5, w ∈ wsX2_moveHeld := by decide +kernel
set_option maxHeartbeats 4000000 in
set_option maxRecDepth 100000 in
theorem c_X2_moveHeld (l : Launch) (G : va_G) (c3 : zT3) (oS : zR6) (BS : zSt) (p1 : Int32) (p2 : Int32) {r : Int32} {Svf' : (Nat → Int32)} (hf : f_X2_moveHeld BS.2.1.1 BS.2.1.2 p1 p2 = some (r, Svf')) : zM l yX2_moveHeld wsX2_moveHeld ⟨1, 0, 0, 24⟩ G c3 (zwS c3.1 oS ((BS.1.1, BS.1.2), (BS.2.1.1, BS.2.1.2), BS.2.2.1, BS.2.2.2.1, BS.2.2.2.2)) [.ref oS.1, .int p1, .int p2] (some (.int r)) (zwS c3.1 oS ((BS.1.1, BS.1.2), (BS.2.1.1, Svf'), BS.2.2.1, BS.2.2.2.1, BS.2.2.2.2)) := by
  obtain ⟨⟨Szr, Szf⟩, ⟨Svr, Svf⟩, Snm, Spd, Snt⟩ := BS
  have hf : f_X2_moveHeld Svr Svf p1 p2 = some (r, Svf') := hf
  show zM l yX2_moveHeld wsX2_moveHeld ⟨1, 0, 0, 24⟩ G c3 (zwS c3.1 oS ((Szr, Szf), (Svr, Svf), Snm, Spd, Snt)) [.ref oS.1, .int p1, .int p2] (some (.int r)) (zwS c3.1 oS ((Szr, Szf), (Svr, Svf'), Snm, Spd, Snt))
  refine zM.of (cc := cX2_moveHeld) (maxL := 5) (ret := (some .int)) (by decide) rfl (Nat.le_of_ble_eq_true rfl) ?_
  intro p e s m args below meth c A ls S0 hr hlk hC hl
  have S0 : CallFix p m c cX2_moveHeld 5 s args wsX2_moveHeld RX2 := S0
  have hl : lv_has ls 5 [(0, .ref oS.1), (1, .int p1), (2, .int p2)] := hl
  have hx := S0.1
  have hb := S0.2.1
  obtain ⟨H, hH⟩ : ∃ y, y = s.heap := ⟨_, rfl⟩
  rw [← hH] at hC ⊢
  obtain ⟨locs, hlo⟩ : ∃ y : List Loc, y = [] := ⟨_, rfl⟩
  rw [← hlo] at hC ⊢
  clear hH hlo
  unfold f_X2_moveHeld at hf
  refine lv_iconst (v := 0) hx hb dX2_moveHeld_0 (by decide) ?_
  refine lv_istore_n (lv' := [(3, .int 0), (0, .ref oS.1), (1, .int p1), (2, .int p2)]) hx hb dX2_moveHeld_1 rfl hl (by decide) rfl (fun ls hl => ?_)
  refine lv_iconst (v := 0) hx hb dX2_moveHeld_2 (by decide) ?_
  refine lv_istore (lv' := [(4, .int 0), (3, .int 0), (0, .ref oS.1), (1, .int p1), (2, .int p2)]) hx hb dX2_moveHeld_3 hl (by decide) rfl (fun ls hl => ?_)
  have L5 : ∀ (fu : Nat) (y1 : Int32) (y2 : Int32) (y3 : Int32) (y4 : Int32) (Szr : Int32) (Szf : (Nat → Int32)) (Svr : Int32) (Svf : (Nat → Int32)) (Snm : (Nat → Int32)) (Spd : Int32) (Snt : Int32) (tt : Int32 × Int32 × (Nat → Int32)), f_X2_moveHeld_5 y1 y2 Svr fu y3 y4 Svf = some tt → ∀ (H : Heap) (locs : List Loc) (ls : Array Slot), zC G c3 A s (zwS c3.1 oS ((Szr, Szf), (Svr, Svf), Snm, Spd, Snt)) H locs → lv_has ls 5 [(0, .ref oS.1), (1, .int y1), (2, .int y2), (3, .int y3), (4, .int y4)] → (∀ (H : Heap) (locs : List Loc) (ls : Array Slot), zC G c3 A s (zwS c3.1 oS ((Szr, Szf), (Svr, tt.2.2), Snm, Spd, Snt)) H locs → lv_has ls 5 [(0, .ref oS.1), (1, .int y1), (2, .int y2), (3, .int tt.1), (4, .int tt.2.1)] → W p l e ⟨1, 0, 0, 24⟩ s m args below meth c H locs 0 0 (MQ below (zPost G (zwS c3.1 oS ((Szr, Szf), (Svr, Svf'), Snm, Spd, Snt)) (some (.int r)) A) args s 0 0 A) (F0 m 64 ls [])) → W p l e ⟨1, 0, 0, 24⟩ s m args below meth c H locs 0 0 (MQ below (zPost G (zwS c3.1 oS ((Szr, Szf), (Svr, Svf'), Snm, Spd, Snt)) (some (.int r)) A) args s 0 0 A) (F0 m 5 ls []) := by
    intro fu
    induction fu with
    | zero =>
      intro y1 y2 y3 y4 Szr Szf Svr Svf Snm Spd Snt tt hf H locs ls hC hl hK
      exact (z_none hf).elim
    | succ fu ih5 =>
      intro y1 y2 y3 y4 Szr Szf Svr Svf Snm Spd Snt tt hf H locs ls hC hl hK
      replace hf := (f_X2_moveHeld_5_s y1 y2 Svr y3 y4 Svf fu).symm.trans hf
      refine lv_iload hx hb dX2_moveHeld_5 (lv_at hl 4 rfl) ?_
      refine lv_aload_n hx hb dX2_moveHeld_7 rfl (lv_at hl 0 rfl) ?_
      refine z_get S0 hC (ci := 2) (C := RX2) (T := TX2) (N := 5) (v := .ref oS.2.2.2.1) jX2_moveHeld_X2 0 rfl rfl 1 (by decide) kX2_moveHeld_20 rfl rfl dX2_moveHeld_8 ?_
      obtain ⟨r2, hr2, hf⟩ := z_bind hf
      refine z_callPi (z_runV (n := 0) (rest := [.int y4]) (As := []) S0 hC (c_X4_rows l G c3 oS.2.2.2 56 (Svr, Svf) hr2) [4, 5] (by decide) rfl gX2_moveHeld_X4_rows rfl rfl rfl (by decide +kernel) ⟨Nat.le_of_ble_eq_true rfl, Nat.le_of_ble_eq_true rfl⟩ (ci := 4) (q0 := 4) rfl rfl rfl hl.1 rfl (Nat.le_of_ble_eq_true rfl) dX2_moveHeld_11) hC [4, 5] rfl (fun H locs hC => ?_)
      refine lv_icmp_ge (tgt := 64) hx hb dX2_moveHeld_14 (by decide) (fun cd3 => ?_) (fun cd3 => ?_)
      · replace hf := z_pos cd3 hf
        have e1 := z_s1 hf
        subst e1
        exact hK H locs ls hC (lv_sub hl [0, 1, 2, 3, 4] rfl)
      · replace hf := z_neg cd3 hf
        refine lv_aload_n hx hb dX2_moveHeld_17 rfl (lv_at hl 0 rfl) ?_
        refine z_get S0 hC (ci := 2) (C := RX2) (T := TX2) (N := 5) (v := .ref oS.2.2.2.1) jX2_moveHeld_X2 0 rfl rfl 1 (by decide) kX2_moveHeld_20 rfl rfl dX2_moveHeld_18 ?_
        refine lv_iload hx hb dX2_moveHeld_21 (lv_at hl 4 rfl) ?_
        refine lv_iconst (v := 1) hx hb dX2_moveHeld_23 (by decide) ?_
        obtain ⟨r4, hr4, hf⟩ := z_bind hf
        refine z_callPi (z_runV (n := 2) (rest := []) (As := [.int y4, .int 1]) S0 hC (c_X4_get l G c3 oS.2.2.2 56 (Svr, Svf) y4 1 hr4) [4, 5] (by decide) rfl gX2_moveHeld_X4_get rfl rfl rfl (by decide +kernel) ⟨Nat.le_of_ble_eq_true rfl, Nat.le_of_ble_eq_true rfl⟩ (ci := 4) (q0 := 4) rfl rfl rfl hl.1 rfl (Nat.le_of_ble_eq_true rfl) dX2_moveHeld_24) hC [4, 5] rfl (fun H locs hC => ?_)
        refine lv_iload_n hx hb dX2_moveHeld_27 rfl (lv_at hl 1 rfl) ?_
        obtain ⟨t6, ht6, hf⟩ := z_bind hf
        have Jt6 : ∀ (H : Heap) (locs : List Loc) (ls : Array Slot), zC G c3 A s (zwS c3.1 oS ((Szr, Szf), (Svr, t6.2), Snm, Spd, Snt)) H locs → lv_has ls 5 [(0, .ref oS.1), (1, .int y1), (2, .int y2), (3, .int t6.1), (4, .int y4)] → W p l e ⟨1, 0, 0, 24⟩ s m args below meth c H locs 0 0 (MQ below (zPost G (zwS c3.1 oS ((Szr, Szf), (Svr, Svf'), Snm, Spd, Snt)) (some (.int r)) A) args s 0 0 A) (F0 m 58 ls []) := by
          intro H locs ls hC hl
          refine lv_iinc (v := (y4 + 1)) (lv' := [(4, .int (y4 + 1)), (0, .ref oS.1), (1, .int y1), (2, .int y2), (3, .int t6.1)]) hx hb dX2_moveHeld_58 hl (k := 4) rfl rfl (by decide) rfl (fun ls hl => ?_)
          refine lv_goto (tgt := 5) hx hb dX2_moveHeld_61 (by decide) ?_
          exact ih5 y1 y2 t6.1 (y4 + 1) Szr Szf Svr t6.2 Snm Spd Snt _ hf H locs ls hC (lv_sub hl [1, 2, 3, 4, 0] rfl) hK
        refine lv_icmp_ne (tgt := 58) hx hb dX2_moveHeld_28 (by decide) (fun cd5 => ?_) (fun cd5 => ?_)
        · replace ht6 := z_neg cd5 ht6
          have e1 := z_s1 ht6
          subst e1
          exact Jt6 H locs ls hC (lv_sub hl [0, 1, 2, 3, 4] rfl)
        · replace ht6 := z_pos cd5 ht6
          refine lv_aload_n hx hb dX2_moveHeld_31 rfl (lv_at hl 0 rfl) ?_
          refine z_get S0 hC (ci := 2) (C := RX2) (T := TX2) (N := 5) (v := .ref oS.2.2.2.1) jX2_moveHeld_X2 0 rfl rfl 1 (by decide) kX2_moveHeld_20 rfl rfl dX2_moveHeld_32 ?_
          refine lv_iload hx hb dX2_moveHeld_35 (lv_at hl 4 rfl) ?_
          refine lv_iconst (v := 5) hx hb dX2_moveHeld_37 (by decide) ?_
          obtain ⟨r7, hr7, ht6⟩ := z_bind ht6
          refine z_callPi (z_runV (n := 2) (rest := []) (As := [.int y4, .int 5]) S0 hC (c_X4_get l G c3 oS.2.2.2 56 (Svr, Svf) y4 5 hr7) [4, 5] (by decide) rfl gX2_moveHeld_X4_get rfl rfl rfl (by decide +kernel) ⟨Nat.le_of_ble_eq_true rfl, Nat.le_of_ble_eq_true rfl⟩ (ci := 4) (q0 := 4) rfl rfl rfl hl.1 rfl (Nat.le_of_ble_eq_true rfl) dX2_moveHeld_38) hC [4, 5] rfl (fun H locs hC => ?_)
          refine lv_if_ne (tgt := 58) hx hb dX2_moveHeld_41 (by decide) (fun cd8 => ?_) (fun cd8 => ?_)
          · replace ht6 := z_neg cd8 ht6
            have e1 := z_s1 ht6
            subst e1
            exact Jt6 H locs ls hC (lv_sub hl [0, 1, 2, 3, 4] rfl)
          · replace ht6 := z_pos cd8 ht6
            refine lv_aload_n hx hb dX2_moveHeld_44 rfl (lv_at hl 0 rfl) ?_
            refine z_get S0 hC (ci := 2) (C := RX2) (T := TX2) (N := 5) (v := .ref oS.2.2.2.1) jX2_moveHeld_X2 0 rfl rfl 1 (by decide) kX2_moveHeld_20 rfl rfl dX2_moveHeld_45 ?_
            refine lv_iload hx hb dX2_moveHeld_48 (lv_at hl 4 rfl) ?_
            refine lv_iconst (v := 5) hx hb dX2_moveHeld_50 (by decide) ?_
            refine lv_iload_n hx hb dX2_moveHeld_51 rfl (lv_at hl 2 rfl) ?_
            obtain ⟨r9, hr9, ht6⟩ := z_bind ht6
            refine z_callv (z_runV (n := 3) (rest := []) (As := [.int y4, .int 5, .int y2]) S0 hC (c_X4_put l G c3 oS.2.2.2 56 (Svr, Svf) y4 5 y2 hr9) [4, 5] (by decide) rfl gX2_moveHeld_X4_put rfl rfl rfl (by decide +kernel) ⟨Nat.le_of_ble_eq_true rfl, Nat.le_of_ble_eq_true rfl⟩ (ci := 4) (q0 := 4) rfl rfl rfl hl.1 rfl (Nat.le_of_ble_eq_true rfl) dX2_moveHeld_52) hC [4, 5] [0, 1, 2, 3] [0, 1, 2, 3, 4, 5] rfl (wr := [(oS.1, .inr (2, [.ref oS.2.2.1.1, .ref oS.2.2.2.1, .ref oS.2.1, .int Spd, .int Snt])), (oS.2.1, .inl (c3.1, 13, .inl Snm)), (oS.2.2.1.1, .inr (4, [.int 7, .ref oS.2.2.1.2, .int Szr])), (oS.2.2.1.2, .inl (c3.1, 70, .inl Szf))]) rfl (by decide) (by decide) (ws2 := (zwS c3.1 oS ((Szr, Szf), (Svr, r9), Snm, Spd, Snt))) rfl (by decide) (fun H locs hC => ?_)
            refine lv_iinc (v := (y3 + 1)) (lv' := [(3, .int (y3 + 1)), (0, .ref oS.1), (1, .int y1), (2, .int y2), (4, .int y4)]) hx hb dX2_moveHeld_55 hl (k := 3) rfl rfl (by decide) rfl (fun ls hl => ?_)
            have e1 := z_s1 ht6
            subst e1
            exact Jt6 H locs ls hC (lv_sub hl [1, 2, 3, 0, 4] rfl)
  obtain ⟨t10, ht10, hf⟩ := z_bind hf
  refine L5 zF p1 p2 0 0 Szr Szf Svr Svf Snm Spd Snt t10 ht10 H locs ls hC (lv_sub hl [2, 3, 4, 1, 0] rfl) (fun H locs ls hC hl => ?_)
  refine lv_iload_n hx hb dX2_moveHeld_64 rfl (lv_at hl 3 rfl) ?_
  obtain ⟨e1, e2⟩ := z_s2 hf
  subst e1
  subst e2
  exact z_iret S0 hr hlk hC dX2_moveHeld_65

-- X2 tread
def f_X2_tread_29 (Svr : Int32) : Nat → Int32 → Int32 → (Nat → Int32) → Option (Int32 × Int32 × (Nat → Int32))
  | 0, _, _, _ => none
  | fu + 1, y1, y2, Svf =>
    (f_X4_rows 56 Svr).bind fun r6 => if r6 ≤ y2 then
      some (y1, y2, Svf)
    else
      (f_X4_get 56 Svr Svf y2 5).bind fun r8 => Option.bind (α := Int32 × (Nat → Int32)) (
        if r8 = 1 then
          (f_X4_put 56 Svr Svf y2 5 2).bind fun r11 => some ((y1 + 1), r11)
        else
          some (y1, Svf)
      ) fun t10 =>
        f_X2_tread_29 Svr fu t10.1 (y2 + 1) t10.2

theorem f_X2_tread_29_s (Svr : Int32) (y1 : Int32) (y2 : Int32) (Svf : (Nat → Int32)) (fu : Nat) : f_X2_tread_29 Svr (fu + 1) y1 y2 Svf = (
    (f_X4_rows 56 Svr).bind fun r6 => if r6 ≤ y2 then
      some (y1, y2, Svf)
    else
      (f_X4_get 56 Svr Svf y2 5).bind fun r8 => Option.bind (α := Int32 × (Nat → Int32)) (
        if r8 = 1 then
          (f_X4_put 56 Svr Svf y2 5 2).bind fun r11 => some ((y1 + 1), r11)
        else
          some (y1, Svf)
      ) fun t10 =>
        f_X2_tread_29 Svr fu t10.1 (y2 + 1) t10.2
    ) := rfl

def f_X2_tread (Svr : Int32) (Svf : (Nat → Int32)) (Spd : Int32) : Option (Int32 × (Nat → Int32) × Int32) :=
  Option.bind (α := Int32) (
    if Spd = 0 then
      some (1)
    else
      some (0)
  ) fun t2 =>
    (zbool t2).bind fun _ => if t2 = 0 then
      (f_X2_tread_29 Svr zF 0 0 Svf).bind fun t12 =>
        some (t12.1, t12.2.2, t2)
    else
      some (0, Svf, t2)

theorem kX2_tread_46 : Cond.fieldLink RX2 46 "ZoneSampler$State" "pedalDown" "Z" ∈ wsX2_tread := by decide +kernel
theorem kX2_tread_20 : Cond.fieldLink RX2 20 "ZoneSampler$State" "voices" "LZoneSampler$Table;" ∈ wsX2_tread := by decide +kernel
theorem jX2_tread_X2 : ∀ w ∈ u_ws RX2 TX2 5, w ∈ wsX2_tread := by decide +kernel
set_option maxHeartbeats 4000000 in
set_option maxRecDepth 100000 in
theorem c_X2_tread (l : Launch) (G : va_G) (c3 : zT3) (oS : zR6) (BS : zSt) {r : Int32} {Svf' : (Nat → Int32)} {Spd' : Int32} (hf : f_X2_tread BS.2.1.1 BS.2.1.2 BS.2.2.2.1 = some (r, Svf', Spd')) : zM l yX2_tread wsX2_tread ⟨1, 0, 0, 24⟩ G c3 (zwS c3.1 oS ((BS.1.1, BS.1.2), (BS.2.1.1, BS.2.1.2), BS.2.2.1, BS.2.2.2.1, BS.2.2.2.2)) [.ref oS.1] (some (.int r)) (zwS c3.1 oS ((BS.1.1, BS.1.2), (BS.2.1.1, Svf'), BS.2.2.1, Spd', BS.2.2.2.2)) := by
  obtain ⟨⟨Szr, Szf⟩, ⟨Svr, Svf⟩, Snm, Spd, Snt⟩ := BS
  have hf : f_X2_tread Svr Svf Spd = some (r, Svf', Spd') := hf
  show zM l yX2_tread wsX2_tread ⟨1, 0, 0, 24⟩ G c3 (zwS c3.1 oS ((Szr, Szf), (Svr, Svf), Snm, Spd, Snt)) [.ref oS.1] (some (.int r)) (zwS c3.1 oS ((Szr, Szf), (Svr, Svf'), Snm, Spd', Snt))
  refine zM.of (cc := cX2_tread) (maxL := 3) (ret := (some .int)) (by decide) rfl (Nat.le_of_ble_eq_true rfl) ?_
  intro p e s m args below meth c A ls S0 hr hlk hC hl
  have S0 : CallFix p m c cX2_tread 3 s args wsX2_tread RX2 := S0
  have hl : lv_has ls 3 [(0, .ref oS.1)] := hl
  have hx := S0.1
  have hb := S0.2.1
  obtain ⟨H, hH⟩ : ∃ y, y = s.heap := ⟨_, rfl⟩
  rw [← hH] at hC ⊢
  obtain ⟨locs, hlo⟩ : ∃ y : List Loc, y = [] := ⟨_, rfl⟩
  rw [← hlo] at hC ⊢
  clear hH hlo
  unfold f_X2_tread at hf
  refine lv_aload_n hx hb dX2_tread_0 rfl (lv_at hl 0 rfl) ?_
  refine lv_aload_n hx hb dX2_tread_1 rfl (lv_at hl 0 rfl) ?_
  refine z_get S0 hC (ci := 2) (C := RX2) (T := TX2) (N := 5) (v := .int Spd) jX2_tread_X2 0 rfl rfl 3 (by decide) kX2_tread_46 rfl rfl dX2_tread_2 ?_
  obtain ⟨t2, ht2, hf⟩ := z_bind hf
  have Jt2 : ∀ (H : Heap) (locs : List Loc) (ls : Array Slot), zC G c3 A s (zwS c3.1 oS ((Szr, Szf), (Svr, Svf), Snm, Spd, Snt)) H locs → lv_has ls 3 [(0, .ref oS.1)] → W p l e ⟨1, 0, 0, 24⟩ s m args below meth c H locs 0 0 (MQ below (zPost G (zwS c3.1 oS ((Szr, Szf), (Svr, Svf'), Snm, Spd', Snt)) (some (.int r)) A) args s 0 0 A) (F0 m 13 ls [.int t2, .ref oS.1]) := by
    intro H locs ls hC hl
    obtain ⟨w3, hw3, hf⟩ := z_bind hf
    refine z_put S0 hC (ci := 2) (C := RX2) (T := TX2) (N := 5) (v := .int t2) jX2_tread_X2 tyX2 tyX2_ok nmX2 0 rfl rfl 3 (by decide) kX2_tread_46 rfl rfl (zbool_spec hw3) (zbool_fits hw3) (Nat.le_of_ble_eq_true rfl) dX2_tread_13 (ws2 := (zwS c3.1 oS ((Szr, Szf), (Svr, Svf), Snm, t2, Snt))) rfl (fun H locs hC => ?_)
    refine lv_aload_n hx hb dX2_tread_16 rfl (lv_at hl 0 rfl) ?_
    refine z_get S0 hC (ci := 2) (C := RX2) (T := TX2) (N := 5) (v := .int t2) jX2_tread_X2 0 rfl rfl 3 (by decide) kX2_tread_46 rfl rfl dX2_tread_17 ?_
    refine lv_if_eq (tgt := 25) hx hb dX2_tread_20 (by decide) (fun cd4 => ?_) (fun cd4 => ?_)
    · replace hf := z_pos cd4 hf
      refine lv_iconst (v := 0) hx hb dX2_tread_25 (by decide) ?_
      refine lv_istore_n (lv' := [(1, .int 0), (0, .ref oS.1)]) hx hb dX2_tread_26 rfl hl (by decide) rfl (fun ls hl => ?_)
      refine lv_iconst (v := 0) hx hb dX2_tread_27 (by decide) ?_
      refine lv_istore_n (lv' := [(2, .int 0), (1, .int 0), (0, .ref oS.1)]) hx hb dX2_tread_28 rfl hl (by decide) rfl (fun ls hl => ?_)
      have L29 : ∀ (fu : Nat) (y1 : Int32) (y2 : Int32) (Szr : Int32) (Szf : (Nat → Int32)) (Svr : Int32) (Svf : (Nat → Int32)) (Snm : (Nat → Int32)) (Spd : Int32) (Snt : Int32) (tt : Int32 × Int32 × (Nat → Int32)), f_X2_tread_29 Svr fu y1 y2 Svf = some tt → ∀ (H : Heap) (locs : List Loc) (ls : Array Slot), zC G c3 A s (zwS c3.1 oS ((Szr, Szf), (Svr, Svf), Snm, Spd, Snt)) H locs → lv_has ls 3 [(0, .ref oS.1), (1, .int y1), (2, .int y2)] → (∀ (H : Heap) (locs : List Loc) (ls : Array Slot), zC G c3 A s (zwS c3.1 oS ((Szr, Szf), (Svr, tt.2.2), Snm, Spd, Snt)) H locs → lv_has ls 3 [(0, .ref oS.1), (1, .int tt.1), (2, .int tt.2.1)] → W p l e ⟨1, 0, 0, 24⟩ s m args below meth c H locs 0 0 (MQ below (zPost G (zwS c3.1 oS ((Szr, Szf), (Svr, Svf'), Snm, Spd', Snt)) (some (.int r)) A) args s 0 0 A) (F0 m 72 ls [])) → W p l e ⟨1, 0, 0, 24⟩ s m args below meth c H locs 0 0 (MQ below (zPost G (zwS c3.1 oS ((Szr, Szf), (Svr, Svf'), Snm, Spd', Snt)) (some (.int r)) A) args s 0 0 A) (F0 m 29 ls []) := by
        intro fu
        induction fu with
        | zero =>
          intro y1 y2 Szr Szf Svr Svf Snm Spd Snt tt hf H locs ls hC hl hK
          exact (z_none hf).elim
        | succ fu ih29 =>
          intro y1 y2 Szr Szf Svr Svf Snm Spd Snt tt hf H locs ls hC hl hK
          replace hf := (f_X2_tread_29_s Svr y1 y2 Svf fu).symm.trans hf
          refine lv_iload_n hx hb dX2_tread_29 rfl (lv_at hl 2 rfl) ?_
          refine lv_aload_n hx hb dX2_tread_30 rfl (lv_at hl 0 rfl) ?_
          refine z_get S0 hC (ci := 2) (C := RX2) (T := TX2) (N := 5) (v := .ref oS.2.2.2.1) jX2_tread_X2 0 rfl rfl 1 (by decide) kX2_tread_20 rfl rfl dX2_tread_31 ?_
          obtain ⟨r6, hr6, hf⟩ := z_bind hf
          refine z_callPi (z_runV (n := 0) (rest := [.int y2]) (As := []) S0 hC (c_X4_rows l G c3 oS.2.2.2 56 (Svr, Svf) hr6) [4, 5] (by decide) rfl gX2_tread_X4_rows rfl rfl rfl (by decide +kernel) ⟨Nat.le_of_ble_eq_true rfl, Nat.le_of_ble_eq_true rfl⟩ (ci := 4) (q0 := 4) rfl rfl rfl hl.1 rfl (Nat.le_of_ble_eq_true rfl) dX2_tread_34) hC [4, 5] rfl (fun H locs hC => ?_)
          refine lv_icmp_ge (tgt := 72) hx hb dX2_tread_37 (by decide) (fun cd7 => ?_) (fun cd7 => ?_)
          · replace hf := z_pos cd7 hf
            have e1 := z_s1 hf
            subst e1
            exact hK H locs ls hC (lv_sub hl [0, 1, 2] rfl)
          · replace hf := z_neg cd7 hf
            refine lv_aload_n hx hb dX2_tread_40 rfl (lv_at hl 0 rfl) ?_
            refine z_get S0 hC (ci := 2) (C := RX2) (T := TX2) (N := 5) (v := .ref oS.2.2.2.1) jX2_tread_X2 0 rfl rfl 1 (by decide) kX2_tread_20 rfl rfl dX2_tread_41 ?_
            refine lv_iload_n hx hb dX2_tread_44 rfl (lv_at hl 2 rfl) ?_
            refine lv_iconst (v := 5) hx hb dX2_tread_45 (by decide) ?_
            obtain ⟨r8, hr8, hf⟩ := z_bind hf
            refine z_callPi (z_runV (n := 2) (rest := []) (As := [.int y2, .int 5]) S0 hC (c_X4_get l G c3 oS.2.2.2 56 (Svr, Svf) y2 5 hr8) [4, 5] (by decide) rfl gX2_tread_X4_get rfl rfl rfl (by decide +kernel) ⟨Nat.le_of_ble_eq_true rfl, Nat.le_of_ble_eq_true rfl⟩ (ci := 4) (q0 := 4) rfl rfl rfl hl.1 rfl (Nat.le_of_ble_eq_true rfl) dX2_tread_46) hC [4, 5] rfl (fun H locs hC => ?_)
            refine lv_iconst (v := 1) hx hb dX2_tread_49 (by decide) ?_
            obtain ⟨t10, ht10, hf⟩ := z_bind hf
            have Jt10 : ∀ (H : Heap) (locs : List Loc) (ls : Array Slot), zC G c3 A s (zwS c3.1 oS ((Szr, Szf), (Svr, t10.2), Snm, Spd, Snt)) H locs → lv_has ls 3 [(0, .ref oS.1), (1, .int t10.1), (2, .int y2)] → W p l e ⟨1, 0, 0, 24⟩ s m args below meth c H locs 0 0 (MQ below (zPost G (zwS c3.1 oS ((Szr, Szf), (Svr, Svf'), Snm, Spd', Snt)) (some (.int r)) A) args s 0 0 A) (F0 m 66 ls []) := by
              intro H locs ls hC hl
              refine lv_iinc (v := (y2 + 1)) (lv' := [(2, .int (y2 + 1)), (0, .ref oS.1), (1, .int t10.1)]) hx hb dX2_tread_66 hl (k := 2) rfl rfl (by decide) rfl (fun ls hl => ?_)
              refine lv_goto (tgt := 29) hx hb dX2_tread_69 (by decide) ?_
              exact ih29 t10.1 (y2 + 1) Szr Szf Svr t10.2 Snm Spd Snt _ hf H locs ls hC (lv_sub hl [1, 2, 0] rfl) hK
            refine lv_icmp_ne (tgt := 66) hx hb dX2_tread_50 (by decide) (fun cd9 => ?_) (fun cd9 => ?_)
            · replace ht10 := z_neg cd9 ht10
              have e1 := z_s1 ht10
              subst e1
              exact Jt10 H locs ls hC (lv_sub hl [0, 1, 2] rfl)
            · replace ht10 := z_pos cd9 ht10
              refine lv_aload_n hx hb dX2_tread_53 rfl (lv_at hl 0 rfl) ?_
              refine z_get S0 hC (ci := 2) (C := RX2) (T := TX2) (N := 5) (v := .ref oS.2.2.2.1) jX2_tread_X2 0 rfl rfl 1 (by decide) kX2_tread_20 rfl rfl dX2_tread_54 ?_
              refine lv_iload_n hx hb dX2_tread_57 rfl (lv_at hl 2 rfl) ?_
              refine lv_iconst (v := 5) hx hb dX2_tread_58 (by decide) ?_
              refine lv_iconst (v := 2) hx hb dX2_tread_59 (by decide) ?_
              obtain ⟨r11, hr11, ht10⟩ := z_bind ht10
              refine z_callv (z_runV (n := 3) (rest := []) (As := [.int y2, .int 5, .int 2]) S0 hC (c_X4_put l G c3 oS.2.2.2 56 (Svr, Svf) y2 5 2 hr11) [4, 5] (by decide) rfl gX2_tread_X4_put rfl rfl rfl (by decide +kernel) ⟨Nat.le_of_ble_eq_true rfl, Nat.le_of_ble_eq_true rfl⟩ (ci := 4) (q0 := 4) rfl rfl rfl hl.1 rfl (Nat.le_of_ble_eq_true rfl) dX2_tread_60) hC [4, 5] [0, 1, 2, 3] [0, 1, 2, 3, 4, 5] rfl (wr := [(oS.1, .inr (2, [.ref oS.2.2.1.1, .ref oS.2.2.2.1, .ref oS.2.1, .int Spd, .int Snt])), (oS.2.1, .inl (c3.1, 13, .inl Snm)), (oS.2.2.1.1, .inr (4, [.int 7, .ref oS.2.2.1.2, .int Szr])), (oS.2.2.1.2, .inl (c3.1, 70, .inl Szf))]) rfl (by decide) (by decide) (ws2 := (zwS c3.1 oS ((Szr, Szf), (Svr, r11), Snm, Spd, Snt))) rfl (by decide) (fun H locs hC => ?_)
              refine lv_iinc (v := (y1 + 1)) (lv' := [(1, .int (y1 + 1)), (0, .ref oS.1), (2, .int y2)]) hx hb dX2_tread_63 hl (k := 1) rfl rfl (by decide) rfl (fun ls hl => ?_)
              have e1 := z_s1 ht10
              subst e1
              exact Jt10 H locs ls hC (lv_sub hl [1, 0, 2] rfl)
      obtain ⟨t12, ht12, hf⟩ := z_bind hf
      refine L29 zF 0 0 Szr Szf Svr Svf Snm t2 Snt t12 ht12 H locs ls hC (lv_sub hl [2, 1, 0] rfl) (fun H locs ls hC hl => ?_)
      refine lv_iload_n hx hb dX2_tread_72 rfl (lv_at hl 1 rfl) ?_
      obtain ⟨e1, e2, e3⟩ := z_s3 hf
      subst e1
      subst e2
      subst e3
      exact z_iret S0 hr hlk hC dX2_tread_73
    · replace hf := z_neg cd4 hf
      refine lv_iconst (v := 0) hx hb dX2_tread_23 (by decide) ?_
      obtain ⟨e1, e2, e3⟩ := z_s3 hf
      subst e1
      subst e2
      subst e3
      exact z_iret S0 hr hlk hC dX2_tread_24
  refine lv_if_ne (tgt := 12) hx hb dX2_tread_5 (by decide) (fun cd1 => ?_) (fun cd1 => ?_)
  · replace ht2 := z_neg cd1 ht2
    refine lv_iconst (v := 0) hx hb dX2_tread_12 (by decide) ?_
    have e1 := z_s1 ht2
    subst e1
    exact Jt2 H locs ls hC (lv_sub hl [0] rfl)
  · replace ht2 := z_pos cd1 ht2
    refine lv_iconst (v := 1) hx hb dX2_tread_8 (by decide) ?_
    refine lv_goto (tgt := 13) hx hb dX2_tread_9 (by decide) ?_
    have e1 := z_s1 ht2
    subst e1
    exact Jt2 H locs ls hC (lv_sub hl [0] rfl)

-- X2 fadeOf
def f_X2_fadeOf (Svr : Int32) (Svf : (Nat → Int32)) (Snm : (Nat → Int32)) (p1 : Int32) : Option (Int32) :=
  (f_X4_get 56 Svr Svf p1 5).bind fun r1 => if r1 = 2 then
    (f_X2_number Snm 8).bind fun r3 => some (r3)
  else
    some (1)

theorem kX2_fadeOf_20 : Cond.fieldLink RX2 20 "ZoneSampler$State" "voices" "LZoneSampler$Table;" ∈ wsX2_fadeOf := by decide +kernel
theorem jX2_fadeOf_X2 : ∀ w ∈ u_ws RX2 TX2 5, w ∈ wsX2_fadeOf := by decide +kernel
set_option maxHeartbeats 4000000 in
set_option maxRecDepth 100000 in
theorem c_X2_fadeOf (l : Launch) (G : va_G) (c3 : zT3) (oS : zR6) (BS : zSt) (p1 : Int32) {r : Int32} (hf : f_X2_fadeOf BS.2.1.1 BS.2.1.2 BS.2.2.1 p1 = some (r)) : zM l yX2_fadeOf wsX2_fadeOf ⟨1, 0, 0, 23⟩ G c3 (zwS c3.1 oS ((BS.1.1, BS.1.2), (BS.2.1.1, BS.2.1.2), BS.2.2.1, BS.2.2.2.1, BS.2.2.2.2)) [.ref oS.1, .int p1] (some (.int r)) (zwS c3.1 oS ((BS.1.1, BS.1.2), (BS.2.1.1, BS.2.1.2), BS.2.2.1, BS.2.2.2.1, BS.2.2.2.2)) := by
  obtain ⟨⟨Szr, Szf⟩, ⟨Svr, Svf⟩, Snm, Spd, Snt⟩ := BS
  have hf : f_X2_fadeOf Svr Svf Snm p1 = some (r) := hf
  show zM l yX2_fadeOf wsX2_fadeOf ⟨1, 0, 0, 23⟩ G c3 (zwS c3.1 oS ((Szr, Szf), (Svr, Svf), Snm, Spd, Snt)) [.ref oS.1, .int p1] (some (.int r)) (zwS c3.1 oS ((Szr, Szf), (Svr, Svf), Snm, Spd, Snt))
  refine zM.of (cc := cX2_fadeOf) (maxL := 2) (ret := (some .int)) (by decide) rfl (Nat.le_of_ble_eq_true rfl) ?_
  intro p e s m args below meth c A ls S0 hr hlk hC hl
  have S0 : CallFix p m c cX2_fadeOf 2 s args wsX2_fadeOf RX2 := S0
  have hl : lv_has ls 2 [(0, .ref oS.1), (1, .int p1)] := hl
  have hx := S0.1
  have hb := S0.2.1
  obtain ⟨H, hH⟩ : ∃ y, y = s.heap := ⟨_, rfl⟩
  rw [← hH] at hC ⊢
  obtain ⟨locs, hlo⟩ : ∃ y : List Loc, y = [] := ⟨_, rfl⟩
  rw [← hlo] at hC ⊢
  clear hH hlo
  unfold f_X2_fadeOf at hf
  refine lv_aload_n hx hb dX2_fadeOf_0 rfl (lv_at hl 0 rfl) ?_
  refine z_get S0 hC (ci := 2) (C := RX2) (T := TX2) (N := 5) (v := .ref oS.2.2.2.1) jX2_fadeOf_X2 0 rfl rfl 1 (by decide) kX2_fadeOf_20 rfl rfl dX2_fadeOf_1 ?_
  refine lv_iload_n hx hb dX2_fadeOf_4 rfl (lv_at hl 1 rfl) ?_
  refine lv_iconst (v := 5) hx hb dX2_fadeOf_5 (by decide) ?_
  obtain ⟨r1, hr1, hf⟩ := z_bind hf
  refine z_callPi (z_runV (n := 2) (rest := []) (As := [.int p1, .int 5]) S0 hC (c_X4_get l G c3 oS.2.2.2 56 (Svr, Svf) p1 5 hr1) [4, 5] (by decide) rfl gX2_fadeOf_X4_get rfl rfl rfl (by decide +kernel) ⟨Nat.le_of_ble_eq_true rfl, Nat.le_of_ble_eq_true rfl⟩ (ci := 4) (q0 := 4) rfl rfl rfl hl.1 rfl (Nat.le_of_ble_eq_true rfl) dX2_fadeOf_6) hC [4, 5] rfl (fun H locs hC => ?_)
  refine lv_iconst (v := 2) hx hb dX2_fadeOf_9 (by decide) ?_
  refine lv_icmp_ne (tgt := 22) hx hb dX2_fadeOf_10 (by decide) (fun cd2 => ?_) (fun cd2 => ?_)
  · replace hf := z_neg cd2 hf
    refine lv_iconst (v := 1) hx hb dX2_fadeOf_22 (by decide) ?_
    have e1 := z_s1 hf
    subst e1
    exact z_iret S0 hr hlk hC dX2_fadeOf_23
  · replace hf := z_pos cd2 hf
    refine lv_aload_n hx hb dX2_fadeOf_13 rfl (lv_at hl 0 rfl) ?_
    refine lv_bipush (v := 8) hx hb dX2_fadeOf_14 (by decide) ?_
    obtain ⟨r3, hr3, hf⟩ := z_bind hf
    refine z_callPi (z_runV (n := 1) (rest := []) (As := [.int 8]) S0 hC (c_X2_number l G c3 oS ((Szr, Szf), (Svr, Svf), Snm, Spd, Snt) 8 hr3) [0, 1, 2, 3, 4, 5] (by decide) rfl gX2_fadeOf_X2_number rfl rfl rfl (by decide +kernel) ⟨Nat.le_of_ble_eq_true rfl, Nat.le_of_ble_eq_true rfl⟩ (ci := 2) (q0 := 0) rfl rfl rfl hl.1 rfl (Nat.le_of_ble_eq_true rfl) dX2_fadeOf_16) hC [0, 1, 2, 3, 4, 5] rfl (fun H locs hC => ?_)
    refine lv_goto (tgt := 23) hx hb dX2_fadeOf_19 (by decide) ?_
    have e1 := z_s1 hf
    subst e1
    exact z_iret S0 hr hlk hC dX2_fadeOf_23

-- X2 ticksLeft
def f_X2_ticksLeft (Szr : Int32) (Szf : (Nat → Int32)) (Svr : Int32) (Svf : (Nat → Int32)) (Snm : (Nat → Int32)) (p1 : Int32) : Option (Int32) :=
  (f_X2_fadeOf Svr Svf Snm p1).bind fun r1 => (f_X4_get 56 Svr Svf p1 3).bind fun r2 => (zdiv ((r2 + (if 1 < r1 then r1 else 1)) - 1) (if 1 < r1 then r1 else 1)).bind fun x3 => (f_X4_get 56 Svr Svf p1 0).bind fun r4 => (f_X4_get 70 Szr Szf r4 6).bind fun r5 => (f_X4_get 56 Svr Svf p1 4).bind fun r6 => some ((if 1 < (if (r5 - r6) < x3 then (r5 - r6) else x3) then (if (r5 - r6) < x3 then (r5 - r6) else x3) else 1))

theorem kX2_ticksLeft_114 : Cond.methodLink RX2 114 Lib.Math.max.name ∈ wsX2_ticksLeft := by decide +kernel
theorem kX2_ticksLeft_114st : Cond.static Lib.Math.max.name ∈ wsX2_ticksLeft := by decide +kernel
theorem kX2_ticksLeft_114in : Cond.initialized "java/lang/Math" ∈ wsX2_ticksLeft := by decide +kernel
theorem kX2_ticksLeft_114co : Cond.code Lib.Math.max.name Lib.Math.max.code 2 (some .int) ∈ wsX2_ticksLeft := by decide +kernel
theorem kX2_ticksLeft_20 : Cond.fieldLink RX2 20 "ZoneSampler$State" "voices" "LZoneSampler$Table;" ∈ wsX2_ticksLeft := by decide +kernel
theorem kX2_ticksLeft_14 : Cond.fieldLink RX2 14 "ZoneSampler$State" "zones" "LZoneSampler$Table;" ∈ wsX2_ticksLeft := by decide +kernel
theorem kX2_ticksLeft_34 : Cond.methodLink RX2 34 Lib.Math.min.name ∈ wsX2_ticksLeft := by decide +kernel
theorem kX2_ticksLeft_34st : Cond.static Lib.Math.min.name ∈ wsX2_ticksLeft := by decide +kernel
theorem kX2_ticksLeft_34in : Cond.initialized "java/lang/Math" ∈ wsX2_ticksLeft := by decide +kernel
theorem kX2_ticksLeft_34co : Cond.code Lib.Math.min.name Lib.Math.min.code 2 (some .int) ∈ wsX2_ticksLeft := by decide +kernel
theorem jX2_ticksLeft_X2 : ∀ w ∈ u_ws RX2 TX2 5, w ∈ wsX2_ticksLeft := by decide +kernel
set_option maxHeartbeats 4000000 in
set_option maxRecDepth 100000 in
theorem c_X2_ticksLeft (l : Launch) (G : va_G) (c3 : zT3) (oS : zR6) (BS : zSt) (p1 : Int32) {r : Int32} (hf : f_X2_ticksLeft BS.1.1 BS.1.2 BS.2.1.1 BS.2.1.2 BS.2.2.1 p1 = some (r)) : zM l yX2_ticksLeft wsX2_ticksLeft ⟨2, 0, 0, 44⟩ G c3 (zwS c3.1 oS ((BS.1.1, BS.1.2), (BS.2.1.1, BS.2.1.2), BS.2.2.1, BS.2.2.2.1, BS.2.2.2.2)) [.ref oS.1, .int p1] (some (.int r)) (zwS c3.1 oS ((BS.1.1, BS.1.2), (BS.2.1.1, BS.2.1.2), BS.2.2.1, BS.2.2.2.1, BS.2.2.2.2)) := by
  obtain ⟨⟨Szr, Szf⟩, ⟨Svr, Svf⟩, Snm, Spd, Snt⟩ := BS
  have hf : f_X2_ticksLeft Szr Szf Svr Svf Snm p1 = some (r) := hf
  show zM l yX2_ticksLeft wsX2_ticksLeft ⟨2, 0, 0, 44⟩ G c3 (zwS c3.1 oS ((Szr, Szf), (Svr, Svf), Snm, Spd, Snt)) [.ref oS.1, .int p1] (some (.int r)) (zwS c3.1 oS ((Szr, Szf), (Svr, Svf), Snm, Spd, Snt))
  refine zM.of (cc := cX2_ticksLeft) (maxL := 5) (ret := (some .int)) (by decide) rfl (Nat.le_of_ble_eq_true rfl) ?_
  intro p e s m args below meth c A ls S0 hr hlk hC hl
  have S0 : CallFix p m c cX2_ticksLeft 5 s args wsX2_ticksLeft RX2 := S0
  have hl : lv_has ls 5 [(0, .ref oS.1), (1, .int p1)] := hl
  have hx := S0.1
  have hb := S0.2.1
  obtain ⟨H, hH⟩ : ∃ y, y = s.heap := ⟨_, rfl⟩
  rw [← hH] at hC ⊢
  obtain ⟨locs, hlo⟩ : ∃ y : List Loc, y = [] := ⟨_, rfl⟩
  rw [← hlo] at hC ⊢
  clear hH hlo
  unfold f_X2_ticksLeft at hf
  refine lv_iconst (v := 1) hx hb dX2_ticksLeft_0 (by decide) ?_
  refine lv_aload_n hx hb dX2_ticksLeft_1 rfl (lv_at hl 0 rfl) ?_
  refine lv_iload_n hx hb dX2_ticksLeft_2 rfl (lv_at hl 1 rfl) ?_
  obtain ⟨r1, hr1, hf⟩ := z_bind hf
  refine z_callPi (z_runV (n := 1) (rest := [.int 1]) (As := [.int p1]) S0 hC (c_X2_fadeOf l G c3 oS ((Szr, Szf), (Svr, Svf), Snm, Spd, Snt) p1 hr1) [0, 1, 2, 3, 4, 5] (by decide) rfl gX2_ticksLeft_X2_fadeOf rfl rfl rfl (by decide +kernel) ⟨Nat.le_of_ble_eq_true rfl, Nat.le_of_ble_eq_true rfl⟩ (ci := 2) (q0 := 0) rfl rfl rfl hl.1 rfl (Nat.le_of_ble_eq_true rfl) dX2_ticksLeft_3) hC [0, 1, 2, 3, 4, 5] rfl (fun H locs hC => ?_)
  refine z_mmax S0 hl.1 kX2_ticksLeft_114 kX2_ticksLeft_114st kX2_ticksLeft_114in kX2_ticksLeft_114co (Nat.le_of_ble_eq_true rfl) (Nat.le_of_ble_eq_true rfl) dX2_ticksLeft_6 ?_
  refine lv_istore_n (lv' := [(2, .int (if 1 < r1 then r1 else 1)), (0, .ref oS.1), (1, .int p1)]) hx hb dX2_ticksLeft_9 rfl hl (by decide) rfl (fun ls hl => ?_)
  refine lv_aload_n hx hb dX2_ticksLeft_10 rfl (lv_at hl 1 rfl) ?_
  refine z_get S0 hC (ci := 2) (C := RX2) (T := TX2) (N := 5) (v := .ref oS.2.2.2.1) jX2_ticksLeft_X2 0 rfl rfl 1 (by decide) kX2_ticksLeft_20 rfl rfl dX2_ticksLeft_11 ?_
  refine lv_iload_n hx hb dX2_ticksLeft_14 rfl (lv_at hl 2 rfl) ?_
  refine lv_iconst (v := 3) hx hb dX2_ticksLeft_15 (by decide) ?_
  obtain ⟨r2, hr2, hf⟩ := z_bind hf
  refine z_callPi (z_runV (n := 2) (rest := []) (As := [.int p1, .int 3]) S0 hC (c_X4_get l G c3 oS.2.2.2 56 (Svr, Svf) p1 3 hr2) [4, 5] (by decide) rfl gX2_ticksLeft_X4_get rfl rfl rfl (by decide +kernel) ⟨Nat.le_of_ble_eq_true rfl, Nat.le_of_ble_eq_true rfl⟩ (ci := 4) (q0 := 4) rfl rfl rfl hl.1 rfl (Nat.le_of_ble_eq_true rfl) dX2_ticksLeft_16) hC [4, 5] rfl (fun H locs hC => ?_)
  refine lv_iload_n hx hb dX2_ticksLeft_19 rfl (lv_at hl 0 rfl) ?_
  refine lv_iadd hx hb dX2_ticksLeft_20 ?_
  refine lv_iconst (v := 1) hx hb dX2_ticksLeft_21 (by decide) ?_
  refine lv_isub hx hb dX2_ticksLeft_22 ?_
  refine lv_iload_n hx hb dX2_ticksLeft_23 rfl (lv_at hl 0 rfl) ?_
  obtain ⟨x3, hx3, hf⟩ := z_bind hf
  refine z_idiv S0 hx3 dX2_ticksLeft_24 ?_
  refine lv_istore_n (lv' := [(3, .int x3), (2, .int (if 1 < r1 then r1 else 1)), (0, .ref oS.1), (1, .int p1)]) hx hb dX2_ticksLeft_25 rfl hl (by decide) rfl (fun ls hl => ?_)
  refine lv_aload_n hx hb dX2_ticksLeft_26 rfl (lv_at hl 2 rfl) ?_
  refine z_get S0 hC (ci := 2) (C := RX2) (T := TX2) (N := 5) (v := .ref oS.2.2.1.1) jX2_ticksLeft_X2 0 rfl rfl 0 (by decide) kX2_ticksLeft_14 rfl rfl dX2_ticksLeft_27 ?_
  refine lv_aload_n hx hb dX2_ticksLeft_30 rfl (lv_at hl 2 rfl) ?_
  refine z_get S0 hC (ci := 2) (C := RX2) (T := TX2) (N := 5) (v := .ref oS.2.2.2.1) jX2_ticksLeft_X2 0 rfl rfl 1 (by decide) kX2_ticksLeft_20 rfl rfl dX2_ticksLeft_31 ?_
  refine lv_iload_n hx hb dX2_ticksLeft_34 rfl (lv_at hl 3 rfl) ?_
  refine lv_iconst (v := 0) hx hb dX2_ticksLeft_35 (by decide) ?_
  obtain ⟨r4, hr4, hf⟩ := z_bind hf
  refine z_callPi (z_runV (n := 2) (rest := [.ref oS.2.2.1.1]) (As := [.int p1, .int 0]) S0 hC (c_X4_get l G c3 oS.2.2.2 56 (Svr, Svf) p1 0 hr4) [4, 5] (by decide) rfl gX2_ticksLeft_X4_get rfl rfl rfl (by decide +kernel) ⟨Nat.le_of_ble_eq_true rfl, Nat.le_of_ble_eq_true rfl⟩ (ci := 4) (q0 := 4) rfl rfl rfl hl.1 rfl (Nat.le_of_ble_eq_true rfl) dX2_ticksLeft_36) hC [4, 5] rfl (fun H locs hC => ?_)
  refine lv_bipush (v := 6) hx hb dX2_ticksLeft_39 (by decide) ?_
  obtain ⟨r5, hr5, hf⟩ := z_bind hf
  refine z_callPi (z_runV (n := 2) (rest := []) (As := [.int r4, .int 6]) S0 hC (c_X4_get l G c3 oS.2.2.1 70 (Szr, Szf) r4 6 hr5) [2, 3] (by decide) rfl gX2_ticksLeft_X4_get rfl rfl rfl (by decide +kernel) ⟨Nat.le_of_ble_eq_true rfl, Nat.le_of_ble_eq_true rfl⟩ (ci := 4) (q0 := 2) rfl rfl rfl hl.1 rfl (Nat.le_of_ble_eq_true rfl) dX2_ticksLeft_41) hC [2, 3] rfl (fun H locs hC => ?_)
  refine lv_aload_n hx hb dX2_ticksLeft_44 rfl (lv_at hl 2 rfl) ?_
  refine z_get S0 hC (ci := 2) (C := RX2) (T := TX2) (N := 5) (v := .ref oS.2.2.2.1) jX2_ticksLeft_X2 0 rfl rfl 1 (by decide) kX2_ticksLeft_20 rfl rfl dX2_ticksLeft_45 ?_
  refine lv_iload_n hx hb dX2_ticksLeft_48 rfl (lv_at hl 3 rfl) ?_
  refine lv_iconst (v := 4) hx hb dX2_ticksLeft_49 (by decide) ?_
  obtain ⟨r6, hr6, hf⟩ := z_bind hf
  refine z_callPi (z_runV (n := 2) (rest := [.int r5]) (As := [.int p1, .int 4]) S0 hC (c_X4_get l G c3 oS.2.2.2 56 (Svr, Svf) p1 4 hr6) [4, 5] (by decide) rfl gX2_ticksLeft_X4_get rfl rfl rfl (by decide +kernel) ⟨Nat.le_of_ble_eq_true rfl, Nat.le_of_ble_eq_true rfl⟩ (ci := 4) (q0 := 4) rfl rfl rfl hl.1 rfl (Nat.le_of_ble_eq_true rfl) dX2_ticksLeft_50) hC [4, 5] rfl (fun H locs hC => ?_)
  refine lv_isub hx hb dX2_ticksLeft_53 ?_
  refine lv_istore (lv' := [(4, .int (r5 - r6)), (3, .int x3), (2, .int (if 1 < r1 then r1 else 1)), (0, .ref oS.1), (1, .int p1)]) hx hb dX2_ticksLeft_54 hl (by decide) rfl (fun ls hl => ?_)
  refine lv_iconst (v := 1) hx hb dX2_ticksLeft_56 (by decide) ?_
  refine lv_iload_n hx hb dX2_ticksLeft_57 rfl (lv_at hl 1 rfl) ?_
  refine lv_iload hx hb dX2_ticksLeft_58 (lv_at hl 0 rfl) ?_
  refine z_mmin S0 hl.1 kX2_ticksLeft_34 kX2_ticksLeft_34st kX2_ticksLeft_34in kX2_ticksLeft_34co (Nat.le_of_ble_eq_true rfl) (Nat.le_of_ble_eq_true rfl) dX2_ticksLeft_60 ?_
  refine z_mmax S0 hl.1 kX2_ticksLeft_114 kX2_ticksLeft_114st kX2_ticksLeft_114in kX2_ticksLeft_114co (Nat.le_of_ble_eq_true rfl) (Nat.le_of_ble_eq_true rfl) dX2_ticksLeft_63 ?_
  have e1 := z_s1 hf
  subst e1
  exact z_iret S0 hr hlk hC dX2_ticksLeft_66

-- X2 stopAll
def f_X2_stopAll (Svr : Int32) (Snm : (Nat → Int32)) : Option (Int32 × Int32 × (Nat → Int32)) :=
  (f_X4_rows 56 Svr).bind fun r1 => (f_X4_removeAll 56 Svr).bind fun r2 => (f_X2_grow Snm 5 r1).bind fun r3 => some (r1, r2, r3)

theorem kX2_stopAll_20 : Cond.fieldLink RX2 20 "ZoneSampler$State" "voices" "LZoneSampler$Table;" ∈ wsX2_stopAll := by decide +kernel
theorem jX2_stopAll_X2 : ∀ w ∈ u_ws RX2 TX2 5, w ∈ wsX2_stopAll := by decide +kernel
set_option maxHeartbeats 4000000 in
set_option maxRecDepth 100000 in
theorem c_X2_stopAll (l : Launch) (G : va_G) (c3 : zT3) (oS : zR6) (BS : zSt) {r : Int32} {Svr' : Int32} {Snm' : (Nat → Int32)} (hf : f_X2_stopAll BS.2.1.1 BS.2.2.1 = some (r, Svr', Snm')) : zM l yX2_stopAll wsX2_stopAll ⟨2, 0, 0, 44⟩ G c3 (zwS c3.1 oS ((BS.1.1, BS.1.2), (BS.2.1.1, BS.2.1.2), BS.2.2.1, BS.2.2.2.1, BS.2.2.2.2)) [.ref oS.1] (some (.int r)) (zwS c3.1 oS ((BS.1.1, BS.1.2), (Svr', BS.2.1.2), Snm', BS.2.2.2.1, BS.2.2.2.2)) := by
  obtain ⟨⟨Szr, Szf⟩, ⟨Svr, Svf⟩, Snm, Spd, Snt⟩ := BS
  have hf : f_X2_stopAll Svr Snm = some (r, Svr', Snm') := hf
  show zM l yX2_stopAll wsX2_stopAll ⟨2, 0, 0, 44⟩ G c3 (zwS c3.1 oS ((Szr, Szf), (Svr, Svf), Snm, Spd, Snt)) [.ref oS.1] (some (.int r)) (zwS c3.1 oS ((Szr, Szf), (Svr', Svf), Snm', Spd, Snt))
  refine zM.of (cc := cX2_stopAll) (maxL := 2) (ret := (some .int)) (by decide) rfl (Nat.le_of_ble_eq_true rfl) ?_
  intro p e s m args below meth c A ls S0 hr hlk hC hl
  have S0 : CallFix p m c cX2_stopAll 2 s args wsX2_stopAll RX2 := S0
  have hl : lv_has ls 2 [(0, .ref oS.1)] := hl
  have hx := S0.1
  have hb := S0.2.1
  obtain ⟨H, hH⟩ : ∃ y, y = s.heap := ⟨_, rfl⟩
  rw [← hH] at hC ⊢
  obtain ⟨locs, hlo⟩ : ∃ y : List Loc, y = [] := ⟨_, rfl⟩
  rw [← hlo] at hC ⊢
  clear hH hlo
  unfold f_X2_stopAll at hf
  refine lv_aload_n hx hb dX2_stopAll_0 rfl (lv_at hl 0 rfl) ?_
  refine z_get S0 hC (ci := 2) (C := RX2) (T := TX2) (N := 5) (v := .ref oS.2.2.2.1) jX2_stopAll_X2 0 rfl rfl 1 (by decide) kX2_stopAll_20 rfl rfl dX2_stopAll_1 ?_
  obtain ⟨r1, hr1, hf⟩ := z_bind hf
  refine z_callPi (z_runV (n := 0) (rest := []) (As := []) S0 hC (c_X4_rows l G c3 oS.2.2.2 56 (Svr, Svf) hr1) [4, 5] (by decide) rfl gX2_stopAll_X4_rows rfl rfl rfl (by decide +kernel) ⟨Nat.le_of_ble_eq_true rfl, Nat.le_of_ble_eq_true rfl⟩ (ci := 4) (q0 := 4) rfl rfl rfl hl.1 rfl (Nat.le_of_ble_eq_true rfl) dX2_stopAll_4) hC [4, 5] rfl (fun H locs hC => ?_)
  refine lv_istore_n (lv' := [(1, .int r1), (0, .ref oS.1)]) hx hb dX2_stopAll_7 rfl hl (by decide) rfl (fun ls hl => ?_)
  refine lv_aload_n hx hb dX2_stopAll_8 rfl (lv_at hl 1 rfl) ?_
  refine z_get S0 hC (ci := 2) (C := RX2) (T := TX2) (N := 5) (v := .ref oS.2.2.2.1) jX2_stopAll_X2 0 rfl rfl 1 (by decide) kX2_stopAll_20 rfl rfl dX2_stopAll_9 ?_
  obtain ⟨r2, hr2, hf⟩ := z_bind hf
  refine z_callv (z_runV (n := 0) (rest := []) (As := []) S0 hC (c_X4_removeAll l G c3 oS.2.2.2 56 (Svr, Svf) hr2) [4, 5] (by decide) rfl gX2_stopAll_X4_removeAll rfl rfl rfl (by decide +kernel) ⟨Nat.le_of_ble_eq_true rfl, Nat.le_of_ble_eq_true rfl⟩ (ci := 4) (q0 := 4) rfl rfl rfl hl.1 rfl (Nat.le_of_ble_eq_true rfl) dX2_stopAll_12) hC [4, 5] [0, 1, 2, 3] [0, 1, 2, 3, 4, 5] rfl (wr := [(oS.1, .inr (2, [.ref oS.2.2.1.1, .ref oS.2.2.2.1, .ref oS.2.1, .int Spd, .int Snt])), (oS.2.1, .inl (c3.1, 13, .inl Snm)), (oS.2.2.1.1, .inr (4, [.int 7, .ref oS.2.2.1.2, .int Szr])), (oS.2.2.1.2, .inl (c3.1, 70, .inl Szf))]) rfl (by decide) (by decide) (ws2 := (zwS c3.1 oS ((Szr, Szf), (r2, Svf), Snm, Spd, Snt))) rfl (by decide) (fun H locs hC => ?_)
  refine lv_aload_n hx hb dX2_stopAll_15 rfl (lv_at hl 1 rfl) ?_
  refine lv_iconst (v := 5) hx hb dX2_stopAll_16 (by decide) ?_
  refine lv_iload_n hx hb dX2_stopAll_17 rfl (lv_at hl 0 rfl) ?_
  obtain ⟨r3, hr3, hf⟩ := z_bind hf
  refine z_callv (z_runV (n := 2) (rest := []) (As := [.int 5, .int r1]) S0 hC (c_X2_grow l G c3 oS ((Szr, Szf), (r2, Svf), Snm, Spd, Snt) 5 r1 hr3) [0, 1, 2, 3, 4, 5] (by decide) rfl gX2_stopAll_X2_grow rfl rfl rfl (by decide +kernel) ⟨Nat.le_of_ble_eq_true rfl, Nat.le_of_ble_eq_true rfl⟩ (ci := 2) (q0 := 0) rfl rfl rfl hl.1 rfl (Nat.le_of_ble_eq_true rfl) dX2_stopAll_18) hC [0, 1, 2, 3, 4, 5] [] [0, 1, 2, 3, 4, 5] rfl (wr := ([] : va_W)) rfl (by decide) (by decide) (ws2 := (zwS c3.1 oS ((Szr, Szf), (r2, Svf), r3, Spd, Snt))) rfl (by decide) (fun H locs hC => ?_)
  refine lv_iload_n hx hb dX2_stopAll_21 rfl (lv_at hl 0 rfl) ?_
  obtain ⟨e1, e2, e3⟩ := z_s3 hf
  subst e1
  subst e2
  subst e3
  exact z_iret S0 hr hlk hC dX2_stopAll_22

-- X2 addZone
def f_X2_addZone (Szr : Int32) (Szf : (Nat → Int32)) (p1 : Int32) (p2 : Int32) (p3 : Int32) (p4 : Int32) : Option (Int32 × Int32 × (Nat → Int32)) :=
  (f_X4_addRow 70 Szr).bind fun r1 => (f_X4_put 70 r1.2 Szf r1.1 0 p1).bind fun r2 => (f_X4_put 70 r1.2 r2 r1.1 1 p2).bind fun r3 => (f_X4_put 70 r1.2 r3 r1.1 2 p3).bind fun r4 => (f_X4_put 70 r1.2 r4 r1.1 3 p4).bind fun r5 => (f_X2_shapeZone r1.2 r5 r1.1 0 0 60).bind fun r6 => some (r1.1, r1.2, r6)

theorem kX2_addZone_14 : Cond.fieldLink RX2 14 "ZoneSampler$State" "zones" "LZoneSampler$Table;" ∈ wsX2_addZone := by decide +kernel
theorem jX2_addZone_X2 : ∀ w ∈ u_ws RX2 TX2 5, w ∈ wsX2_addZone := by decide +kernel
set_option maxHeartbeats 4000000 in
set_option maxRecDepth 100000 in
theorem c_X2_addZone (l : Launch) (G : va_G) (c3 : zT3) (oS : zR6) (BS : zSt) (p1 : Int32) (p2 : Int32) (p3 : Int32) (p4 : Int32) {r : Int32} {Szr' : Int32} {Szf' : (Nat → Int32)} (hf : f_X2_addZone BS.1.1 BS.1.2 p1 p2 p3 p4 = some (r, Szr', Szf')) : zM l yX2_addZone wsX2_addZone ⟨2, 0, 0, 48⟩ G c3 (zwS c3.1 oS ((BS.1.1, BS.1.2), (BS.2.1.1, BS.2.1.2), BS.2.2.1, BS.2.2.2.1, BS.2.2.2.2)) [.ref oS.1, .int p1, .int p2, .int p3, .int p4] (some (.int r)) (zwS c3.1 oS ((Szr', Szf'), (BS.2.1.1, BS.2.1.2), BS.2.2.1, BS.2.2.2.1, BS.2.2.2.2)) := by
  obtain ⟨⟨Szr, Szf⟩, ⟨Svr, Svf⟩, Snm, Spd, Snt⟩ := BS
  have hf : f_X2_addZone Szr Szf p1 p2 p3 p4 = some (r, Szr', Szf') := hf
  show zM l yX2_addZone wsX2_addZone ⟨2, 0, 0, 48⟩ G c3 (zwS c3.1 oS ((Szr, Szf), (Svr, Svf), Snm, Spd, Snt)) [.ref oS.1, .int p1, .int p2, .int p3, .int p4] (some (.int r)) (zwS c3.1 oS ((Szr', Szf'), (Svr, Svf), Snm, Spd, Snt))
  refine zM.of (cc := cX2_addZone) (maxL := 6) (ret := (some .int)) (by decide) rfl (Nat.le_of_ble_eq_true rfl) ?_
  intro p e s m args below meth c A ls S0 hr hlk hC hl
  have S0 : CallFix p m c cX2_addZone 6 s args wsX2_addZone RX2 := S0
  have hl : lv_has ls 6 [(0, .ref oS.1), (1, .int p1), (2, .int p2), (3, .int p3), (4, .int p4)] := hl
  have hx := S0.1
  have hb := S0.2.1
  obtain ⟨H, hH⟩ : ∃ y, y = s.heap := ⟨_, rfl⟩
  rw [← hH] at hC ⊢
  obtain ⟨locs, hlo⟩ : ∃ y : List Loc, y = [] := ⟨_, rfl⟩
  rw [← hlo] at hC ⊢
  clear hH hlo
  unfold f_X2_addZone at hf
  refine lv_aload_n hx hb dX2_addZone_0 rfl (lv_at hl 0 rfl) ?_
  refine z_get S0 hC (ci := 2) (C := RX2) (T := TX2) (N := 5) (v := .ref oS.2.2.1.1) jX2_addZone_X2 0 rfl rfl 0 (by decide) kX2_addZone_14 rfl rfl dX2_addZone_1 ?_
  obtain ⟨r1, hr1, hf⟩ := z_bind hf
  refine z_calli (z_runV (n := 0) (rest := []) (As := []) S0 hC (c_X4_addRow l G c3 oS.2.2.1 70 (Szr, Szf) hr1) [2, 3] (by decide) rfl gX2_addZone_X4_addRow rfl rfl rfl (by decide +kernel) ⟨Nat.le_of_ble_eq_true rfl, Nat.le_of_ble_eq_true rfl⟩ (ci := 4) (q0 := 2) rfl rfl rfl hl.1 rfl (Nat.le_of_ble_eq_true rfl) dX2_addZone_4) hC [2, 3] [0, 1, 4, 5] [0, 1, 4, 5, 2, 3] rfl (wr := [(oS.1, .inr (2, [.ref oS.2.2.1.1, .ref oS.2.2.2.1, .ref oS.2.1, .int Spd, .int Snt])), (oS.2.1, .inl (c3.1, 13, .inl Snm)), (oS.2.2.2.1, .inr (4, [.int 7, .ref oS.2.2.2.2, .int Svr])), (oS.2.2.2.2, .inl (c3.1, 56, .inl Svf))]) rfl (by decide) (by decide) (ws2 := (zwS c3.1 oS ((r1.2, Szf), (Svr, Svf), Snm, Spd, Snt))) rfl (by decide) (fun H locs hC => ?_)
  refine lv_istore (lv' := [(5, .int r1.1), (0, .ref oS.1), (1, .int p1), (2, .int p2), (3, .int p3), (4, .int p4)]) hx hb dX2_addZone_7 hl (by decide) rfl (fun ls hl => ?_)
  refine lv_aload_n hx hb dX2_addZone_9 rfl (lv_at hl 1 rfl) ?_
  refine z_get S0 hC (ci := 2) (C := RX2) (T := TX2) (N := 5) (v := .ref oS.2.2.1.1) jX2_addZone_X2 0 rfl rfl 0 (by decide) kX2_addZone_14 rfl rfl dX2_addZone_10 ?_
  refine lv_iload hx hb dX2_addZone_13 (lv_at hl 0 rfl) ?_
  refine lv_iconst (v := 0) hx hb dX2_addZone_15 (by decide) ?_
  refine lv_iload_n hx hb dX2_addZone_16 rfl (lv_at hl 2 rfl) ?_
  obtain ⟨r2, hr2, hf⟩ := z_bind hf
  refine z_callv (z_runV (n := 3) (rest := []) (As := [.int r1.1, .int 0, .int p1]) S0 hC (c_X4_put l G c3 oS.2.2.1 70 (r1.2, Szf) r1.1 0 p1 hr2) [2, 3] (by decide) rfl gX2_addZone_X4_put rfl rfl rfl (by decide +kernel) ⟨Nat.le_of_ble_eq_true rfl, Nat.le_of_ble_eq_true rfl⟩ (ci := 4) (q0 := 2) rfl rfl rfl hl.1 rfl (Nat.le_of_ble_eq_true rfl) dX2_addZone_17) hC [2, 3] [0, 1, 4, 5] [0, 1, 4, 5, 2, 3] rfl (wr := [(oS.1, .inr (2, [.ref oS.2.2.1.1, .ref oS.2.2.2.1, .ref oS.2.1, .int Spd, .int Snt])), (oS.2.1, .inl (c3.1, 13, .inl Snm)), (oS.2.2.2.1, .inr (4, [.int 7, .ref oS.2.2.2.2, .int Svr])), (oS.2.2.2.2, .inl (c3.1, 56, .inl Svf))]) rfl (by decide) (by decide) (ws2 := (zwS c3.1 oS ((r1.2, r2), (Svr, Svf), Snm, Spd, Snt))) rfl (by decide) (fun H locs hC => ?_)
  refine lv_aload_n hx hb dX2_addZone_20 rfl (lv_at hl 1 rfl) ?_
  refine z_get S0 hC (ci := 2) (C := RX2) (T := TX2) (N := 5) (v := .ref oS.2.2.1.1) jX2_addZone_X2 0 rfl rfl 0 (by decide) kX2_addZone_14 rfl rfl dX2_addZone_21 ?_
  refine lv_iload hx hb dX2_addZone_24 (lv_at hl 0 rfl) ?_
  refine lv_iconst (v := 1) hx hb dX2_addZone_26 (by decide) ?_
  refine lv_iload_n hx hb dX2_addZone_27 rfl (lv_at hl 3 rfl) ?_
  obtain ⟨r3, hr3, hf⟩ := z_bind hf
  refine z_callv (z_runV (n := 3) (rest := []) (As := [.int r1.1, .int 1, .int p2]) S0 hC (c_X4_put l G c3 oS.2.2.1 70 (r1.2, r2) r1.1 1 p2 hr3) [2, 3] (by decide) rfl gX2_addZone_X4_put rfl rfl rfl (by decide +kernel) ⟨Nat.le_of_ble_eq_true rfl, Nat.le_of_ble_eq_true rfl⟩ (ci := 4) (q0 := 2) rfl rfl rfl hl.1 rfl (Nat.le_of_ble_eq_true rfl) dX2_addZone_28) hC [2, 3] [0, 1, 4, 5] [0, 1, 4, 5, 2, 3] rfl (wr := [(oS.1, .inr (2, [.ref oS.2.2.1.1, .ref oS.2.2.2.1, .ref oS.2.1, .int Spd, .int Snt])), (oS.2.1, .inl (c3.1, 13, .inl Snm)), (oS.2.2.2.1, .inr (4, [.int 7, .ref oS.2.2.2.2, .int Svr])), (oS.2.2.2.2, .inl (c3.1, 56, .inl Svf))]) rfl (by decide) (by decide) (ws2 := (zwS c3.1 oS ((r1.2, r3), (Svr, Svf), Snm, Spd, Snt))) rfl (by decide) (fun H locs hC => ?_)
  refine lv_aload_n hx hb dX2_addZone_31 rfl (lv_at hl 1 rfl) ?_
  refine z_get S0 hC (ci := 2) (C := RX2) (T := TX2) (N := 5) (v := .ref oS.2.2.1.1) jX2_addZone_X2 0 rfl rfl 0 (by decide) kX2_addZone_14 rfl rfl dX2_addZone_32 ?_
  refine lv_iload hx hb dX2_addZone_35 (lv_at hl 0 rfl) ?_
  refine lv_iconst (v := 2) hx hb dX2_addZone_37 (by decide) ?_
  refine lv_iload_n hx hb dX2_addZone_38 rfl (lv_at hl 4 rfl) ?_
  obtain ⟨r4, hr4, hf⟩ := z_bind hf
  refine z_callv (z_runV (n := 3) (rest := []) (As := [.int r1.1, .int 2, .int p3]) S0 hC (c_X4_put l G c3 oS.2.2.1 70 (r1.2, r3) r1.1 2 p3 hr4) [2, 3] (by decide) rfl gX2_addZone_X4_put rfl rfl rfl (by decide +kernel) ⟨Nat.le_of_ble_eq_true rfl, Nat.le_of_ble_eq_true rfl⟩ (ci := 4) (q0 := 2) rfl rfl rfl hl.1 rfl (Nat.le_of_ble_eq_true rfl) dX2_addZone_39) hC [2, 3] [0, 1, 4, 5] [0, 1, 4, 5, 2, 3] rfl (wr := [(oS.1, .inr (2, [.ref oS.2.2.1.1, .ref oS.2.2.2.1, .ref oS.2.1, .int Spd, .int Snt])), (oS.2.1, .inl (c3.1, 13, .inl Snm)), (oS.2.2.2.1, .inr (4, [.int 7, .ref oS.2.2.2.2, .int Svr])), (oS.2.2.2.2, .inl (c3.1, 56, .inl Svf))]) rfl (by decide) (by decide) (ws2 := (zwS c3.1 oS ((r1.2, r4), (Svr, Svf), Snm, Spd, Snt))) rfl (by decide) (fun H locs hC => ?_)
  refine lv_aload_n hx hb dX2_addZone_42 rfl (lv_at hl 1 rfl) ?_
  refine z_get S0 hC (ci := 2) (C := RX2) (T := TX2) (N := 5) (v := .ref oS.2.2.1.1) jX2_addZone_X2 0 rfl rfl 0 (by decide) kX2_addZone_14 rfl rfl dX2_addZone_43 ?_
  refine lv_iload hx hb dX2_addZone_46 (lv_at hl 0 rfl) ?_
  refine lv_iconst (v := 3) hx hb dX2_addZone_48 (by decide) ?_
  refine lv_iload hx hb dX2_addZone_49 (lv_at hl 5 rfl) ?_
  obtain ⟨r5, hr5, hf⟩ := z_bind hf
  refine z_callv (z_runV (n := 3) (rest := []) (As := [.int r1.1, .int 3, .int p4]) S0 hC (c_X4_put l G c3 oS.2.2.1 70 (r1.2, r4) r1.1 3 p4 hr5) [2, 3] (by decide) rfl gX2_addZone_X4_put rfl rfl rfl (by decide +kernel) ⟨Nat.le_of_ble_eq_true rfl, Nat.le_of_ble_eq_true rfl⟩ (ci := 4) (q0 := 2) rfl rfl rfl hl.1 rfl (Nat.le_of_ble_eq_true rfl) dX2_addZone_51) hC [2, 3] [0, 1, 4, 5] [0, 1, 4, 5, 2, 3] rfl (wr := [(oS.1, .inr (2, [.ref oS.2.2.1.1, .ref oS.2.2.2.1, .ref oS.2.1, .int Spd, .int Snt])), (oS.2.1, .inl (c3.1, 13, .inl Snm)), (oS.2.2.2.1, .inr (4, [.int 7, .ref oS.2.2.2.2, .int Svr])), (oS.2.2.2.2, .inl (c3.1, 56, .inl Svf))]) rfl (by decide) (by decide) (ws2 := (zwS c3.1 oS ((r1.2, r5), (Svr, Svf), Snm, Spd, Snt))) rfl (by decide) (fun H locs hC => ?_)
  refine lv_aload_n hx hb dX2_addZone_54 rfl (lv_at hl 1 rfl) ?_
  refine lv_iload hx hb dX2_addZone_55 (lv_at hl 0 rfl) ?_
  refine lv_iconst (v := 0) hx hb dX2_addZone_57 (by decide) ?_
  refine lv_iconst (v := 0) hx hb dX2_addZone_58 (by decide) ?_
  refine lv_bipush (v := 60) hx hb dX2_addZone_59 (by decide) ?_
  obtain ⟨r6, hr6, hf⟩ := z_bind hf
  refine z_callv (z_runV (n := 4) (rest := []) (As := [.int r1.1, .int 0, .int 0, .int 60]) S0 hC (c_X2_shapeZone l G c3 oS ((r1.2, r5), (Svr, Svf), Snm, Spd, Snt) r1.1 0 0 60 hr6) [0, 1, 2, 3, 4, 5] (by decide) rfl gX2_addZone_X2_shapeZone rfl rfl rfl (by decide +kernel) ⟨Nat.le_of_ble_eq_true rfl, Nat.le_of_ble_eq_true rfl⟩ (ci := 2) (q0 := 0) rfl rfl rfl hl.1 rfl (Nat.le_of_ble_eq_true rfl) dX2_addZone_61) hC [0, 1, 2, 3, 4, 5] [] [0, 1, 2, 3, 4, 5] rfl (wr := ([] : va_W)) rfl (by decide) (by decide) (ws2 := (zwS c3.1 oS ((r1.2, r6), (Svr, Svf), Snm, Spd, Snt))) rfl (by decide) (fun H locs hC => ?_)
  refine lv_iload hx hb dX2_addZone_64 (lv_at hl 0 rfl) ?_
  obtain ⟨e1, e2, e3⟩ := z_s3 hf
  subst e1
  subst e2
  subst e3
  exact z_iret S0 hr hlk hC dX2_addZone_66

-- X2 stealDownTo
def f_X2_stealDownTo_22 (Svr : Int32) (Svf : (Nat → Int32)) (Snm : (Nat → Int32)) : Nat → Int32 → Int32 → Option (Int32 × Int32)
  | 0, _, _ => none
  | fu + 1, y3, y4 =>
    (f_X4_rows 56 Svr).bind fun r6 => if r6 ≤ y4 then
      some (y3, y4)
    else
      (f_X2_stealRank Svr Svf Snm y4).bind fun r8 => (f_X2_stealRank Svr Svf Snm y3).bind fun r9 => Option.bind (α := Int32) (
        if r9 ≤ r8 then
          some (y3)
        else
          some (y4)
      ) fun t11 =>
        f_X2_stealDownTo_22 Svr Svf Snm fu t11 (y4 + 1)

theorem f_X2_stealDownTo_22_s (Svr : Int32) (Svf : (Nat → Int32)) (Snm : (Nat → Int32)) (y3 : Int32) (y4 : Int32) (fu : Nat) : f_X2_stealDownTo_22 Svr Svf Snm (fu + 1) y3 y4 = (
    (f_X4_rows 56 Svr).bind fun r6 => if r6 ≤ y4 then
      some (y3, y4)
    else
      (f_X2_stealRank Svr Svf Snm y4).bind fun r8 => (f_X2_stealRank Svr Svf Snm y3).bind fun r9 => Option.bind (α := Int32) (
        if r9 ≤ r8 then
          some (y3)
        else
          some (y4)
      ) fun t11 =>
        f_X2_stealDownTo_22 Svr Svf Snm fu t11 (y4 + 1)
    ) := rfl

def f_X2_stealDownTo_8 (y1 : Int32) : Nat → Int32 → Int32 → (Nat → Int32) → (Nat → Int32) → Option (Int32 × Int32 × (Nat → Int32) × (Nat → Int32))
  | 0, _, _, _, _ => none
  | fu + 1, y2, Svr, Svf, Snm =>
    if y2 ≤ y1 then
      some (y2, Svr, Svf, Snm)
    else
      if y2 ≤ 0 then
        some (y2, Svr, Svf, Snm)
      else
        (f_X2_stealDownTo_22 Svr Svf Snm zF 0 1).bind fun t12 =>
          (f_X4_removeRow 56 Svr Svf t12.1).bind fun r13 => (f_X2_grow Snm 4 1).bind fun r14 => f_X2_stealDownTo_8 y1 fu (y2 + (-1)) r13.1 r13.2 r14

theorem f_X2_stealDownTo_8_s (y1 : Int32) (y2 : Int32) (Svr : Int32) (Svf : (Nat → Int32)) (Snm : (Nat → Int32)) (fu : Nat) : f_X2_stealDownTo_8 y1 (fu + 1) y2 Svr Svf Snm = (
    if y2 ≤ y1 then
      some (y2, Svr, Svf, Snm)
    else
      if y2 ≤ 0 then
        some (y2, Svr, Svf, Snm)
      else
        (f_X2_stealDownTo_22 Svr Svf Snm zF 0 1).bind fun t12 =>
          (f_X4_removeRow 56 Svr Svf t12.1).bind fun r13 => (f_X2_grow Snm 4 1).bind fun r14 => f_X2_stealDownTo_8 y1 fu (y2 + (-1)) r13.1 r13.2 r14
    ) := rfl

def f_X2_stealDownTo (Svr : Int32) (Svf : (Nat → Int32)) (Snm : (Nat → Int32)) (p1 : Int32) : Option (Int32 × (Nat → Int32) × (Nat → Int32)) :=
  (f_X4_rows 56 Svr).bind fun r1 => (f_X2_stealDownTo_8 p1 zF r1 Svr Svf Snm).bind fun t15 =>
    some (t15.2.1, t15.2.2.1, t15.2.2.2)

theorem kX2_stealDownTo_20 : Cond.fieldLink RX2 20 "ZoneSampler$State" "voices" "LZoneSampler$Table;" ∈ wsX2_stealDownTo := by decide +kernel
theorem jX2_stealDownTo_X2 : ∀ w ∈ u_ws RX2 TX2 5, w ∈ wsX2_stealDownTo := by decide +kernel
set_option maxHeartbeats 4000000 in
set_option maxRecDepth 100000 in
theorem c_X2_stealDownTo (l : Launch) (G : va_G) (c3 : zT3) (oS : zR6) (BS : zSt) (p1 : Int32) {Svr' : Int32} {Svf' : (Nat → Int32)} {Snm' : (Nat → Int32)} (hf : f_X2_stealDownTo BS.2.1.1 BS.2.1.2 BS.2.2.1 p1 = some (Svr', Svf', Snm')) : zM l yX2_stealDownTo wsX2_stealDownTo ⟨2, 0, 0, 44⟩ G c3 (zwS c3.1 oS ((BS.1.1, BS.1.2), (BS.2.1.1, BS.2.1.2), BS.2.2.1, BS.2.2.2.1, BS.2.2.2.2)) [.ref oS.1, .int p1] none (zwS c3.1 oS ((BS.1.1, BS.1.2), (Svr', Svf'), Snm', BS.2.2.2.1, BS.2.2.2.2)) := by
  obtain ⟨⟨Szr, Szf⟩, ⟨Svr, Svf⟩, Snm, Spd, Snt⟩ := BS
  have hf : f_X2_stealDownTo Svr Svf Snm p1 = some (Svr', Svf', Snm') := hf
  show zM l yX2_stealDownTo wsX2_stealDownTo ⟨2, 0, 0, 44⟩ G c3 (zwS c3.1 oS ((Szr, Szf), (Svr, Svf), Snm, Spd, Snt)) [.ref oS.1, .int p1] none (zwS c3.1 oS ((Szr, Szf), (Svr', Svf'), Snm', Spd, Snt))
  refine zM.of (cc := cX2_stealDownTo) (maxL := 5) (ret := none) (by decide) rfl (Nat.le_of_ble_eq_true rfl) ?_
  intro p e s m args below meth c A ls S0 hr hlk hC hl
  have S0 : CallFix p m c cX2_stealDownTo 5 s args wsX2_stealDownTo RX2 := S0
  have hl : lv_has ls 5 [(0, .ref oS.1), (1, .int p1)] := hl
  have hx := S0.1
  have hb := S0.2.1
  obtain ⟨H, hH⟩ : ∃ y, y = s.heap := ⟨_, rfl⟩
  rw [← hH] at hC ⊢
  obtain ⟨locs, hlo⟩ : ∃ y : List Loc, y = [] := ⟨_, rfl⟩
  rw [← hlo] at hC ⊢
  clear hH hlo
  unfold f_X2_stealDownTo at hf
  refine lv_aload_n hx hb dX2_stealDownTo_0 rfl (lv_at hl 0 rfl) ?_
  refine z_get S0 hC (ci := 2) (C := RX2) (T := TX2) (N := 5) (v := .ref oS.2.2.2.1) jX2_stealDownTo_X2 0 rfl rfl 1 (by decide) kX2_stealDownTo_20 rfl rfl dX2_stealDownTo_1 ?_
  obtain ⟨r1, hr1, hf⟩ := z_bind hf
  refine z_callPi (z_runV (n := 0) (rest := []) (As := []) S0 hC (c_X4_rows l G c3 oS.2.2.2 56 (Svr, Svf) hr1) [4, 5] (by decide) rfl gX2_stealDownTo_X4_rows rfl rfl rfl (by decide +kernel) ⟨Nat.le_of_ble_eq_true rfl, Nat.le_of_ble_eq_true rfl⟩ (ci := 4) (q0 := 4) rfl rfl rfl hl.1 rfl (Nat.le_of_ble_eq_true rfl) dX2_stealDownTo_4) hC [4, 5] rfl (fun H locs hC => ?_)
  refine lv_istore_n (lv' := [(2, .int r1), (0, .ref oS.1), (1, .int p1)]) hx hb dX2_stealDownTo_7 rfl hl (by decide) rfl (fun ls hl => ?_)
  have L8 : ∀ (fu : Nat) (y1 : Int32) (y2 : Int32) (Szr : Int32) (Szf : (Nat → Int32)) (Svr : Int32) (Svf : (Nat → Int32)) (Snm : (Nat → Int32)) (Spd : Int32) (Snt : Int32) (tt : Int32 × Int32 × (Nat → Int32) × (Nat → Int32)), f_X2_stealDownTo_8 y1 fu y2 Svr Svf Snm = some tt → ∀ (H : Heap) (locs : List Loc) (ls : Array Slot), zC G c3 A s (zwS c3.1 oS ((Szr, Szf), (Svr, Svf), Snm, Spd, Snt)) H locs → lv_has ls 5 [(0, .ref oS.1), (1, .int y1), (2, .int y2)] → (∀ (H : Heap) (locs : List Loc) (ls : Array Slot), zC G c3 A s (zwS c3.1 oS ((Szr, Szf), (tt.2.1, tt.2.2.1), tt.2.2.2, Spd, Snt)) H locs → lv_has ls 5 [(0, .ref oS.1), (1, .int y1), (2, .int tt.1)] → W p l e ⟨2, 0, 0, 44⟩ s m args below meth c H locs 0 0 (MQ below (zPost G (zwS c3.1 oS ((Szr, Szf), (Svr', Svf'), Snm', Spd, Snt)) none A) args s 0 0 A) (F0 m 81 ls [])) → W p l e ⟨2, 0, 0, 44⟩ s m args below meth c H locs 0 0 (MQ below (zPost G (zwS c3.1 oS ((Szr, Szf), (Svr', Svf'), Snm', Spd, Snt)) none A) args s 0 0 A) (F0 m 8 ls []) := by
    intro fu
    induction fu with
    | zero =>
      intro y1 y2 Szr Szf Svr Svf Snm Spd Snt tt hf H locs ls hC hl hK
      exact (z_none hf).elim
    | succ fu ih8 =>
      intro y1 y2 Szr Szf Svr Svf Snm Spd Snt tt hf H locs ls hC hl hK
      replace hf := (f_X2_stealDownTo_8_s y1 y2 Svr Svf Snm fu).symm.trans hf
      refine lv_iload_n hx hb dX2_stealDownTo_8 rfl (lv_at hl 2 rfl) ?_
      refine lv_iload_n hx hb dX2_stealDownTo_9 rfl (lv_at hl 1 rfl) ?_
      refine lv_icmp_le (tgt := 81) hx hb dX2_stealDownTo_10 (by decide) (fun cd3 => ?_) (fun cd3 => ?_)
      · replace hf := z_pos cd3 hf
        have e1 := z_s1 hf
        subst e1
        exact hK H locs ls hC (lv_sub hl [0, 1, 2] rfl)
      · replace hf := z_neg cd3 hf
        refine lv_iload_n hx hb dX2_stealDownTo_13 rfl (lv_at hl 2 rfl) ?_
        refine lv_if_le (tgt := 81) hx hb dX2_stealDownTo_14 (by decide) (fun cd4 => ?_) (fun cd4 => ?_)
        · replace hf := z_pos cd4 hf
          have e1 := z_s1 hf
          subst e1
          exact hK H locs ls hC (lv_sub hl [0, 1, 2] rfl)
        · replace hf := z_neg cd4 hf
          refine lv_iconst (v := 0) hx hb dX2_stealDownTo_17 (by decide) ?_
          refine lv_istore_n (lv' := [(3, .int 0), (0, .ref oS.1), (1, .int y1), (2, .int y2)]) hx hb dX2_stealDownTo_18 rfl hl (by decide) rfl (fun ls hl => ?_)
          refine lv_iconst (v := 1) hx hb dX2_stealDownTo_19 (by decide) ?_
          refine lv_istore (lv' := [(4, .int 1), (3, .int 0), (0, .ref oS.1), (1, .int y1), (2, .int y2)]) hx hb dX2_stealDownTo_20 hl (by decide) rfl (fun ls hl => ?_)
          have L22 : ∀ (fu : Nat) (y1 : Int32) (y2 : Int32) (y3 : Int32) (y4 : Int32) (Szr : Int32) (Szf : (Nat → Int32)) (Svr : Int32) (Svf : (Nat → Int32)) (Snm : (Nat → Int32)) (Spd : Int32) (Snt : Int32) (tt : Int32 × Int32), f_X2_stealDownTo_22 Svr Svf Snm fu y3 y4 = some tt → ∀ (H : Heap) (locs : List Loc) (ls : Array Slot), zC G c3 A s (zwS c3.1 oS ((Szr, Szf), (Svr, Svf), Snm, Spd, Snt)) H locs → lv_has ls 5 [(0, .ref oS.1), (1, .int y1), (2, .int y2), (3, .int y3), (4, .int y4)] → (∀ (H : Heap) (locs : List Loc) (ls : Array Slot), zC G c3 A s (zwS c3.1 oS ((Szr, Szf), (Svr, Svf), Snm, Spd, Snt)) H locs → lv_has ls 5 [(0, .ref oS.1), (1, .int y1), (2, .int y2), (3, .int tt.1), (4, .int tt.2)] → W p l e ⟨2, 0, 0, 44⟩ s m args below meth c H locs 0 0 (MQ below (zPost G (zwS c3.1 oS ((Szr, Szf), (Svr', Svf'), Snm', Spd, Snt)) none A) args s 0 0 A) (F0 m 61 ls [])) → W p l e ⟨2, 0, 0, 44⟩ s m args below meth c H locs 0 0 (MQ below (zPost G (zwS c3.1 oS ((Szr, Szf), (Svr', Svf'), Snm', Spd, Snt)) none A) args s 0 0 A) (F0 m 22 ls []) := by
            intro fu
            induction fu with
            | zero =>
              intro y1 y2 y3 y4 Szr Szf Svr Svf Snm Spd Snt tt hf H locs ls hC hl hK
              exact (z_none hf).elim
            | succ fu ih22 =>
              intro y1 y2 y3 y4 Szr Szf Svr Svf Snm Spd Snt tt hf H locs ls hC hl hK
              replace hf := (f_X2_stealDownTo_22_s Svr Svf Snm y3 y4 fu).symm.trans hf
              refine lv_iload hx hb dX2_stealDownTo_22 (lv_at hl 4 rfl) ?_
              refine lv_aload_n hx hb dX2_stealDownTo_24 rfl (lv_at hl 0 rfl) ?_
              refine z_get S0 hC (ci := 2) (C := RX2) (T := TX2) (N := 5) (v := .ref oS.2.2.2.1) jX2_stealDownTo_X2 0 rfl rfl 1 (by decide) kX2_stealDownTo_20 rfl rfl dX2_stealDownTo_25 ?_
              obtain ⟨r6, hr6, hf⟩ := z_bind hf
              refine z_callPi (z_runV (n := 0) (rest := [.int y4]) (As := []) S0 hC (c_X4_rows l G c3 oS.2.2.2 56 (Svr, Svf) hr6) [4, 5] (by decide) rfl gX2_stealDownTo_X4_rows rfl rfl rfl (by decide +kernel) ⟨Nat.le_of_ble_eq_true rfl, Nat.le_of_ble_eq_true rfl⟩ (ci := 4) (q0 := 4) rfl rfl rfl hl.1 rfl (Nat.le_of_ble_eq_true rfl) dX2_stealDownTo_28) hC [4, 5] rfl (fun H locs hC => ?_)
              refine lv_icmp_ge (tgt := 61) hx hb dX2_stealDownTo_31 (by decide) (fun cd7 => ?_) (fun cd7 => ?_)
              · replace hf := z_pos cd7 hf
                have e1 := z_s1 hf
                subst e1
                exact hK H locs ls hC (lv_sub hl [0, 1, 2, 3, 4] rfl)
              · replace hf := z_neg cd7 hf
                refine lv_aload_n hx hb dX2_stealDownTo_34 rfl (lv_at hl 0 rfl) ?_
                refine lv_iload hx hb dX2_stealDownTo_35 (lv_at hl 4 rfl) ?_
                obtain ⟨r8, hr8, hf⟩ := z_bind hf
                refine z_callPi (z_runV (n := 1) (rest := []) (As := [.int y4]) S0 hC (c_X2_stealRank l G c3 oS ((Szr, Szf), (Svr, Svf), Snm, Spd, Snt) y4 hr8) [0, 1, 2, 3, 4, 5] (by decide) rfl gX2_stealDownTo_X2_stealRank rfl rfl rfl (by decide +kernel) ⟨Nat.le_of_ble_eq_true rfl, Nat.le_of_ble_eq_true rfl⟩ (ci := 2) (q0 := 0) rfl rfl rfl hl.1 rfl (Nat.le_of_ble_eq_true rfl) dX2_stealDownTo_37) hC [0, 1, 2, 3, 4, 5] rfl (fun H locs hC => ?_)
                refine lv_aload_n hx hb dX2_stealDownTo_40 rfl (lv_at hl 0 rfl) ?_
                refine lv_iload_n hx hb dX2_stealDownTo_41 rfl (lv_at hl 3 rfl) ?_
                obtain ⟨r9, hr9, hf⟩ := z_bind hf
                refine z_callPi (z_runV (n := 1) (rest := [.int r8]) (As := [.int y3]) S0 hC (c_X2_stealRank l G c3 oS ((Szr, Szf), (Svr, Svf), Snm, Spd, Snt) y3 hr9) [0, 1, 2, 3, 4, 5] (by decide) rfl gX2_stealDownTo_X2_stealRank rfl rfl rfl (by decide +kernel) ⟨Nat.le_of_ble_eq_true rfl, Nat.le_of_ble_eq_true rfl⟩ (ci := 2) (q0 := 0) rfl rfl rfl hl.1 rfl (Nat.le_of_ble_eq_true rfl) dX2_stealDownTo_42) hC [0, 1, 2, 3, 4, 5] rfl (fun H locs hC => ?_)
                obtain ⟨t11, ht11, hf⟩ := z_bind hf
                have Jt11 : ∀ (H : Heap) (locs : List Loc) (ls : Array Slot), zC G c3 A s (zwS c3.1 oS ((Szr, Szf), (Svr, Svf), Snm, Spd, Snt)) H locs → lv_has ls 5 [(0, .ref oS.1), (1, .int y1), (2, .int y2), (3, .int y3), (4, .int y4)] → W p l e ⟨2, 0, 0, 44⟩ s m args below meth c H locs 0 0 (MQ below (zPost G (zwS c3.1 oS ((Szr, Szf), (Svr', Svf'), Snm', Spd, Snt)) none A) args s 0 0 A) (F0 m 54 ls [.int t11]) := by
                  intro H locs ls hC hl
                  refine lv_istore_n (lv' := [(3, .int t11), (0, .ref oS.1), (1, .int y1), (2, .int y2), (4, .int y4)]) hx hb dX2_stealDownTo_54 rfl hl (by decide) rfl (fun ls hl => ?_)
                  refine lv_iinc (v := (y4 + 1)) (lv' := [(4, .int (y4 + 1)), (3, .int t11), (0, .ref oS.1), (1, .int y1), (2, .int y2)]) hx hb dX2_stealDownTo_55 hl (k := 4) rfl rfl (by decide) rfl (fun ls hl => ?_)
                  refine lv_goto (tgt := 22) hx hb dX2_stealDownTo_58 (by decide) ?_
                  exact ih22 y1 y2 t11 (y4 + 1) Szr Szf Svr Svf Snm Spd Snt _ hf H locs ls hC (lv_sub hl [2, 3, 4, 1, 0] rfl) hK
                refine lv_icmp_ge (tgt := 53) hx hb dX2_stealDownTo_45 (by decide) (fun cd10 => ?_) (fun cd10 => ?_)
                · replace ht11 := z_pos cd10 ht11
                  refine lv_iload_n hx hb dX2_stealDownTo_53 rfl (lv_at hl 3 rfl) ?_
                  have e1 := z_s1 ht11
                  subst e1
                  exact Jt11 H locs ls hC (lv_sub hl [0, 1, 2, 3, 4] rfl)
                · replace ht11 := z_neg cd10 ht11
                  refine lv_iload hx hb dX2_stealDownTo_48 (lv_at hl 4 rfl) ?_
                  refine lv_goto (tgt := 54) hx hb dX2_stealDownTo_50 (by decide) ?_
                  have e1 := z_s1 ht11
                  subst e1
                  exact Jt11 H locs ls hC (lv_sub hl [0, 1, 2, 3, 4] rfl)
          obtain ⟨t12, ht12, hf⟩ := z_bind hf
          refine L22 zF y1 y2 0 1 Szr Szf Svr Svf Snm Spd Snt t12 ht12 H locs ls hC (lv_sub hl [2, 3, 4, 1, 0] rfl) (fun H locs ls hC hl => ?_)
          refine lv_aload_n hx hb dX2_stealDownTo_61 rfl (lv_at hl 0 rfl) ?_
          refine z_get S0 hC (ci := 2) (C := RX2) (T := TX2) (N := 5) (v := .ref oS.2.2.2.1) jX2_stealDownTo_X2 0 rfl rfl 1 (by decide) kX2_stealDownTo_20 rfl rfl dX2_stealDownTo_62 ?_
          refine lv_iload_n hx hb dX2_stealDownTo_65 rfl (lv_at hl 3 rfl) ?_
          obtain ⟨r13, hr13, hf⟩ := z_bind hf
          refine z_callv (z_runV (n := 1) (rest := []) (As := [.int t12.1]) S0 hC (c_X4_removeRow l G c3 oS.2.2.2 56 (Svr, Svf) t12.1 hr13) [4, 5] (by decide) rfl gX2_stealDownTo_X4_removeRow rfl rfl rfl (by decide +kernel) ⟨Nat.le_of_ble_eq_true rfl, Nat.le_of_ble_eq_true rfl⟩ (ci := 4) (q0 := 4) rfl rfl rfl hl.1 rfl (Nat.le_of_ble_eq_true rfl) dX2_stealDownTo_66) hC [4, 5] [0, 1, 2, 3] [0, 1, 2, 3, 4, 5] rfl (wr := [(oS.1, .inr (2, [.ref oS.2.2.1.1, .ref oS.2.2.2.1, .ref oS.2.1, .int Spd, .int Snt])), (oS.2.1, .inl (c3.1, 13, .inl Snm)), (oS.2.2.1.1, .inr (4, [.int 7, .ref oS.2.2.1.2, .int Szr])), (oS.2.2.1.2, .inl (c3.1, 70, .inl Szf))]) rfl (by decide) (by decide) (ws2 := (zwS c3.1 oS ((Szr, Szf), (r13.1, r13.2), Snm, Spd, Snt))) rfl (by decide) (fun H locs hC => ?_)
          refine lv_aload_n hx hb dX2_stealDownTo_69 rfl (lv_at hl 0 rfl) ?_
          refine lv_iconst (v := 4) hx hb dX2_stealDownTo_70 (by decide) ?_
          refine lv_iconst (v := 1) hx hb dX2_stealDownTo_71 (by decide) ?_
          obtain ⟨r14, hr14, hf⟩ := z_bind hf
          refine z_callv (z_runV (n := 2) (rest := []) (As := [.int 4, .int 1]) S0 hC (c_X2_grow l G c3 oS ((Szr, Szf), (r13.1, r13.2), Snm, Spd, Snt) 4 1 hr14) [0, 1, 2, 3, 4, 5] (by decide) rfl gX2_stealDownTo_X2_grow rfl rfl rfl (by decide +kernel) ⟨Nat.le_of_ble_eq_true rfl, Nat.le_of_ble_eq_true rfl⟩ (ci := 2) (q0 := 0) rfl rfl rfl hl.1 rfl (Nat.le_of_ble_eq_true rfl) dX2_stealDownTo_72) hC [0, 1, 2, 3, 4, 5] [] [0, 1, 2, 3, 4, 5] rfl (wr := ([] : va_W)) rfl (by decide) (by decide) (ws2 := (zwS c3.1 oS ((Szr, Szf), (r13.1, r13.2), r14, Spd, Snt))) rfl (by decide) (fun H locs hC => ?_)
          refine lv_iinc (v := (y2 + (-1))) (lv' := [(2, .int (y2 + (-1))), (0, .ref oS.1), (1, .int y1), (3, .int t12.1), (4, .int t12.2)]) hx hb dX2_stealDownTo_75 hl (k := 2) rfl rfl (by decide) rfl (fun ls hl => ?_)
          refine lv_goto (tgt := 8) hx hb dX2_stealDownTo_78 (by decide) ?_
          exact ih8 y1 (y2 + (-1)) Szr Szf r13.1 r13.2 r14 Spd Snt _ hf H locs ls hC (lv_sub hl [1, 2, 0] rfl) hK
  obtain ⟨t15, ht15, hf⟩ := z_bind hf
  refine L8 zF p1 r1 Szr Szf Svr Svf Snm Spd Snt t15 ht15 H locs ls hC (lv_sub hl [1, 2, 0] rfl) (fun H locs ls hC hl => ?_)
  obtain ⟨e1, e2, e3⟩ := z_s3 hf
  subst e1
  subst e2
  subst e3
  exact z_vret S0 hr hlk hC dX2_stealDownTo_81

-- X2 stealPlace
def f_X2_stealPlace_11 (y1 : Int32) (y2 : Int32) (Svr : Int32) (Svf : (Nat → Int32)) (Snm : (Nat → Int32)) : Nat → Int32 → Int32 → Option (Int32 × Int32)
  | 0, _, _ => none
  | fu + 1, y3, y4 =>
    (f_X4_rows 56 Svr).bind fun r3 => if r3 ≤ y4 then
      some (y3, y4)
    else
      (f_X2_stealRank Svr Svf Snm y4).bind fun r5 => Option.bind (α := Int32) (
        if r5 < y2 then
          some ((y3 + 1))
        else
          if r5 = y2 then
            if y1 ≤ y4 then
              some (y3)
            else
              some ((y3 + 1))
          else
            some (y3)
      ) fun t7 =>
        f_X2_stealPlace_11 y1 y2 Svr Svf Snm fu t7 (y4 + 1)

theorem f_X2_stealPlace_11_s (y1 : Int32) (y2 : Int32) (Svr : Int32) (Svf : (Nat → Int32)) (Snm : (Nat → Int32)) (y3 : Int32) (y4 : Int32) (fu : Nat) : f_X2_stealPlace_11 y1 y2 Svr Svf Snm (fu + 1) y3 y4 = (
    (f_X4_rows 56 Svr).bind fun r3 => if r3 ≤ y4 then
      some (y3, y4)
    else
      (f_X2_stealRank Svr Svf Snm y4).bind fun r5 => Option.bind (α := Int32) (
        if r5 < y2 then
          some ((y3 + 1))
        else
          if r5 = y2 then
            if y1 ≤ y4 then
              some (y3)
            else
              some ((y3 + 1))
          else
            some (y3)
      ) fun t7 =>
        f_X2_stealPlace_11 y1 y2 Svr Svf Snm fu t7 (y4 + 1)
    ) := rfl

def f_X2_stealPlace (Svr : Int32) (Svf : (Nat → Int32)) (Snm : (Nat → Int32)) (p1 : Int32) : Option (Int32) :=
  (f_X2_stealRank Svr Svf Snm p1).bind fun r1 => (f_X2_stealPlace_11 p1 r1 Svr Svf Snm zF 0 0).bind fun t10 =>
    some (t10.1)

theorem kX2_stealPlace_20 : Cond.fieldLink RX2 20 "ZoneSampler$State" "voices" "LZoneSampler$Table;" ∈ wsX2_stealPlace := by decide +kernel
theorem jX2_stealPlace_X2 : ∀ w ∈ u_ws RX2 TX2 5, w ∈ wsX2_stealPlace := by decide +kernel
set_option maxHeartbeats 4000000 in
set_option maxRecDepth 100000 in
theorem c_X2_stealPlace (l : Launch) (G : va_G) (c3 : zT3) (oS : zR6) (BS : zSt) (p1 : Int32) {r : Int32} (hf : f_X2_stealPlace BS.2.1.1 BS.2.1.2 BS.2.2.1 p1 = some (r)) : zM l yX2_stealPlace wsX2_stealPlace ⟨2, 0, 0, 44⟩ G c3 (zwS c3.1 oS ((BS.1.1, BS.1.2), (BS.2.1.1, BS.2.1.2), BS.2.2.1, BS.2.2.2.1, BS.2.2.2.2)) [.ref oS.1, .int p1] (some (.int r)) (zwS c3.1 oS ((BS.1.1, BS.1.2), (BS.2.1.1, BS.2.1.2), BS.2.2.1, BS.2.2.2.1, BS.2.2.2.2)) := by
  obtain ⟨⟨Szr, Szf⟩, ⟨Svr, Svf⟩, Snm, Spd, Snt⟩ := BS
  have hf : f_X2_stealPlace Svr Svf Snm p1 = some (r) := hf
  show zM l yX2_stealPlace wsX2_stealPlace ⟨2, 0, 0, 44⟩ G c3 (zwS c3.1 oS ((Szr, Szf), (Svr, Svf), Snm, Spd, Snt)) [.ref oS.1, .int p1] (some (.int r)) (zwS c3.1 oS ((Szr, Szf), (Svr, Svf), Snm, Spd, Snt))
  refine zM.of (cc := cX2_stealPlace) (maxL := 6) (ret := (some .int)) (by decide) rfl (Nat.le_of_ble_eq_true rfl) ?_
  intro p e s m args below meth c A ls S0 hr hlk hC hl
  have S0 : CallFix p m c cX2_stealPlace 6 s args wsX2_stealPlace RX2 := S0
  have hl : lv_has ls 6 [(0, .ref oS.1), (1, .int p1)] := hl
  have hx := S0.1
  have hb := S0.2.1
  obtain ⟨H, hH⟩ : ∃ y, y = s.heap := ⟨_, rfl⟩
  rw [← hH] at hC ⊢
  obtain ⟨locs, hlo⟩ : ∃ y : List Loc, y = [] := ⟨_, rfl⟩
  rw [← hlo] at hC ⊢
  clear hH hlo
  unfold f_X2_stealPlace at hf
  refine lv_aload_n hx hb dX2_stealPlace_0 rfl (lv_at hl 0 rfl) ?_
  refine lv_iload_n hx hb dX2_stealPlace_1 rfl (lv_at hl 1 rfl) ?_
  obtain ⟨r1, hr1, hf⟩ := z_bind hf
  refine z_callPi (z_runV (n := 1) (rest := []) (As := [.int p1]) S0 hC (c_X2_stealRank l G c3 oS ((Szr, Szf), (Svr, Svf), Snm, Spd, Snt) p1 hr1) [0, 1, 2, 3, 4, 5] (by decide) rfl gX2_stealPlace_X2_stealRank rfl rfl rfl (by decide +kernel) ⟨Nat.le_of_ble_eq_true rfl, Nat.le_of_ble_eq_true rfl⟩ (ci := 2) (q0 := 0) rfl rfl rfl hl.1 rfl (Nat.le_of_ble_eq_true rfl) dX2_stealPlace_2) hC [0, 1, 2, 3, 4, 5] rfl (fun H locs hC => ?_)
  refine lv_istore_n (lv' := [(2, .int r1), (0, .ref oS.1), (1, .int p1)]) hx hb dX2_stealPlace_5 rfl hl (by decide) rfl (fun ls hl => ?_)
  refine lv_iconst (v := 0) hx hb dX2_stealPlace_6 (by decide) ?_
  refine lv_istore_n (lv' := [(3, .int 0), (2, .int r1), (0, .ref oS.1), (1, .int p1)]) hx hb dX2_stealPlace_7 rfl hl (by decide) rfl (fun ls hl => ?_)
  refine lv_iconst (v := 0) hx hb dX2_stealPlace_8 (by decide) ?_
  refine lv_istore (lv' := [(4, .int 0), (3, .int 0), (2, .int r1), (0, .ref oS.1), (1, .int p1)]) hx hb dX2_stealPlace_9 hl (by decide) rfl (fun ls hl => ?_)
  have L11 : ∀ (fu : Nat) (y1 : Int32) (y2 : Int32) (y3 : Int32) (y4 : Int32) (Szr : Int32) (Szf : (Nat → Int32)) (Svr : Int32) (Svf : (Nat → Int32)) (Snm : (Nat → Int32)) (Spd : Int32) (Snt : Int32) (tt : Int32 × Int32), f_X2_stealPlace_11 y1 y2 Svr Svf Snm fu y3 y4 = some tt → ∀ (H : Heap) (locs : List Loc) (ls : Array Slot), zC G c3 A s (zwS c3.1 oS ((Szr, Szf), (Svr, Svf), Snm, Spd, Snt)) H locs → lv_has ls 6 [(0, .ref oS.1), (1, .int y1), (2, .int y2), (3, .int y3), (4, .int y4)] → (∀ (H : Heap) (locs : List Loc) (ls : Array Slot), zC G c3 A s (zwS c3.1 oS ((Szr, Szf), (Svr, Svf), Snm, Spd, Snt)) H locs → lv_has ls 6 [(0, .ref oS.1), (1, .int y1), (2, .int y2), (3, .int tt.1), (4, .int tt.2)] → W p l e ⟨2, 0, 0, 44⟩ s m args below meth c H locs 0 0 (MQ below (zPost G (zwS c3.1 oS ((Szr, Szf), (Svr, Svf), Snm, Spd, Snt)) (some (.int r)) A) args s 0 0 A) (F0 m 58 ls [])) → W p l e ⟨2, 0, 0, 44⟩ s m args below meth c H locs 0 0 (MQ below (zPost G (zwS c3.1 oS ((Szr, Szf), (Svr, Svf), Snm, Spd, Snt)) (some (.int r)) A) args s 0 0 A) (F0 m 11 ls []) := by
    intro fu
    induction fu with
    | zero =>
      intro y1 y2 y3 y4 Szr Szf Svr Svf Snm Spd Snt tt hf H locs ls hC hl hK
      exact (z_none hf).elim
    | succ fu ih11 =>
      intro y1 y2 y3 y4 Szr Szf Svr Svf Snm Spd Snt tt hf H locs ls hC hl hK
      replace hf := (f_X2_stealPlace_11_s y1 y2 Svr Svf Snm y3 y4 fu).symm.trans hf
      refine lv_iload hx hb dX2_stealPlace_11 (lv_at hl 4 rfl) ?_
      refine lv_aload_n hx hb dX2_stealPlace_13 rfl (lv_at hl 0 rfl) ?_
      refine z_get S0 hC (ci := 2) (C := RX2) (T := TX2) (N := 5) (v := .ref oS.2.2.2.1) jX2_stealPlace_X2 0 rfl rfl 1 (by decide) kX2_stealPlace_20 rfl rfl dX2_stealPlace_14 ?_
      obtain ⟨r3, hr3, hf⟩ := z_bind hf
      refine z_callPi (z_runV (n := 0) (rest := [.int y4]) (As := []) S0 hC (c_X4_rows l G c3 oS.2.2.2 56 (Svr, Svf) hr3) [4, 5] (by decide) rfl gX2_stealPlace_X4_rows rfl rfl rfl (by decide +kernel) ⟨Nat.le_of_ble_eq_true rfl, Nat.le_of_ble_eq_true rfl⟩ (ci := 4) (q0 := 4) rfl rfl rfl hl.1 rfl (Nat.le_of_ble_eq_true rfl) dX2_stealPlace_17) hC [4, 5] rfl (fun H locs hC => ?_)
      refine lv_icmp_ge (tgt := 58) hx hb dX2_stealPlace_20 (by decide) (fun cd4 => ?_) (fun cd4 => ?_)
      · replace hf := z_pos cd4 hf
        have e1 := z_s1 hf
        subst e1
        exact hK H locs ls hC (lv_sub hl [0, 1, 2, 3, 4] rfl)
      · replace hf := z_neg cd4 hf
        refine lv_aload_n hx hb dX2_stealPlace_23 rfl (lv_at hl 0 rfl) ?_
        refine lv_iload hx hb dX2_stealPlace_24 (lv_at hl 4 rfl) ?_
        obtain ⟨r5, hr5, hf⟩ := z_bind hf
        refine z_callPi (z_runV (n := 1) (rest := []) (As := [.int y4]) S0 hC (c_X2_stealRank l G c3 oS ((Szr, Szf), (Svr, Svf), Snm, Spd, Snt) y4 hr5) [0, 1, 2, 3, 4, 5] (by decide) rfl gX2_stealPlace_X2_stealRank rfl rfl rfl (by decide +kernel) ⟨Nat.le_of_ble_eq_true rfl, Nat.le_of_ble_eq_true rfl⟩ (ci := 2) (q0 := 0) rfl rfl rfl hl.1 rfl (Nat.le_of_ble_eq_true rfl) dX2_stealPlace_26) hC [0, 1, 2, 3, 4, 5] rfl (fun H locs hC => ?_)
        refine lv_istore (lv' := [(5, .int r5), (0, .ref oS.1), (1, .int y1), (2, .int y2), (3, .int y3), (4, .int y4)]) hx hb dX2_stealPlace_29 hl (by decide) rfl (fun ls hl => ?_)
        refine lv_iload hx hb dX2_stealPlace_31 (lv_at hl 0 rfl) ?_
        refine lv_iload_n hx hb dX2_stealPlace_33 rfl (lv_at hl 3 rfl) ?_
        obtain ⟨t7, ht7, hf⟩ := z_bind hf
        have Jt7 : ∀ (H : Heap) (locs : List Loc) (ls : Array Slot), zC G c3 A s (zwS c3.1 oS ((Szr, Szf), (Svr, Svf), Snm, Spd, Snt)) H locs → lv_has ls 6 [(0, .ref oS.1), (1, .int y1), (2, .int y2), (3, .int t7), (4, .int y4), (5, .int r5)] → W p l e ⟨2, 0, 0, 44⟩ s m args below meth c H locs 0 0 (MQ below (zPost G (zwS c3.1 oS ((Szr, Szf), (Svr, Svf), Snm, Spd, Snt)) (some (.int r)) A) args s 0 0 A) (F0 m 52 ls []) := by
          intro H locs ls hC hl
          refine lv_iinc (v := (y4 + 1)) (lv' := [(4, .int (y4 + 1)), (0, .ref oS.1), (1, .int y1), (2, .int y2), (3, .int t7), (5, .int r5)]) hx hb dX2_stealPlace_52 hl (k := 4) rfl rfl (by decide) rfl (fun ls hl => ?_)
          refine lv_goto (tgt := 11) hx hb dX2_stealPlace_55 (by decide) ?_
          exact ih11 y1 y2 t7 (y4 + 1) Szr Szf Svr Svf Snm Spd Snt _ hf H locs ls hC (lv_sub hl [1, 2, 3, 4, 0] rfl) hK
        refine lv_icmp_lt (tgt := 49) hx hb dX2_stealPlace_34 (by decide) (fun cd6 => ?_) (fun cd6 => ?_)
        · replace ht7 := z_pos cd6 ht7
          refine lv_iinc (v := (y3 + 1)) (lv' := [(3, .int (y3 + 1)), (5, .int r5), (0, .ref oS.1), (1, .int y1), (2, .int y2), (4, .int y4)]) hx hb dX2_stealPlace_49 hl (k := 4) rfl rfl (by decide) rfl (fun ls hl => ?_)
          have e1 := z_s1 ht7
          subst e1
          exact Jt7 H locs ls hC (lv_sub hl [2, 3, 4, 0, 5, 1] rfl)
        · replace ht7 := z_neg cd6 ht7
          refine lv_iload hx hb dX2_stealPlace_37 (lv_at hl 0 rfl) ?_
          refine lv_iload_n hx hb dX2_stealPlace_39 rfl (lv_at hl 3 rfl) ?_
          refine lv_icmp_ne (tgt := 52) hx hb dX2_stealPlace_40 (by decide) (fun cd8 => ?_) (fun cd8 => ?_)
          · replace ht7 := z_neg cd8 ht7
            have e1 := z_s1 ht7
            subst e1
            exact Jt7 H locs ls hC (lv_sub hl [1, 2, 3, 4, 5, 0] rfl)
          · replace ht7 := z_pos cd8 ht7
            refine lv_iload hx hb dX2_stealPlace_43 (lv_at hl 5 rfl) ?_
            refine lv_iload_n hx hb dX2_stealPlace_45 rfl (lv_at hl 2 rfl) ?_
            refine lv_icmp_ge (tgt := 52) hx hb dX2_stealPlace_46 (by decide) (fun cd9 => ?_) (fun cd9 => ?_)
            · replace ht7 := z_pos cd9 ht7
              have e1 := z_s1 ht7
              subst e1
              exact Jt7 H locs ls hC (lv_sub hl [1, 2, 3, 4, 5, 0] rfl)
            · replace ht7 := z_neg cd9 ht7
              refine lv_iinc (v := (y3 + 1)) (lv' := [(3, .int (y3 + 1)), (5, .int r5), (0, .ref oS.1), (1, .int y1), (2, .int y2), (4, .int y4)]) hx hb dX2_stealPlace_49 hl (k := 4) rfl rfl (by decide) rfl (fun ls hl => ?_)
              have e1 := z_s1 ht7
              subst e1
              exact Jt7 H locs ls hC (lv_sub hl [2, 3, 4, 0, 5, 1] rfl)
  obtain ⟨t10, ht10, hf⟩ := z_bind hf
  refine L11 zF p1 r1 0 0 Szr Szf Svr Svf Snm Spd Snt t10 ht10 H locs ls hC (lv_sub hl [3, 4, 2, 1, 0] rfl) (fun H locs ls hC hl => ?_)
  refine lv_iload_n hx hb dX2_stealPlace_58 rfl (lv_at hl 3 rfl) ?_
  have e1 := z_s1 hf
  subst e1
  exact z_iret S0 hr hlk hC dX2_stealPlace_59

-- X2 release
def f_X2_release (Svr : Int32) (Svf : (Nat → Int32)) (Spd : Int32) (p1 : Int32) : Option (Int32 × (Nat → Int32)) :=
  Option.bind (α := Int32) (
    if Spd = 0 then
      some (2)
    else
      some (1)
  ) fun t2 =>
    (f_X2_moveHeld Svr Svf p1 t2).bind fun r3 => some (r3.1, r3.2)

theorem kX2_release_46 : Cond.fieldLink RX2 46 "ZoneSampler$State" "pedalDown" "Z" ∈ wsX2_release := by decide +kernel
theorem jX2_release_X2 : ∀ w ∈ u_ws RX2 TX2 5, w ∈ wsX2_release := by decide +kernel
set_option maxHeartbeats 4000000 in
set_option maxRecDepth 100000 in
theorem c_X2_release (l : Launch) (G : va_G) (c3 : zT3) (oS : zR6) (BS : zSt) (p1 : Int32) {r : Int32} {Svf' : (Nat → Int32)} (hf : f_X2_release BS.2.1.1 BS.2.1.2 BS.2.2.2.1 p1 = some (r, Svf')) : zM l yX2_release wsX2_release ⟨2, 0, 0, 48⟩ G c3 (zwS c3.1 oS ((BS.1.1, BS.1.2), (BS.2.1.1, BS.2.1.2), BS.2.2.1, BS.2.2.2.1, BS.2.2.2.2)) [.ref oS.1, .int p1] (some (.int r)) (zwS c3.1 oS ((BS.1.1, BS.1.2), (BS.2.1.1, Svf'), BS.2.2.1, BS.2.2.2.1, BS.2.2.2.2)) := by
  obtain ⟨⟨Szr, Szf⟩, ⟨Svr, Svf⟩, Snm, Spd, Snt⟩ := BS
  have hf : f_X2_release Svr Svf Spd p1 = some (r, Svf') := hf
  show zM l yX2_release wsX2_release ⟨2, 0, 0, 48⟩ G c3 (zwS c3.1 oS ((Szr, Szf), (Svr, Svf), Snm, Spd, Snt)) [.ref oS.1, .int p1] (some (.int r)) (zwS c3.1 oS ((Szr, Szf), (Svr, Svf'), Snm, Spd, Snt))
  refine zM.of (cc := cX2_release) (maxL := 2) (ret := (some .int)) (by decide) rfl (Nat.le_of_ble_eq_true rfl) ?_
  intro p e s m args below meth c A ls S0 hr hlk hC hl
  have S0 : CallFix p m c cX2_release 2 s args wsX2_release RX2 := S0
  have hl : lv_has ls 2 [(0, .ref oS.1), (1, .int p1)] := hl
  have hx := S0.1
  have hb := S0.2.1
  obtain ⟨H, hH⟩ : ∃ y, y = s.heap := ⟨_, rfl⟩
  rw [← hH] at hC ⊢
  obtain ⟨locs, hlo⟩ : ∃ y : List Loc, y = [] := ⟨_, rfl⟩
  rw [← hlo] at hC ⊢
  clear hH hlo
  unfold f_X2_release at hf
  refine lv_aload_n hx hb dX2_release_0 rfl (lv_at hl 0 rfl) ?_
  refine lv_iload_n hx hb dX2_release_1 rfl (lv_at hl 1 rfl) ?_
  refine lv_aload_n hx hb dX2_release_2 rfl (lv_at hl 0 rfl) ?_
  refine z_get S0 hC (ci := 2) (C := RX2) (T := TX2) (N := 5) (v := .int Spd) jX2_release_X2 0 rfl rfl 3 (by decide) kX2_release_46 rfl rfl dX2_release_3 ?_
  obtain ⟨t2, ht2, hf⟩ := z_bind hf
  have Jt2 : ∀ (H : Heap) (locs : List Loc) (ls : Array Slot), zC G c3 A s (zwS c3.1 oS ((Szr, Szf), (Svr, Svf), Snm, Spd, Snt)) H locs → lv_has ls 2 [(0, .ref oS.1), (1, .int p1)] → W p l e ⟨2, 0, 0, 48⟩ s m args below meth c H locs 0 0 (MQ below (zPost G (zwS c3.1 oS ((Szr, Szf), (Svr, Svf'), Snm, Spd, Snt)) (some (.int r)) A) args s 0 0 A) (F0 m 14 ls [.int t2, .int p1, .ref oS.1]) := by
    intro H locs ls hC hl
    obtain ⟨r3, hr3, hf⟩ := z_bind hf
    refine z_calli (z_runV (n := 2) (rest := []) (As := [.int p1, .int t2]) S0 hC (c_X2_moveHeld l G c3 oS ((Szr, Szf), (Svr, Svf), Snm, Spd, Snt) p1 t2 hr3) [0, 1, 2, 3, 4, 5] (by decide) rfl gX2_release_X2_moveHeld rfl rfl rfl (by decide +kernel) ⟨Nat.le_of_ble_eq_true rfl, Nat.le_of_ble_eq_true rfl⟩ (ci := 2) (q0 := 0) rfl rfl rfl hl.1 rfl (Nat.le_of_ble_eq_true rfl) dX2_release_14) hC [0, 1, 2, 3, 4, 5] [] [0, 1, 2, 3, 4, 5] rfl (wr := ([] : va_W)) rfl (by decide) (by decide) (ws2 := (zwS c3.1 oS ((Szr, Szf), (Svr, r3.2), Snm, Spd, Snt))) rfl (by decide) (fun H locs hC => ?_)
    obtain ⟨e1, e2⟩ := z_s2 hf
    subst e1
    subst e2
    exact z_iret S0 hr hlk hC dX2_release_17
  refine lv_if_eq (tgt := 13) hx hb dX2_release_6 (by decide) (fun cd1 => ?_) (fun cd1 => ?_)
  · replace ht2 := z_pos cd1 ht2
    refine lv_iconst (v := 2) hx hb dX2_release_13 (by decide) ?_
    have e1 := z_s1 ht2
    subst e1
    exact Jt2 H locs ls hC (lv_sub hl [0, 1] rfl)
  · replace ht2 := z_neg cd1 ht2
    refine lv_iconst (v := 1) hx hb dX2_release_9 (by decide) ?_
    refine lv_goto (tgt := 14) hx hb dX2_release_10 (by decide) ?_
    have e1 := z_s1 ht2
    subst e1
    exact Jt2 H locs ls hC (lv_sub hl [0, 1] rfl)

-- X2 wear
def f_X2_wear (Szr : Int32) (Szf : (Nat → Int32)) (Svr : Int32) (Svf : (Nat → Int32)) (Snm : (Nat → Int32)) (p1 : Int32) : Option (Int32 × (Nat → Int32) × (Nat → Int32)) :=
  (f_X4_get 56 Svr Svf p1 4).bind fun r1 => (f_X4_get 56 Svr Svf p1 3).bind fun r2 => (f_X2_fadeOf Svr Svf Snm p1).bind fun r3 => (f_X4_put 56 Svr Svf p1 4 (r1 + 1)).bind fun r4 => (f_X4_put 56 Svr r4 p1 3 (r2 - r3)).bind fun r5 => if (r2 - r3) ≤ 0 then
    (f_X4_removeRow 56 Svr r5 p1).bind fun r7 => (f_X2_grow Snm 2 1).bind fun r8 => some (r7.1, r7.2, r8)
  else
    (f_X4_get 56 Svr r5 p1 0).bind fun r9 => (f_X4_get 70 Szr Szf r9 6).bind fun r10 => if (r1 + 1) < r10 then
      some (Svr, r5, Snm)
    else
      (f_X4_removeRow 56 Svr r5 p1).bind fun r12 => (f_X2_grow Snm 2 1).bind fun r13 => some (r12.1, r12.2, r13)

theorem kX2_wear_20 : Cond.fieldLink RX2 20 "ZoneSampler$State" "voices" "LZoneSampler$Table;" ∈ wsX2_wear := by decide +kernel
theorem kX2_wear_14 : Cond.fieldLink RX2 14 "ZoneSampler$State" "zones" "LZoneSampler$Table;" ∈ wsX2_wear := by decide +kernel
theorem jX2_wear_X2 : ∀ w ∈ u_ws RX2 TX2 5, w ∈ wsX2_wear := by decide +kernel
set_option maxHeartbeats 4000000 in
set_option maxRecDepth 100000 in
theorem c_X2_wear (l : Launch) (G : va_G) (c3 : zT3) (oS : zR6) (BS : zSt) (p1 : Int32) {Svr' : Int32} {Svf' : (Nat → Int32)} {Snm' : (Nat → Int32)} (hf : f_X2_wear BS.1.1 BS.1.2 BS.2.1.1 BS.2.1.2 BS.2.2.1 p1 = some (Svr', Svf', Snm')) : zM l yX2_wear wsX2_wear ⟨2, 0, 0, 44⟩ G c3 (zwS c3.1 oS ((BS.1.1, BS.1.2), (BS.2.1.1, BS.2.1.2), BS.2.2.1, BS.2.2.2.1, BS.2.2.2.2)) [.ref oS.1, .int p1] none (zwS c3.1 oS ((BS.1.1, BS.1.2), (Svr', Svf'), Snm', BS.2.2.2.1, BS.2.2.2.2)) := by
  obtain ⟨⟨Szr, Szf⟩, ⟨Svr, Svf⟩, Snm, Spd, Snt⟩ := BS
  have hf : f_X2_wear Szr Szf Svr Svf Snm p1 = some (Svr', Svf', Snm') := hf
  show zM l yX2_wear wsX2_wear ⟨2, 0, 0, 44⟩ G c3 (zwS c3.1 oS ((Szr, Szf), (Svr, Svf), Snm, Spd, Snt)) [.ref oS.1, .int p1] none (zwS c3.1 oS ((Szr, Szf), (Svr', Svf'), Snm', Spd, Snt))
  refine zM.of (cc := cX2_wear) (maxL := 4) (ret := none) (by decide) rfl (Nat.le_of_ble_eq_true rfl) ?_
  intro p e s m args below meth c A ls S0 hr hlk hC hl
  have S0 : CallFix p m c cX2_wear 4 s args wsX2_wear RX2 := S0
  have hl : lv_has ls 4 [(0, .ref oS.1), (1, .int p1)] := hl
  have hx := S0.1
  have hb := S0.2.1
  obtain ⟨H, hH⟩ : ∃ y, y = s.heap := ⟨_, rfl⟩
  rw [← hH] at hC ⊢
  obtain ⟨locs, hlo⟩ : ∃ y : List Loc, y = [] := ⟨_, rfl⟩
  rw [← hlo] at hC ⊢
  clear hH hlo
  unfold f_X2_wear at hf
  refine lv_aload_n hx hb dX2_wear_0 rfl (lv_at hl 0 rfl) ?_
  refine z_get S0 hC (ci := 2) (C := RX2) (T := TX2) (N := 5) (v := .ref oS.2.2.2.1) jX2_wear_X2 0 rfl rfl 1 (by decide) kX2_wear_20 rfl rfl dX2_wear_1 ?_
  refine lv_iload_n hx hb dX2_wear_4 rfl (lv_at hl 1 rfl) ?_
  refine lv_iconst (v := 4) hx hb dX2_wear_5 (by decide) ?_
  obtain ⟨r1, hr1, hf⟩ := z_bind hf
  refine z_callPi (z_runV (n := 2) (rest := []) (As := [.int p1, .int 4]) S0 hC (c_X4_get l G c3 oS.2.2.2 56 (Svr, Svf) p1 4 hr1) [4, 5] (by decide) rfl gX2_wear_X4_get rfl rfl rfl (by decide +kernel) ⟨Nat.le_of_ble_eq_true rfl, Nat.le_of_ble_eq_true rfl⟩ (ci := 4) (q0 := 4) rfl rfl rfl hl.1 rfl (Nat.le_of_ble_eq_true rfl) dX2_wear_6) hC [4, 5] rfl (fun H locs hC => ?_)
  refine lv_iconst (v := 1) hx hb dX2_wear_9 (by decide) ?_
  refine lv_iadd hx hb dX2_wear_10 ?_
  refine lv_istore_n (lv' := [(2, .int (r1 + 1)), (0, .ref oS.1), (1, .int p1)]) hx hb dX2_wear_11 rfl hl (by decide) rfl (fun ls hl => ?_)
  refine lv_aload_n hx hb dX2_wear_12 rfl (lv_at hl 1 rfl) ?_
  refine z_get S0 hC (ci := 2) (C := RX2) (T := TX2) (N := 5) (v := .ref oS.2.2.2.1) jX2_wear_X2 0 rfl rfl 1 (by decide) kX2_wear_20 rfl rfl dX2_wear_13 ?_
  refine lv_iload_n hx hb dX2_wear_16 rfl (lv_at hl 2 rfl) ?_
  refine lv_iconst (v := 3) hx hb dX2_wear_17 (by decide) ?_
  obtain ⟨r2, hr2, hf⟩ := z_bind hf
  refine z_callPi (z_runV (n := 2) (rest := []) (As := [.int p1, .int 3]) S0 hC (c_X4_get l G c3 oS.2.2.2 56 (Svr, Svf) p1 3 hr2) [4, 5] (by decide) rfl gX2_wear_X4_get rfl rfl rfl (by decide +kernel) ⟨Nat.le_of_ble_eq_true rfl, Nat.le_of_ble_eq_true rfl⟩ (ci := 4) (q0 := 4) rfl rfl rfl hl.1 rfl (Nat.le_of_ble_eq_true rfl) dX2_wear_18) hC [4, 5] rfl (fun H locs hC => ?_)
  refine lv_aload_n hx hb dX2_wear_21 rfl (lv_at hl 1 rfl) ?_
  refine lv_iload_n hx hb dX2_wear_22 rfl (lv_at hl 2 rfl) ?_
  obtain ⟨r3, hr3, hf⟩ := z_bind hf
  refine z_callPi (z_runV (n := 1) (rest := [.int r2]) (As := [.int p1]) S0 hC (c_X2_fadeOf l G c3 oS ((Szr, Szf), (Svr, Svf), Snm, Spd, Snt) p1 hr3) [0, 1, 2, 3, 4, 5] (by decide) rfl gX2_wear_X2_fadeOf rfl rfl rfl (by decide +kernel) ⟨Nat.le_of_ble_eq_true rfl, Nat.le_of_ble_eq_true rfl⟩ (ci := 2) (q0 := 0) rfl rfl rfl hl.1 rfl (Nat.le_of_ble_eq_true rfl) dX2_wear_23) hC [0, 1, 2, 3, 4, 5] rfl (fun H locs hC => ?_)
  refine lv_isub hx hb dX2_wear_26 ?_
  refine lv_istore_n (lv' := [(3, .int (r2 - r3)), (2, .int (r1 + 1)), (0, .ref oS.1), (1, .int p1)]) hx hb dX2_wear_27 rfl hl (by decide) rfl (fun ls hl => ?_)
  refine lv_aload_n hx hb dX2_wear_28 rfl (lv_at hl 2 rfl) ?_
  refine z_get S0 hC (ci := 2) (C := RX2) (T := TX2) (N := 5) (v := .ref oS.2.2.2.1) jX2_wear_X2 0 rfl rfl 1 (by decide) kX2_wear_20 rfl rfl dX2_wear_29 ?_
  refine lv_iload_n hx hb dX2_wear_32 rfl (lv_at hl 3 rfl) ?_
  refine lv_iconst (v := 4) hx hb dX2_wear_33 (by decide) ?_
  refine lv_iload_n hx hb dX2_wear_34 rfl (lv_at hl 1 rfl) ?_
  obtain ⟨r4, hr4, hf⟩ := z_bind hf
  refine z_callv (z_runV (n := 3) (rest := []) (As := [.int p1, .int 4, .int (r1 + 1)]) S0 hC (c_X4_put l G c3 oS.2.2.2 56 (Svr, Svf) p1 4 (r1 + 1) hr4) [4, 5] (by decide) rfl gX2_wear_X4_put rfl rfl rfl (by decide +kernel) ⟨Nat.le_of_ble_eq_true rfl, Nat.le_of_ble_eq_true rfl⟩ (ci := 4) (q0 := 4) rfl rfl rfl hl.1 rfl (Nat.le_of_ble_eq_true rfl) dX2_wear_35) hC [4, 5] [0, 1, 2, 3] [0, 1, 2, 3, 4, 5] rfl (wr := [(oS.1, .inr (2, [.ref oS.2.2.1.1, .ref oS.2.2.2.1, .ref oS.2.1, .int Spd, .int Snt])), (oS.2.1, .inl (c3.1, 13, .inl Snm)), (oS.2.2.1.1, .inr (4, [.int 7, .ref oS.2.2.1.2, .int Szr])), (oS.2.2.1.2, .inl (c3.1, 70, .inl Szf))]) rfl (by decide) (by decide) (ws2 := (zwS c3.1 oS ((Szr, Szf), (Svr, r4), Snm, Spd, Snt))) rfl (by decide) (fun H locs hC => ?_)
  refine lv_aload_n hx hb dX2_wear_38 rfl (lv_at hl 2 rfl) ?_
  refine z_get S0 hC (ci := 2) (C := RX2) (T := TX2) (N := 5) (v := .ref oS.2.2.2.1) jX2_wear_X2 0 rfl rfl 1 (by decide) kX2_wear_20 rfl rfl dX2_wear_39 ?_
  refine lv_iload_n hx hb dX2_wear_42 rfl (lv_at hl 3 rfl) ?_
  refine lv_iconst (v := 3) hx hb dX2_wear_43 (by decide) ?_
  refine lv_iload_n hx hb dX2_wear_44 rfl (lv_at hl 0 rfl) ?_
  obtain ⟨r5, hr5, hf⟩ := z_bind hf
  refine z_callv (z_runV (n := 3) (rest := []) (As := [.int p1, .int 3, .int (r2 - r3)]) S0 hC (c_X4_put l G c3 oS.2.2.2 56 (Svr, r4) p1 3 (r2 - r3) hr5) [4, 5] (by decide) rfl gX2_wear_X4_put rfl rfl rfl (by decide +kernel) ⟨Nat.le_of_ble_eq_true rfl, Nat.le_of_ble_eq_true rfl⟩ (ci := 4) (q0 := 4) rfl rfl rfl hl.1 rfl (Nat.le_of_ble_eq_true rfl) dX2_wear_45) hC [4, 5] [0, 1, 2, 3] [0, 1, 2, 3, 4, 5] rfl (wr := [(oS.1, .inr (2, [.ref oS.2.2.1.1, .ref oS.2.2.2.1, .ref oS.2.1, .int Spd, .int Snt])), (oS.2.1, .inl (c3.1, 13, .inl Snm)), (oS.2.2.1.1, .inr (4, [.int 7, .ref oS.2.2.1.2, .int Szr])), (oS.2.2.1.2, .inl (c3.1, 70, .inl Szf))]) rfl (by decide) (by decide) (ws2 := (zwS c3.1 oS ((Szr, Szf), (Svr, r5), Snm, Spd, Snt))) rfl (by decide) (fun H locs hC => ?_)
  refine lv_iload_n hx hb dX2_wear_48 rfl (lv_at hl 0 rfl) ?_
  refine lv_if_le (tgt := 74) hx hb dX2_wear_49 (by decide) (fun cd6 => ?_) (fun cd6 => ?_)
  · replace hf := z_pos cd6 hf
    refine lv_aload_n hx hb dX2_wear_74 rfl (lv_at hl 2 rfl) ?_
    refine z_get S0 hC (ci := 2) (C := RX2) (T := TX2) (N := 5) (v := .ref oS.2.2.2.1) jX2_wear_X2 0 rfl rfl 1 (by decide) kX2_wear_20 rfl rfl dX2_wear_75 ?_
    refine lv_iload_n hx hb dX2_wear_78 rfl (lv_at hl 3 rfl) ?_
    obtain ⟨r7, hr7, hf⟩ := z_bind hf
    refine z_callv (z_runV (n := 1) (rest := []) (As := [.int p1]) S0 hC (c_X4_removeRow l G c3 oS.2.2.2 56 (Svr, r5) p1 hr7) [4, 5] (by decide) rfl gX2_wear_X4_removeRow rfl rfl rfl (by decide +kernel) ⟨Nat.le_of_ble_eq_true rfl, Nat.le_of_ble_eq_true rfl⟩ (ci := 4) (q0 := 4) rfl rfl rfl hl.1 rfl (Nat.le_of_ble_eq_true rfl) dX2_wear_79) hC [4, 5] [0, 1, 2, 3] [0, 1, 2, 3, 4, 5] rfl (wr := [(oS.1, .inr (2, [.ref oS.2.2.1.1, .ref oS.2.2.2.1, .ref oS.2.1, .int Spd, .int Snt])), (oS.2.1, .inl (c3.1, 13, .inl Snm)), (oS.2.2.1.1, .inr (4, [.int 7, .ref oS.2.2.1.2, .int Szr])), (oS.2.2.1.2, .inl (c3.1, 70, .inl Szf))]) rfl (by decide) (by decide) (ws2 := (zwS c3.1 oS ((Szr, Szf), (r7.1, r7.2), Snm, Spd, Snt))) rfl (by decide) (fun H locs hC => ?_)
    refine lv_aload_n hx hb dX2_wear_82 rfl (lv_at hl 2 rfl) ?_
    refine lv_iconst (v := 2) hx hb dX2_wear_83 (by decide) ?_
    refine lv_iconst (v := 1) hx hb dX2_wear_84 (by decide) ?_
    obtain ⟨r8, hr8, hf⟩ := z_bind hf
    refine z_callv (z_runV (n := 2) (rest := []) (As := [.int 2, .int 1]) S0 hC (c_X2_grow l G c3 oS ((Szr, Szf), (r7.1, r7.2), Snm, Spd, Snt) 2 1 hr8) [0, 1, 2, 3, 4, 5] (by decide) rfl gX2_wear_X2_grow rfl rfl rfl (by decide +kernel) ⟨Nat.le_of_ble_eq_true rfl, Nat.le_of_ble_eq_true rfl⟩ (ci := 2) (q0 := 0) rfl rfl rfl hl.1 rfl (Nat.le_of_ble_eq_true rfl) dX2_wear_85) hC [0, 1, 2, 3, 4, 5] [] [0, 1, 2, 3, 4, 5] rfl (wr := ([] : va_W)) rfl (by decide) (by decide) (ws2 := (zwS c3.1 oS ((Szr, Szf), (r7.1, r7.2), r8, Spd, Snt))) rfl (by decide) (fun H locs hC => ?_)
    obtain ⟨e1, e2, e3⟩ := z_s3 hf
    subst e1
    subst e2
    subst e3
    exact z_vret S0 hr hlk hC dX2_wear_88
  · replace hf := z_neg cd6 hf
    refine lv_iload_n hx hb dX2_wear_52 rfl (lv_at hl 1 rfl) ?_
    refine lv_aload_n hx hb dX2_wear_53 rfl (lv_at hl 2 rfl) ?_
    refine z_get S0 hC (ci := 2) (C := RX2) (T := TX2) (N := 5) (v := .ref oS.2.2.1.1) jX2_wear_X2 0 rfl rfl 0 (by decide) kX2_wear_14 rfl rfl dX2_wear_54 ?_
    refine lv_aload_n hx hb dX2_wear_57 rfl (lv_at hl 2 rfl) ?_
    refine z_get S0 hC (ci := 2) (C := RX2) (T := TX2) (N := 5) (v := .ref oS.2.2.2.1) jX2_wear_X2 0 rfl rfl 1 (by decide) kX2_wear_20 rfl rfl dX2_wear_58 ?_
    refine lv_iload_n hx hb dX2_wear_61 rfl (lv_at hl 3 rfl) ?_
    refine lv_iconst (v := 0) hx hb dX2_wear_62 (by decide) ?_
    obtain ⟨r9, hr9, hf⟩ := z_bind hf
    refine z_callPi (z_runV (n := 2) (rest := [.ref oS.2.2.1.1, .int (r1 + 1)]) (As := [.int p1, .int 0]) S0 hC (c_X4_get l G c3 oS.2.2.2 56 (Svr, r5) p1 0 hr9) [4, 5] (by decide) rfl gX2_wear_X4_get rfl rfl rfl (by decide +kernel) ⟨Nat.le_of_ble_eq_true rfl, Nat.le_of_ble_eq_true rfl⟩ (ci := 4) (q0 := 4) rfl rfl rfl hl.1 rfl (Nat.le_of_ble_eq_true rfl) dX2_wear_63) hC [4, 5] rfl (fun H locs hC => ?_)
    refine lv_bipush (v := 6) hx hb dX2_wear_66 (by decide) ?_
    obtain ⟨r10, hr10, hf⟩ := z_bind hf
    refine z_callPi (z_runV (n := 2) (rest := [.int (r1 + 1)]) (As := [.int r9, .int 6]) S0 hC (c_X4_get l G c3 oS.2.2.1 70 (Szr, Szf) r9 6 hr10) [2, 3] (by decide) rfl gX2_wear_X4_get rfl rfl rfl (by decide +kernel) ⟨Nat.le_of_ble_eq_true rfl, Nat.le_of_ble_eq_true rfl⟩ (ci := 4) (q0 := 2) rfl rfl rfl hl.1 rfl (Nat.le_of_ble_eq_true rfl) dX2_wear_68) hC [2, 3] rfl (fun H locs hC => ?_)
    refine lv_icmp_lt (tgt := 88) hx hb dX2_wear_71 (by decide) (fun cd11 => ?_) (fun cd11 => ?_)
    · replace hf := z_pos cd11 hf
      obtain ⟨e1, e2, e3⟩ := z_s3 hf
      subst e1
      subst e2
      subst e3
      exact z_vret S0 hr hlk hC dX2_wear_88
    · replace hf := z_neg cd11 hf
      refine lv_aload_n hx hb dX2_wear_74 rfl (lv_at hl 2 rfl) ?_
      refine z_get S0 hC (ci := 2) (C := RX2) (T := TX2) (N := 5) (v := .ref oS.2.2.2.1) jX2_wear_X2 0 rfl rfl 1 (by decide) kX2_wear_20 rfl rfl dX2_wear_75 ?_
      refine lv_iload_n hx hb dX2_wear_78 rfl (lv_at hl 3 rfl) ?_
      obtain ⟨r12, hr12, hf⟩ := z_bind hf
      refine z_callv (z_runV (n := 1) (rest := []) (As := [.int p1]) S0 hC (c_X4_removeRow l G c3 oS.2.2.2 56 (Svr, r5) p1 hr12) [4, 5] (by decide) rfl gX2_wear_X4_removeRow rfl rfl rfl (by decide +kernel) ⟨Nat.le_of_ble_eq_true rfl, Nat.le_of_ble_eq_true rfl⟩ (ci := 4) (q0 := 4) rfl rfl rfl hl.1 rfl (Nat.le_of_ble_eq_true rfl) dX2_wear_79) hC [4, 5] [0, 1, 2, 3] [0, 1, 2, 3, 4, 5] rfl (wr := [(oS.1, .inr (2, [.ref oS.2.2.1.1, .ref oS.2.2.2.1, .ref oS.2.1, .int Spd, .int Snt])), (oS.2.1, .inl (c3.1, 13, .inl Snm)), (oS.2.2.1.1, .inr (4, [.int 7, .ref oS.2.2.1.2, .int Szr])), (oS.2.2.1.2, .inl (c3.1, 70, .inl Szf))]) rfl (by decide) (by decide) (ws2 := (zwS c3.1 oS ((Szr, Szf), (r12.1, r12.2), Snm, Spd, Snt))) rfl (by decide) (fun H locs hC => ?_)
      refine lv_aload_n hx hb dX2_wear_82 rfl (lv_at hl 2 rfl) ?_
      refine lv_iconst (v := 2) hx hb dX2_wear_83 (by decide) ?_
      refine lv_iconst (v := 1) hx hb dX2_wear_84 (by decide) ?_
      obtain ⟨r13, hr13, hf⟩ := z_bind hf
      refine z_callv (z_runV (n := 2) (rest := []) (As := [.int 2, .int 1]) S0 hC (c_X2_grow l G c3 oS ((Szr, Szf), (r12.1, r12.2), Snm, Spd, Snt) 2 1 hr13) [0, 1, 2, 3, 4, 5] (by decide) rfl gX2_wear_X2_grow rfl rfl rfl (by decide +kernel) ⟨Nat.le_of_ble_eq_true rfl, Nat.le_of_ble_eq_true rfl⟩ (ci := 2) (q0 := 0) rfl rfl rfl hl.1 rfl (Nat.le_of_ble_eq_true rfl) dX2_wear_85) hC [0, 1, 2, 3, 4, 5] [] [0, 1, 2, 3, 4, 5] rfl (wr := ([] : va_W)) rfl (by decide) (by decide) (ws2 := (zwS c3.1 oS ((Szr, Szf), (r12.1, r12.2), r13, Spd, Snt))) rfl (by decide) (fun H locs hC => ?_)
      obtain ⟨e1, e2, e3⟩ := z_s3 hf
      subst e1
      subst e2
      subst e3
      exact z_vret S0 hr hlk hC dX2_wear_88

-- X2 begin
def f_X2_begin (Szr : Int32) (Szf : (Nat → Int32)) (Svr : Int32) (Svf : (Nat → Int32)) (Snm : (Nat → Int32)) (Snt : Int32) (p1 : Int32) (p2 : Int32) (p3 : Int32) : Option (Int32 × (Nat → Int32) × (Nat → Int32)) :=
  (f_X4_get 70 Szr Szf p1 4).bind fun r1 => (f_X2_choke Szr Szf Svr Svf Snm Snt r1).bind fun r2 => (f_X2_number r2.2.2 6).bind fun r3 => (f_X2_stealDownTo r2.1 r2.2.1 r2.2.2 (r3 - 1)).bind fun r4 => (f_X4_addRow 56 r4.1).bind fun r5 => (f_X4_put 56 r5.2 r4.2.1 r5.1 0 p1).bind fun r6 => (f_X4_put 56 r5.2 r6 r5.1 1 p2).bind fun r7 => (f_X4_put 56 r5.2 r7 r5.1 2 p3).bind fun r8 => (f_X4_put 56 r5.2 r8 r5.1 3 (10 * p3)).bind fun r9 => (f_X4_put 56 r5.2 r9 r5.1 4 0).bind fun r10 => (f_X4_put 56 r5.2 r10 r5.1 5 0).bind fun r11 => (f_X4_put 56 r5.2 r11 r5.1 6 Snt).bind fun r12 => (f_X2_grow r4.2.2 1 1).bind fun r13 => some (r5.2, r12, r13)

theorem kX2_begin_14 : Cond.fieldLink RX2 14 "ZoneSampler$State" "zones" "LZoneSampler$Table;" ∈ wsX2_begin := by decide +kernel
theorem kX2_begin_20 : Cond.fieldLink RX2 20 "ZoneSampler$State" "voices" "LZoneSampler$Table;" ∈ wsX2_begin := by decide +kernel
theorem kX2_begin_50 : Cond.fieldLink RX2 50 "ZoneSampler$State" "notes" "I" ∈ wsX2_begin := by decide +kernel
theorem jX2_begin_X2 : ∀ w ∈ u_ws RX2 TX2 5, w ∈ wsX2_begin := by decide +kernel
set_option maxHeartbeats 4000000 in
set_option maxRecDepth 100000 in
theorem c_X2_begin (l : Launch) (G : va_G) (c3 : zT3) (oS : zR6) (BS : zSt) (p1 : Int32) (p2 : Int32) (p3 : Int32) {Svr' : Int32} {Svf' : (Nat → Int32)} {Snm' : (Nat → Int32)} (hf : f_X2_begin BS.1.1 BS.1.2 BS.2.1.1 BS.2.1.2 BS.2.2.1 BS.2.2.2.2 p1 p2 p3 = some (Svr', Svf', Snm')) : zM l yX2_begin wsX2_begin ⟨3, 0, 0, 68⟩ G c3 (zwS c3.1 oS ((BS.1.1, BS.1.2), (BS.2.1.1, BS.2.1.2), BS.2.2.1, BS.2.2.2.1, BS.2.2.2.2)) [.ref oS.1, .int p1, .int p2, .int p3] none (zwS c3.1 oS ((BS.1.1, BS.1.2), (Svr', Svf'), Snm', BS.2.2.2.1, BS.2.2.2.2)) := by
  obtain ⟨⟨Szr, Szf⟩, ⟨Svr, Svf⟩, Snm, Spd, Snt⟩ := BS
  have hf : f_X2_begin Szr Szf Svr Svf Snm Snt p1 p2 p3 = some (Svr', Svf', Snm') := hf
  show zM l yX2_begin wsX2_begin ⟨3, 0, 0, 68⟩ G c3 (zwS c3.1 oS ((Szr, Szf), (Svr, Svf), Snm, Spd, Snt)) [.ref oS.1, .int p1, .int p2, .int p3] none (zwS c3.1 oS ((Szr, Szf), (Svr', Svf'), Snm', Spd, Snt))
  refine zM.of (cc := cX2_begin) (maxL := 5) (ret := none) (by decide) rfl (Nat.le_of_ble_eq_true rfl) ?_
  intro p e s m args below meth c A ls S0 hr hlk hC hl
  have S0 : CallFix p m c cX2_begin 5 s args wsX2_begin RX2 := S0
  have hl : lv_has ls 5 [(0, .ref oS.1), (1, .int p1), (2, .int p2), (3, .int p3)] := hl
  have hx := S0.1
  have hb := S0.2.1
  obtain ⟨H, hH⟩ : ∃ y, y = s.heap := ⟨_, rfl⟩
  rw [← hH] at hC ⊢
  obtain ⟨locs, hlo⟩ : ∃ y : List Loc, y = [] := ⟨_, rfl⟩
  rw [← hlo] at hC ⊢
  clear hH hlo
  unfold f_X2_begin at hf
  refine lv_aload_n hx hb dX2_begin_0 rfl (lv_at hl 0 rfl) ?_
  refine lv_aload_n hx hb dX2_begin_1 rfl (lv_at hl 0 rfl) ?_
  refine z_get S0 hC (ci := 2) (C := RX2) (T := TX2) (N := 5) (v := .ref oS.2.2.1.1) jX2_begin_X2 0 rfl rfl 0 (by decide) kX2_begin_14 rfl rfl dX2_begin_2 ?_
  refine lv_iload_n hx hb dX2_begin_5 rfl (lv_at hl 1 rfl) ?_
  refine lv_iconst (v := 4) hx hb dX2_begin_6 (by decide) ?_
  obtain ⟨r1, hr1, hf⟩ := z_bind hf
  refine z_callPi (z_runV (n := 2) (rest := [.ref oS.1]) (As := [.int p1, .int 4]) S0 hC (c_X4_get l G c3 oS.2.2.1 70 (Szr, Szf) p1 4 hr1) [2, 3] (by decide) rfl gX2_begin_X4_get rfl rfl rfl (by decide +kernel) ⟨Nat.le_of_ble_eq_true rfl, Nat.le_of_ble_eq_true rfl⟩ (ci := 4) (q0 := 2) rfl rfl rfl hl.1 rfl (Nat.le_of_ble_eq_true rfl) dX2_begin_7) hC [2, 3] rfl (fun H locs hC => ?_)
  obtain ⟨r2, hr2, hf⟩ := z_bind hf
  refine z_callv (z_runV (n := 1) (rest := []) (As := [.int r1]) S0 hC (c_X2_choke l G c3 oS ((Szr, Szf), (Svr, Svf), Snm, Spd, Snt) r1 hr2) [0, 1, 2, 3, 4, 5] (by decide) rfl gX2_begin_X2_choke rfl rfl rfl (by decide +kernel) ⟨Nat.le_of_ble_eq_true rfl, Nat.le_of_ble_eq_true rfl⟩ (ci := 2) (q0 := 0) rfl rfl rfl hl.1 rfl (Nat.le_of_ble_eq_true rfl) dX2_begin_10) hC [0, 1, 2, 3, 4, 5] [] [0, 1, 2, 3, 4, 5] rfl (wr := ([] : va_W)) rfl (by decide) (by decide) (ws2 := (zwS c3.1 oS ((Szr, Szf), (r2.1, r2.2.1), r2.2.2, Spd, Snt))) rfl (by decide) (fun H locs hC => ?_)
  refine lv_aload_n hx hb dX2_begin_13 rfl (lv_at hl 0 rfl) ?_
  refine lv_aload_n hx hb dX2_begin_14 rfl (lv_at hl 0 rfl) ?_
  refine lv_bipush (v := 6) hx hb dX2_begin_15 (by decide) ?_
  obtain ⟨r3, hr3, hf⟩ := z_bind hf
  refine z_callPi (z_runV (n := 1) (rest := [.ref oS.1]) (As := [.int 6]) S0 hC (c_X2_number l G c3 oS ((Szr, Szf), (r2.1, r2.2.1), r2.2.2, Spd, Snt) 6 hr3) [0, 1, 2, 3, 4, 5] (by decide) rfl gX2_begin_X2_number rfl rfl rfl (by decide +kernel) ⟨Nat.le_of_ble_eq_true rfl, Nat.le_of_ble_eq_true rfl⟩ (ci := 2) (q0 := 0) rfl rfl rfl hl.1 rfl (Nat.le_of_ble_eq_true rfl) dX2_begin_17) hC [0, 1, 2, 3, 4, 5] rfl (fun H locs hC => ?_)
  refine lv_iconst (v := 1) hx hb dX2_begin_20 (by decide) ?_
  refine lv_isub hx hb dX2_begin_21 ?_
  obtain ⟨r4, hr4, hf⟩ := z_bind hf
  refine z_callv (z_runV (n := 1) (rest := []) (As := [.int (r3 - 1)]) S0 hC (c_X2_stealDownTo l G c3 oS ((Szr, Szf), (r2.1, r2.2.1), r2.2.2, Spd, Snt) (r3 - 1) hr4) [0, 1, 2, 3, 4, 5] (by decide) rfl gX2_begin_X2_stealDownTo rfl rfl rfl (by decide +kernel) ⟨Nat.le_of_ble_eq_true rfl, Nat.le_of_ble_eq_true rfl⟩ (ci := 2) (q0 := 0) rfl rfl rfl hl.1 rfl (Nat.le_of_ble_eq_true rfl) dX2_begin_22) hC [0, 1, 2, 3, 4, 5] [] [0, 1, 2, 3, 4, 5] rfl (wr := ([] : va_W)) rfl (by decide) (by decide) (ws2 := (zwS c3.1 oS ((Szr, Szf), (r4.1, r4.2.1), r4.2.2, Spd, Snt))) rfl (by decide) (fun H locs hC => ?_)
  refine lv_aload_n hx hb dX2_begin_25 rfl (lv_at hl 0 rfl) ?_
  refine z_get S0 hC (ci := 2) (C := RX2) (T := TX2) (N := 5) (v := .ref oS.2.2.2.1) jX2_begin_X2 0 rfl rfl 1 (by decide) kX2_begin_20 rfl rfl dX2_begin_26 ?_
  obtain ⟨r5, hr5, hf⟩ := z_bind hf
  refine z_calli (z_runV (n := 0) (rest := []) (As := []) S0 hC (c_X4_addRow l G c3 oS.2.2.2 56 (r4.1, r4.2.1) hr5) [4, 5] (by decide) rfl gX2_begin_X4_addRow rfl rfl rfl (by decide +kernel) ⟨Nat.le_of_ble_eq_true rfl, Nat.le_of_ble_eq_true rfl⟩ (ci := 4) (q0 := 4) rfl rfl rfl hl.1 rfl (Nat.le_of_ble_eq_true rfl) dX2_begin_29) hC [4, 5] [0, 1, 2, 3] [0, 1, 2, 3, 4, 5] rfl (wr := [(oS.1, .inr (2, [.ref oS.2.2.1.1, .ref oS.2.2.2.1, .ref oS.2.1, .int Spd, .int Snt])), (oS.2.1, .inl (c3.1, 13, .inl r4.2.2)), (oS.2.2.1.1, .inr (4, [.int 7, .ref oS.2.2.1.2, .int Szr])), (oS.2.2.1.2, .inl (c3.1, 70, .inl Szf))]) rfl (by decide) (by decide) (ws2 := (zwS c3.1 oS ((Szr, Szf), (r5.2, r4.2.1), r4.2.2, Spd, Snt))) rfl (by decide) (fun H locs hC => ?_)
  refine lv_istore (lv' := [(4, .int r5.1), (0, .ref oS.1), (1, .int p1), (2, .int p2), (3, .int p3)]) hx hb dX2_begin_32 hl (by decide) rfl (fun ls hl => ?_)
  refine lv_aload_n hx hb dX2_begin_34 rfl (lv_at hl 1 rfl) ?_
  refine z_get S0 hC (ci := 2) (C := RX2) (T := TX2) (N := 5) (v := .ref oS.2.2.2.1) jX2_begin_X2 0 rfl rfl 1 (by decide) kX2_begin_20 rfl rfl dX2_begin_35 ?_
  refine lv_iload hx hb dX2_begin_38 (lv_at hl 0 rfl) ?_
  refine lv_iconst (v := 0) hx hb dX2_begin_40 (by decide) ?_
  refine lv_iload_n hx hb dX2_begin_41 rfl (lv_at hl 2 rfl) ?_
  obtain ⟨r6, hr6, hf⟩ := z_bind hf
  refine z_callv (z_runV (n := 3) (rest := []) (As := [.int r5.1, .int 0, .int p1]) S0 hC (c_X4_put l G c3 oS.2.2.2 56 (r5.2, r4.2.1) r5.1 0 p1 hr6) [4, 5] (by decide) rfl gX2_begin_X4_put rfl rfl rfl (by decide +kernel) ⟨Nat.le_of_ble_eq_true rfl, Nat.le_of_ble_eq_true rfl⟩ (ci := 4) (q0 := 4) rfl rfl rfl hl.1 rfl (Nat.le_of_ble_eq_true rfl) dX2_begin_42) hC [4, 5] [0, 1, 2, 3] [0, 1, 2, 3, 4, 5] rfl (wr := [(oS.1, .inr (2, [.ref oS.2.2.1.1, .ref oS.2.2.2.1, .ref oS.2.1, .int Spd, .int Snt])), (oS.2.1, .inl (c3.1, 13, .inl r4.2.2)), (oS.2.2.1.1, .inr (4, [.int 7, .ref oS.2.2.1.2, .int Szr])), (oS.2.2.1.2, .inl (c3.1, 70, .inl Szf))]) rfl (by decide) (by decide) (ws2 := (zwS c3.1 oS ((Szr, Szf), (r5.2, r6), r4.2.2, Spd, Snt))) rfl (by decide) (fun H locs hC => ?_)
  refine lv_aload_n hx hb dX2_begin_45 rfl (lv_at hl 1 rfl) ?_
  refine z_get S0 hC (ci := 2) (C := RX2) (T := TX2) (N := 5) (v := .ref oS.2.2.2.1) jX2_begin_X2 0 rfl rfl 1 (by decide) kX2_begin_20 rfl rfl dX2_begin_46 ?_
  refine lv_iload hx hb dX2_begin_49 (lv_at hl 0 rfl) ?_
  refine lv_iconst (v := 1) hx hb dX2_begin_51 (by decide) ?_
  refine lv_iload_n hx hb dX2_begin_52 rfl (lv_at hl 3 rfl) ?_
  obtain ⟨r7, hr7, hf⟩ := z_bind hf
  refine z_callv (z_runV (n := 3) (rest := []) (As := [.int r5.1, .int 1, .int p2]) S0 hC (c_X4_put l G c3 oS.2.2.2 56 (r5.2, r6) r5.1 1 p2 hr7) [4, 5] (by decide) rfl gX2_begin_X4_put rfl rfl rfl (by decide +kernel) ⟨Nat.le_of_ble_eq_true rfl, Nat.le_of_ble_eq_true rfl⟩ (ci := 4) (q0 := 4) rfl rfl rfl hl.1 rfl (Nat.le_of_ble_eq_true rfl) dX2_begin_53) hC [4, 5] [0, 1, 2, 3] [0, 1, 2, 3, 4, 5] rfl (wr := [(oS.1, .inr (2, [.ref oS.2.2.1.1, .ref oS.2.2.2.1, .ref oS.2.1, .int Spd, .int Snt])), (oS.2.1, .inl (c3.1, 13, .inl r4.2.2)), (oS.2.2.1.1, .inr (4, [.int 7, .ref oS.2.2.1.2, .int Szr])), (oS.2.2.1.2, .inl (c3.1, 70, .inl Szf))]) rfl (by decide) (by decide) (ws2 := (zwS c3.1 oS ((Szr, Szf), (r5.2, r7), r4.2.2, Spd, Snt))) rfl (by decide) (fun H locs hC => ?_)
  refine lv_aload_n hx hb dX2_begin_56 rfl (lv_at hl 1 rfl) ?_
  refine z_get S0 hC (ci := 2) (C := RX2) (T := TX2) (N := 5) (v := .ref oS.2.2.2.1) jX2_begin_X2 0 rfl rfl 1 (by decide) kX2_begin_20 rfl rfl dX2_begin_57 ?_
  refine lv_iload hx hb dX2_begin_60 (lv_at hl 0 rfl) ?_
  refine lv_iconst (v := 2) hx hb dX2_begin_62 (by decide) ?_
  refine lv_iload_n hx hb dX2_begin_63 rfl (lv_at hl 4 rfl) ?_
  obtain ⟨r8, hr8, hf⟩ := z_bind hf
  refine z_callv (z_runV (n := 3) (rest := []) (As := [.int r5.1, .int 2, .int p3]) S0 hC (c_X4_put l G c3 oS.2.2.2 56 (r5.2, r7) r5.1 2 p3 hr8) [4, 5] (by decide) rfl gX2_begin_X4_put rfl rfl rfl (by decide +kernel) ⟨Nat.le_of_ble_eq_true rfl, Nat.le_of_ble_eq_true rfl⟩ (ci := 4) (q0 := 4) rfl rfl rfl hl.1 rfl (Nat.le_of_ble_eq_true rfl) dX2_begin_64) hC [4, 5] [0, 1, 2, 3] [0, 1, 2, 3, 4, 5] rfl (wr := [(oS.1, .inr (2, [.ref oS.2.2.1.1, .ref oS.2.2.2.1, .ref oS.2.1, .int Spd, .int Snt])), (oS.2.1, .inl (c3.1, 13, .inl r4.2.2)), (oS.2.2.1.1, .inr (4, [.int 7, .ref oS.2.2.1.2, .int Szr])), (oS.2.2.1.2, .inl (c3.1, 70, .inl Szf))]) rfl (by decide) (by decide) (ws2 := (zwS c3.1 oS ((Szr, Szf), (r5.2, r8), r4.2.2, Spd, Snt))) rfl (by decide) (fun H locs hC => ?_)
  refine lv_aload_n hx hb dX2_begin_67 rfl (lv_at hl 1 rfl) ?_
  refine z_get S0 hC (ci := 2) (C := RX2) (T := TX2) (N := 5) (v := .ref oS.2.2.2.1) jX2_begin_X2 0 rfl rfl 1 (by decide) kX2_begin_20 rfl rfl dX2_begin_68 ?_
  refine lv_iload hx hb dX2_begin_71 (lv_at hl 0 rfl) ?_
  refine lv_iconst (v := 3) hx hb dX2_begin_73 (by decide) ?_
  refine lv_bipush (v := 10) hx hb dX2_begin_74 (by decide) ?_
  refine lv_iload_n hx hb dX2_begin_76 rfl (lv_at hl 4 rfl) ?_
  refine lv_imul hx hb dX2_begin_77 ?_
  obtain ⟨r9, hr9, hf⟩ := z_bind hf
  refine z_callv (z_runV (n := 3) (rest := []) (As := [.int r5.1, .int 3, .int (10 * p3)]) S0 hC (c_X4_put l G c3 oS.2.2.2 56 (r5.2, r8) r5.1 3 (10 * p3) hr9) [4, 5] (by decide) rfl gX2_begin_X4_put rfl rfl rfl (by decide +kernel) ⟨Nat.le_of_ble_eq_true rfl, Nat.le_of_ble_eq_true rfl⟩ (ci := 4) (q0 := 4) rfl rfl rfl hl.1 rfl (Nat.le_of_ble_eq_true rfl) dX2_begin_78) hC [4, 5] [0, 1, 2, 3] [0, 1, 2, 3, 4, 5] rfl (wr := [(oS.1, .inr (2, [.ref oS.2.2.1.1, .ref oS.2.2.2.1, .ref oS.2.1, .int Spd, .int Snt])), (oS.2.1, .inl (c3.1, 13, .inl r4.2.2)), (oS.2.2.1.1, .inr (4, [.int 7, .ref oS.2.2.1.2, .int Szr])), (oS.2.2.1.2, .inl (c3.1, 70, .inl Szf))]) rfl (by decide) (by decide) (ws2 := (zwS c3.1 oS ((Szr, Szf), (r5.2, r9), r4.2.2, Spd, Snt))) rfl (by decide) (fun H locs hC => ?_)
  refine lv_aload_n hx hb dX2_begin_81 rfl (lv_at hl 1 rfl) ?_
  refine z_get S0 hC (ci := 2) (C := RX2) (T := TX2) (N := 5) (v := .ref oS.2.2.2.1) jX2_begin_X2 0 rfl rfl 1 (by decide) kX2_begin_20 rfl rfl dX2_begin_82 ?_
  refine lv_iload hx hb dX2_begin_85 (lv_at hl 0 rfl) ?_
  refine lv_iconst (v := 4) hx hb dX2_begin_87 (by decide) ?_
  refine lv_iconst (v := 0) hx hb dX2_begin_88 (by decide) ?_
  obtain ⟨r10, hr10, hf⟩ := z_bind hf
  refine z_callv (z_runV (n := 3) (rest := []) (As := [.int r5.1, .int 4, .int 0]) S0 hC (c_X4_put l G c3 oS.2.2.2 56 (r5.2, r9) r5.1 4 0 hr10) [4, 5] (by decide) rfl gX2_begin_X4_put rfl rfl rfl (by decide +kernel) ⟨Nat.le_of_ble_eq_true rfl, Nat.le_of_ble_eq_true rfl⟩ (ci := 4) (q0 := 4) rfl rfl rfl hl.1 rfl (Nat.le_of_ble_eq_true rfl) dX2_begin_89) hC [4, 5] [0, 1, 2, 3] [0, 1, 2, 3, 4, 5] rfl (wr := [(oS.1, .inr (2, [.ref oS.2.2.1.1, .ref oS.2.2.2.1, .ref oS.2.1, .int Spd, .int Snt])), (oS.2.1, .inl (c3.1, 13, .inl r4.2.2)), (oS.2.2.1.1, .inr (4, [.int 7, .ref oS.2.2.1.2, .int Szr])), (oS.2.2.1.2, .inl (c3.1, 70, .inl Szf))]) rfl (by decide) (by decide) (ws2 := (zwS c3.1 oS ((Szr, Szf), (r5.2, r10), r4.2.2, Spd, Snt))) rfl (by decide) (fun H locs hC => ?_)
  refine lv_aload_n hx hb dX2_begin_92 rfl (lv_at hl 1 rfl) ?_
  refine z_get S0 hC (ci := 2) (C := RX2) (T := TX2) (N := 5) (v := .ref oS.2.2.2.1) jX2_begin_X2 0 rfl rfl 1 (by decide) kX2_begin_20 rfl rfl dX2_begin_93 ?_
  refine lv_iload hx hb dX2_begin_96 (lv_at hl 0 rfl) ?_
  refine lv_iconst (v := 5) hx hb dX2_begin_98 (by decide) ?_
  refine lv_iconst (v := 0) hx hb dX2_begin_99 (by decide) ?_
  obtain ⟨r11, hr11, hf⟩ := z_bind hf
  refine z_callv (z_runV (n := 3) (rest := []) (As := [.int r5.1, .int 5, .int 0]) S0 hC (c_X4_put l G c3 oS.2.2.2 56 (r5.2, r10) r5.1 5 0 hr11) [4, 5] (by decide) rfl gX2_begin_X4_put rfl rfl rfl (by decide +kernel) ⟨Nat.le_of_ble_eq_true rfl, Nat.le_of_ble_eq_true rfl⟩ (ci := 4) (q0 := 4) rfl rfl rfl hl.1 rfl (Nat.le_of_ble_eq_true rfl) dX2_begin_100) hC [4, 5] [0, 1, 2, 3] [0, 1, 2, 3, 4, 5] rfl (wr := [(oS.1, .inr (2, [.ref oS.2.2.1.1, .ref oS.2.2.2.1, .ref oS.2.1, .int Spd, .int Snt])), (oS.2.1, .inl (c3.1, 13, .inl r4.2.2)), (oS.2.2.1.1, .inr (4, [.int 7, .ref oS.2.2.1.2, .int Szr])), (oS.2.2.1.2, .inl (c3.1, 70, .inl Szf))]) rfl (by decide) (by decide) (ws2 := (zwS c3.1 oS ((Szr, Szf), (r5.2, r11), r4.2.2, Spd, Snt))) rfl (by decide) (fun H locs hC => ?_)
  refine lv_aload_n hx hb dX2_begin_103 rfl (lv_at hl 1 rfl) ?_
  refine z_get S0 hC (ci := 2) (C := RX2) (T := TX2) (N := 5) (v := .ref oS.2.2.2.1) jX2_begin_X2 0 rfl rfl 1 (by decide) kX2_begin_20 rfl rfl dX2_begin_104 ?_
  refine lv_iload hx hb dX2_begin_107 (lv_at hl 0 rfl) ?_
  refine lv_bipush (v := 6) hx hb dX2_begin_109 (by decide) ?_
  refine lv_aload_n hx hb dX2_begin_111 rfl (lv_at hl 1 rfl) ?_
  refine z_get S0 hC (ci := 2) (C := RX2) (T := TX2) (N := 5) (v := .int Snt) jX2_begin_X2 0 rfl rfl 4 (by decide) kX2_begin_50 rfl rfl dX2_begin_112 ?_
  obtain ⟨r12, hr12, hf⟩ := z_bind hf
  refine z_callv (z_runV (n := 3) (rest := []) (As := [.int r5.1, .int 6, .int Snt]) S0 hC (c_X4_put l G c3 oS.2.2.2 56 (r5.2, r11) r5.1 6 Snt hr12) [4, 5] (by decide) rfl gX2_begin_X4_put rfl rfl rfl (by decide +kernel) ⟨Nat.le_of_ble_eq_true rfl, Nat.le_of_ble_eq_true rfl⟩ (ci := 4) (q0 := 4) rfl rfl rfl hl.1 rfl (Nat.le_of_ble_eq_true rfl) dX2_begin_115) hC [4, 5] [0, 1, 2, 3] [0, 1, 2, 3, 4, 5] rfl (wr := [(oS.1, .inr (2, [.ref oS.2.2.1.1, .ref oS.2.2.2.1, .ref oS.2.1, .int Spd, .int Snt])), (oS.2.1, .inl (c3.1, 13, .inl r4.2.2)), (oS.2.2.1.1, .inr (4, [.int 7, .ref oS.2.2.1.2, .int Szr])), (oS.2.2.1.2, .inl (c3.1, 70, .inl Szf))]) rfl (by decide) (by decide) (ws2 := (zwS c3.1 oS ((Szr, Szf), (r5.2, r12), r4.2.2, Spd, Snt))) rfl (by decide) (fun H locs hC => ?_)
  refine lv_aload_n hx hb dX2_begin_118 rfl (lv_at hl 1 rfl) ?_
  refine lv_iconst (v := 1) hx hb dX2_begin_119 (by decide) ?_
  refine lv_iconst (v := 1) hx hb dX2_begin_120 (by decide) ?_
  obtain ⟨r13, hr13, hf⟩ := z_bind hf
  refine z_callv (z_runV (n := 2) (rest := []) (As := [.int 1, .int 1]) S0 hC (c_X2_grow l G c3 oS ((Szr, Szf), (r5.2, r12), r4.2.2, Spd, Snt) 1 1 hr13) [0, 1, 2, 3, 4, 5] (by decide) rfl gX2_begin_X2_grow rfl rfl rfl (by decide +kernel) ⟨Nat.le_of_ble_eq_true rfl, Nat.le_of_ble_eq_true rfl⟩ (ci := 2) (q0 := 0) rfl rfl rfl hl.1 rfl (Nat.le_of_ble_eq_true rfl) dX2_begin_121) hC [0, 1, 2, 3, 4, 5] [] [0, 1, 2, 3, 4, 5] rfl (wr := ([] : va_W)) rfl (by decide) (by decide) (ws2 := (zwS c3.1 oS ((Szr, Szf), (r5.2, r12), r13, Spd, Snt))) rfl (by decide) (fun H locs hC => ?_)
  obtain ⟨e1, e2, e3⟩ := z_s3 hf
  subst e1
  subst e2
  subst e3
  exact z_vret S0 hr hlk hC dX2_begin_124

-- X2 runTicks
def f_X2_runTicks_24 (y3 : Int32) (Szr : Int32) (Szf : (Nat → Int32)) : Nat → Int32 → Int32 → (Nat → Int32) → (Nat → Int32) → Option (Int32 × Int32 × (Nat → Int32) × (Nat → Int32))
  | 0, _, _, _, _ => none
  | fu + 1, y4, Svr, Svf, Snm =>
    if y4 < 0 then
      some (y4, Svr, Svf, Snm)
    else
      (f_X2_wear Szr Szf Svr Svf Snm y4).bind fun r7 => f_X2_runTicks_24 y3 Szr Szf fu (y4 + (-1)) r7.1 r7.2.1 r7.2.2

theorem f_X2_runTicks_24_s (y3 : Int32) (Szr : Int32) (Szf : (Nat → Int32)) (y4 : Int32) (Svr : Int32) (Svf : (Nat → Int32)) (Snm : (Nat → Int32)) (fu : Nat) : f_X2_runTicks_24 y3 Szr Szf (fu + 1) y4 Svr Svf Snm = (
    if y4 < 0 then
      some (y4, Svr, Svf, Snm)
    else
      (f_X2_wear Szr Szf Svr Svf Snm y4).bind fun r7 => f_X2_runTicks_24 y3 Szr Szf fu (y4 + (-1)) r7.1 r7.2.1 r7.2.2
    ) := rfl

def f_X2_runTicks_8 (y1 : Int32) (Szr : Int32) (Szf : (Nat → Int32)) : Nat → Int32 → Int32 → (Nat → Int32) → (Nat → Int32) → Option (Int32 × Int32 × (Nat → Int32) × (Nat → Int32))
  | 0, _, _, _, _ => none
  | fu + 1, y3, Svr, Svf, Snm =>
    if y1 ≤ y3 then
      some (y3, Svr, Svf, Snm)
    else
      (f_X4_rows 56 Svr).bind fun r4 => (f_X2_runTicks_24 y3 Szr Szf zF (r4 - 1) Svr Svf Snm).bind fun t8 =>
        f_X2_runTicks_8 y1 Szr Szf fu (y3 + 1) t8.2.1 t8.2.2.1 t8.2.2.2

theorem f_X2_runTicks_8_s (y1 : Int32) (Szr : Int32) (Szf : (Nat → Int32)) (y3 : Int32) (Svr : Int32) (Svf : (Nat → Int32)) (Snm : (Nat → Int32)) (fu : Nat) : f_X2_runTicks_8 y1 Szr Szf (fu + 1) y3 Svr Svf Snm = (
    if y1 ≤ y3 then
      some (y3, Svr, Svf, Snm)
    else
      (f_X4_rows 56 Svr).bind fun r4 => (f_X2_runTicks_24 y3 Szr Szf zF (r4 - 1) Svr Svf Snm).bind fun t8 =>
        f_X2_runTicks_8 y1 Szr Szf fu (y3 + 1) t8.2.1 t8.2.2.1 t8.2.2.2
    ) := rfl

def f_X2_runTicks (Szr : Int32) (Szf : (Nat → Int32)) (Svr : Int32) (Svf : (Nat → Int32)) (Snm : (Nat → Int32)) (p1 : Int32) : Option (Int32 × Int32 × (Nat → Int32) × (Nat → Int32)) :=
  (f_X2_number Snm 2).bind fun r1 => (f_X2_runTicks_8 p1 Szr Szf zF 0 Svr Svf Snm).bind fun t9 =>
    (f_X2_grow t9.2.2.2 0 p1).bind fun r10 => (f_X2_number r10 2).bind fun r11 => some ((r11 - r1), t9.2.1, t9.2.2.1, r10)

theorem kX2_runTicks_20 : Cond.fieldLink RX2 20 "ZoneSampler$State" "voices" "LZoneSampler$Table;" ∈ wsX2_runTicks := by decide +kernel
theorem jX2_runTicks_X2 : ∀ w ∈ u_ws RX2 TX2 5, w ∈ wsX2_runTicks := by decide +kernel
set_option maxHeartbeats 4000000 in
set_option maxRecDepth 100000 in
theorem c_X2_runTicks (l : Launch) (G : va_G) (c3 : zT3) (oS : zR6) (BS : zSt) (p1 : Int32) {r : Int32} {Svr' : Int32} {Svf' : (Nat → Int32)} {Snm' : (Nat → Int32)} (hf : f_X2_runTicks BS.1.1 BS.1.2 BS.2.1.1 BS.2.1.2 BS.2.2.1 p1 = some (r, Svr', Svf', Snm')) : zM l yX2_runTicks wsX2_runTicks ⟨3, 0, 0, 67⟩ G c3 (zwS c3.1 oS ((BS.1.1, BS.1.2), (BS.2.1.1, BS.2.1.2), BS.2.2.1, BS.2.2.2.1, BS.2.2.2.2)) [.ref oS.1, .int p1] (some (.int r)) (zwS c3.1 oS ((BS.1.1, BS.1.2), (Svr', Svf'), Snm', BS.2.2.2.1, BS.2.2.2.2)) := by
  obtain ⟨⟨Szr, Szf⟩, ⟨Svr, Svf⟩, Snm, Spd, Snt⟩ := BS
  have hf : f_X2_runTicks Szr Szf Svr Svf Snm p1 = some (r, Svr', Svf', Snm') := hf
  show zM l yX2_runTicks wsX2_runTicks ⟨3, 0, 0, 67⟩ G c3 (zwS c3.1 oS ((Szr, Szf), (Svr, Svf), Snm, Spd, Snt)) [.ref oS.1, .int p1] (some (.int r)) (zwS c3.1 oS ((Szr, Szf), (Svr', Svf'), Snm', Spd, Snt))
  refine zM.of (cc := cX2_runTicks) (maxL := 5) (ret := (some .int)) (by decide) rfl (Nat.le_of_ble_eq_true rfl) ?_
  intro p e s m args below meth c A ls S0 hr hlk hC hl
  have S0 : CallFix p m c cX2_runTicks 5 s args wsX2_runTicks RX2 := S0
  have hl : lv_has ls 5 [(0, .ref oS.1), (1, .int p1)] := hl
  have hx := S0.1
  have hb := S0.2.1
  obtain ⟨H, hH⟩ : ∃ y, y = s.heap := ⟨_, rfl⟩
  rw [← hH] at hC ⊢
  obtain ⟨locs, hlo⟩ : ∃ y : List Loc, y = [] := ⟨_, rfl⟩
  rw [← hlo] at hC ⊢
  clear hH hlo
  unfold f_X2_runTicks at hf
  refine lv_aload_n hx hb dX2_runTicks_0 rfl (lv_at hl 0 rfl) ?_
  refine lv_iconst (v := 2) hx hb dX2_runTicks_1 (by decide) ?_
  obtain ⟨r1, hr1, hf⟩ := z_bind hf
  refine z_callPi (z_runV (n := 1) (rest := []) (As := [.int 2]) S0 hC (c_X2_number l G c3 oS ((Szr, Szf), (Svr, Svf), Snm, Spd, Snt) 2 hr1) [0, 1, 2, 3, 4, 5] (by decide) rfl gX2_runTicks_X2_number rfl rfl rfl (by decide +kernel) ⟨Nat.le_of_ble_eq_true rfl, Nat.le_of_ble_eq_true rfl⟩ (ci := 2) (q0 := 0) rfl rfl rfl hl.1 rfl (Nat.le_of_ble_eq_true rfl) dX2_runTicks_2) hC [0, 1, 2, 3, 4, 5] rfl (fun H locs hC => ?_)
  refine lv_istore_n (lv' := [(2, .int r1), (0, .ref oS.1), (1, .int p1)]) hx hb dX2_runTicks_5 rfl hl (by decide) rfl (fun ls hl => ?_)
  refine lv_iconst (v := 0) hx hb dX2_runTicks_6 (by decide) ?_
  refine lv_istore_n (lv' := [(3, .int 0), (2, .int r1), (0, .ref oS.1), (1, .int p1)]) hx hb dX2_runTicks_7 rfl hl (by decide) rfl (fun ls hl => ?_)
  have L8 : ∀ (fu : Nat) (y1 : Int32) (y2 : Int32) (y3 : Int32) (Szr : Int32) (Szf : (Nat → Int32)) (Svr : Int32) (Svf : (Nat → Int32)) (Snm : (Nat → Int32)) (Spd : Int32) (Snt : Int32) (tt : Int32 × Int32 × (Nat → Int32) × (Nat → Int32)), f_X2_runTicks_8 y1 Szr Szf fu y3 Svr Svf Snm = some tt → ∀ (H : Heap) (locs : List Loc) (ls : Array Slot), zC G c3 A s (zwS c3.1 oS ((Szr, Szf), (Svr, Svf), Snm, Spd, Snt)) H locs → lv_has ls 5 [(0, .ref oS.1), (1, .int y1), (2, .int y2), (3, .int y3)] → (∀ (H : Heap) (locs : List Loc) (ls : Array Slot), zC G c3 A s (zwS c3.1 oS ((Szr, Szf), (tt.2.1, tt.2.2.1), tt.2.2.2, Spd, Snt)) H locs → lv_has ls 5 [(0, .ref oS.1), (1, .int y1), (2, .int y2), (3, .int tt.1)] → W p l e ⟨3, 0, 0, 67⟩ s m args below meth c H locs 0 0 (MQ below (zPost G (zwS c3.1 oS ((Szr, Szf), (Svr', Svf'), Snm', Spd, Snt)) (some (.int r)) A) args s 0 0 A) (F0 m 47 ls [])) → W p l e ⟨3, 0, 0, 67⟩ s m args below meth c H locs 0 0 (MQ below (zPost G (zwS c3.1 oS ((Szr, Szf), (Svr', Svf'), Snm', Spd, Snt)) (some (.int r)) A) args s 0 0 A) (F0 m 8 ls []) := by
    intro fu
    induction fu with
    | zero =>
      intro y1 y2 y3 Szr Szf Svr Svf Snm Spd Snt tt hf H locs ls hC hl hK
      exact (z_none hf).elim
    | succ fu ih8 =>
      intro y1 y2 y3 Szr Szf Svr Svf Snm Spd Snt tt hf H locs ls hC hl hK
      replace hf := (f_X2_runTicks_8_s y1 Szr Szf y3 Svr Svf Snm fu).symm.trans hf
      refine lv_iload_n hx hb dX2_runTicks_8 rfl (lv_at hl 3 rfl) ?_
      refine lv_iload_n hx hb dX2_runTicks_9 rfl (lv_at hl 1 rfl) ?_
      refine lv_icmp_ge (tgt := 47) hx hb dX2_runTicks_10 (by decide) (fun cd3 => ?_) (fun cd3 => ?_)
      · replace hf := z_pos cd3 hf
        have e1 := z_s1 hf
        subst e1
        exact hK H locs ls hC (lv_sub hl [0, 1, 2, 3] rfl)
      · replace hf := z_neg cd3 hf
        refine lv_aload_n hx hb dX2_runTicks_13 rfl (lv_at hl 0 rfl) ?_
        refine z_get S0 hC (ci := 2) (C := RX2) (T := TX2) (N := 5) (v := .ref oS.2.2.2.1) jX2_runTicks_X2 0 rfl rfl 1 (by decide) kX2_runTicks_20 rfl rfl dX2_runTicks_14 ?_
        obtain ⟨r4, hr4, hf⟩ := z_bind hf
        refine z_callPi (z_runV (n := 0) (rest := []) (As := []) S0 hC (c_X4_rows l G c3 oS.2.2.2 56 (Svr, Svf) hr4) [4, 5] (by decide) rfl gX2_runTicks_X4_rows rfl rfl rfl (by decide +kernel) ⟨Nat.le_of_ble_eq_true rfl, Nat.le_of_ble_eq_true rfl⟩ (ci := 4) (q0 := 4) rfl rfl rfl hl.1 rfl (Nat.le_of_ble_eq_true rfl) dX2_runTicks_17) hC [4, 5] rfl (fun H locs hC => ?_)
        refine lv_iconst (v := 1) hx hb dX2_runTicks_20 (by decide) ?_
        refine lv_isub hx hb dX2_runTicks_21 ?_
        refine lv_istore (lv' := [(4, .int (r4 - 1)), (0, .ref oS.1), (1, .int y1), (2, .int y2), (3, .int y3)]) hx hb dX2_runTicks_22 hl (by decide) rfl (fun ls hl => ?_)
        have L24 : ∀ (fu : Nat) (y1 : Int32) (y2 : Int32) (y3 : Int32) (y4 : Int32) (Szr : Int32) (Szf : (Nat → Int32)) (Svr : Int32) (Svf : (Nat → Int32)) (Snm : (Nat → Int32)) (Spd : Int32) (Snt : Int32) (tt : Int32 × Int32 × (Nat → Int32) × (Nat → Int32)), f_X2_runTicks_24 y3 Szr Szf fu y4 Svr Svf Snm = some tt → ∀ (H : Heap) (locs : List Loc) (ls : Array Slot), zC G c3 A s (zwS c3.1 oS ((Szr, Szf), (Svr, Svf), Snm, Spd, Snt)) H locs → lv_has ls 5 [(0, .ref oS.1), (1, .int y1), (2, .int y2), (3, .int y3), (4, .int y4)] → (∀ (H : Heap) (locs : List Loc) (ls : Array Slot), zC G c3 A s (zwS c3.1 oS ((Szr, Szf), (tt.2.1, tt.2.2.1), tt.2.2.2, Spd, Snt)) H locs → lv_has ls 5 [(0, .ref oS.1), (1, .int y1), (2, .int y2), (3, .int y3), (4, .int tt.1)] → W p l e ⟨3, 0, 0, 67⟩ s m args below meth c H locs 0 0 (MQ below (zPost G (zwS c3.1 oS ((Szr, Szf), (Svr', Svf'), Snm', Spd, Snt)) (some (.int r)) A) args s 0 0 A) (F0 m 41 ls [])) → W p l e ⟨3, 0, 0, 67⟩ s m args below meth c H locs 0 0 (MQ below (zPost G (zwS c3.1 oS ((Szr, Szf), (Svr', Svf'), Snm', Spd, Snt)) (some (.int r)) A) args s 0 0 A) (F0 m 24 ls []) := by
          intro fu
          induction fu with
          | zero =>
            intro y1 y2 y3 y4 Szr Szf Svr Svf Snm Spd Snt tt hf H locs ls hC hl hK
            exact (z_none hf).elim
          | succ fu ih24 =>
            intro y1 y2 y3 y4 Szr Szf Svr Svf Snm Spd Snt tt hf H locs ls hC hl hK
            replace hf := (f_X2_runTicks_24_s y3 Szr Szf y4 Svr Svf Snm fu).symm.trans hf
            refine lv_iload hx hb dX2_runTicks_24 (lv_at hl 4 rfl) ?_
            refine lv_if_lt (tgt := 41) hx hb dX2_runTicks_26 (by decide) (fun cd6 => ?_) (fun cd6 => ?_)
            · replace hf := z_pos cd6 hf
              have e1 := z_s1 hf
              subst e1
              exact hK H locs ls hC (lv_sub hl [0, 1, 2, 3, 4] rfl)
            · replace hf := z_neg cd6 hf
              refine lv_aload_n hx hb dX2_runTicks_29 rfl (lv_at hl 0 rfl) ?_
              refine lv_iload hx hb dX2_runTicks_30 (lv_at hl 4 rfl) ?_
              obtain ⟨r7, hr7, hf⟩ := z_bind hf
              refine z_callv (z_runV (n := 1) (rest := []) (As := [.int y4]) S0 hC (c_X2_wear l G c3 oS ((Szr, Szf), (Svr, Svf), Snm, Spd, Snt) y4 hr7) [0, 1, 2, 3, 4, 5] (by decide) rfl gX2_runTicks_X2_wear rfl rfl rfl (by decide +kernel) ⟨Nat.le_of_ble_eq_true rfl, Nat.le_of_ble_eq_true rfl⟩ (ci := 2) (q0 := 0) rfl rfl rfl hl.1 rfl (Nat.le_of_ble_eq_true rfl) dX2_runTicks_32) hC [0, 1, 2, 3, 4, 5] [] [0, 1, 2, 3, 4, 5] rfl (wr := ([] : va_W)) rfl (by decide) (by decide) (ws2 := (zwS c3.1 oS ((Szr, Szf), (r7.1, r7.2.1), r7.2.2, Spd, Snt))) rfl (by decide) (fun H locs hC => ?_)
              refine lv_iinc (v := (y4 + (-1))) (lv' := [(4, .int (y4 + (-1))), (0, .ref oS.1), (1, .int y1), (2, .int y2), (3, .int y3)]) hx hb dX2_runTicks_35 hl (k := 4) rfl rfl (by decide) rfl (fun ls hl => ?_)
              refine lv_goto (tgt := 24) hx hb dX2_runTicks_38 (by decide) ?_
              exact ih24 y1 y2 y3 (y4 + (-1)) Szr Szf r7.1 r7.2.1 r7.2.2 Spd Snt _ hf H locs ls hC (lv_sub hl [1, 2, 3, 4, 0] rfl) hK
        obtain ⟨t8, ht8, hf⟩ := z_bind hf
        refine L24 zF y1 y2 y3 (r4 - 1) Szr Szf Svr Svf Snm Spd Snt t8 ht8 H locs ls hC (lv_sub hl [1, 2, 3, 4, 0] rfl) (fun H locs ls hC hl => ?_)
        refine lv_iinc (v := (y3 + 1)) (lv' := [(3, .int (y3 + 1)), (0, .ref oS.1), (1, .int y1), (2, .int y2), (4, .int t8.1)]) hx hb dX2_runTicks_41 hl (k := 3) rfl rfl (by decide) rfl (fun ls hl => ?_)
        refine lv_goto (tgt := 8) hx hb dX2_runTicks_44 (by decide) ?_
        exact ih8 y1 y2 (y3 + 1) Szr Szf t8.2.1 t8.2.2.1 t8.2.2.2 Spd Snt _ hf H locs ls hC (lv_sub hl [1, 2, 3, 0] rfl) hK
  obtain ⟨t9, ht9, hf⟩ := z_bind hf
  refine L8 zF p1 r1 0 Szr Szf Svr Svf Snm Spd Snt t9 ht9 H locs ls hC (lv_sub hl [2, 3, 1, 0] rfl) (fun H locs ls hC hl => ?_)
  refine lv_aload_n hx hb dX2_runTicks_47 rfl (lv_at hl 0 rfl) ?_
  refine lv_iconst (v := 0) hx hb dX2_runTicks_48 (by decide) ?_
  refine lv_iload_n hx hb dX2_runTicks_49 rfl (lv_at hl 1 rfl) ?_
  obtain ⟨r10, hr10, hf⟩ := z_bind hf
  refine z_callv (z_runV (n := 2) (rest := []) (As := [.int 0, .int p1]) S0 hC (c_X2_grow l G c3 oS ((Szr, Szf), (t9.2.1, t9.2.2.1), t9.2.2.2, Spd, Snt) 0 p1 hr10) [0, 1, 2, 3, 4, 5] (by decide) rfl gX2_runTicks_X2_grow rfl rfl rfl (by decide +kernel) ⟨Nat.le_of_ble_eq_true rfl, Nat.le_of_ble_eq_true rfl⟩ (ci := 2) (q0 := 0) rfl rfl rfl hl.1 rfl (Nat.le_of_ble_eq_true rfl) dX2_runTicks_50) hC [0, 1, 2, 3, 4, 5] [] [0, 1, 2, 3, 4, 5] rfl (wr := ([] : va_W)) rfl (by decide) (by decide) (ws2 := (zwS c3.1 oS ((Szr, Szf), (t9.2.1, t9.2.2.1), r10, Spd, Snt))) rfl (by decide) (fun H locs hC => ?_)
  refine lv_aload_n hx hb dX2_runTicks_53 rfl (lv_at hl 0 rfl) ?_
  refine lv_iconst (v := 2) hx hb dX2_runTicks_54 (by decide) ?_
  obtain ⟨r11, hr11, hf⟩ := z_bind hf
  refine z_callPi (z_runV (n := 1) (rest := []) (As := [.int 2]) S0 hC (c_X2_number l G c3 oS ((Szr, Szf), (t9.2.1, t9.2.2.1), r10, Spd, Snt) 2 hr11) [0, 1, 2, 3, 4, 5] (by decide) rfl gX2_runTicks_X2_number rfl rfl rfl (by decide +kernel) ⟨Nat.le_of_ble_eq_true rfl, Nat.le_of_ble_eq_true rfl⟩ (ci := 2) (q0 := 0) rfl rfl rfl hl.1 rfl (Nat.le_of_ble_eq_true rfl) dX2_runTicks_55) hC [0, 1, 2, 3, 4, 5] rfl (fun H locs hC => ?_)
  refine lv_iload_n hx hb dX2_runTicks_58 rfl (lv_at hl 2 rfl) ?_
  refine lv_isub hx hb dX2_runTicks_59 ?_
  obtain ⟨e1, e2, e3, e4⟩ := z_s4 hf
  subst e1
  subst e2
  subst e3
  subst e4
  exact z_iret S0 hr hlk hC dX2_runTicks_60

-- X2 strike
def f_X2_strike_22 (y1 : Int32) (y2 : Int32) (Szr : Int32) (Szf : (Nat → Int32)) (Snt : Int32) : Nat → Int32 → Int32 → Int32 → (Nat → Int32) → (Nat → Int32) → Option (Int32 × Int32 × Int32 × (Nat → Int32) × (Nat → Int32))
  | 0, _, _, _, _, _ => none
  | fu + 1, y3, y4, Svr, Svf, Snm =>
    (f_X4_rows 70 Szr).bind fun r3 => if r3 ≤ y4 then
      some (y3, y4, Svr, Svf, Snm)
    else
      (f_X2_sounds Szr Szf Snm y4 y1 y2).bind fun r5 => Option.bind (α := Int32 × Int32 × (Nat → Int32) × (Nat → Int32)) (
        if r5 = 0 then
          some (y3, Svr, Svf, Snm)
        else
          (f_X2_begin Szr Szf Svr Svf Snm Snt y4 y1 y2).bind fun r8 => some ((y3 + 1), r8.1, r8.2.1, r8.2.2)
      ) fun t7 =>
        f_X2_strike_22 y1 y2 Szr Szf Snt fu t7.1 (y4 + 1) t7.2.1 t7.2.2.1 t7.2.2.2

theorem f_X2_strike_22_s (y1 : Int32) (y2 : Int32) (Szr : Int32) (Szf : (Nat → Int32)) (Snt : Int32) (y3 : Int32) (y4 : Int32) (Svr : Int32) (Svf : (Nat → Int32)) (Snm : (Nat → Int32)) (fu : Nat) : f_X2_strike_22 y1 y2 Szr Szf Snt (fu + 1) y3 y4 Svr Svf Snm = (
    (f_X4_rows 70 Szr).bind fun r3 => if r3 ≤ y4 then
      some (y3, y4, Svr, Svf, Snm)
    else
      (f_X2_sounds Szr Szf Snm y4 y1 y2).bind fun r5 => Option.bind (α := Int32 × Int32 × (Nat → Int32) × (Nat → Int32)) (
        if r5 = 0 then
          some (y3, Svr, Svf, Snm)
        else
          (f_X2_begin Szr Szf Svr Svf Snm Snt y4 y1 y2).bind fun r8 => some ((y3 + 1), r8.1, r8.2.1, r8.2.2)
      ) fun t7 =>
        f_X2_strike_22 y1 y2 Szr Szf Snt fu t7.1 (y4 + 1) t7.2.1 t7.2.2.1 t7.2.2.2
    ) := rfl

def f_X2_strike (Szr : Int32) (Szf : (Nat → Int32)) (Svr : Int32) (Svf : (Nat → Int32)) (Snm : (Nat → Int32)) (Snt : Int32) (p1 : Int32) (p2 : Int32) : Option (Int32 × Int32 × (Nat → Int32) × (Nat → Int32) × Int32) :=
  (f_X2_moveHeld Svr Svf p1 2).bind fun r1 => (f_X2_strike_22 p1 p2 Szr Szf (Snt + 1) zF 0 0 Svr r1.2 Snm).bind fun t9 =>
    (f_X2_passTurns Szr Szf t9.2.2.2.2 p1 p2).bind fun r10 => some (t9.1, t9.2.2.1, t9.2.2.2.1, r10, (Snt + 1))

theorem kX2_strike_50 : Cond.fieldLink RX2 50 "ZoneSampler$State" "notes" "I" ∈ wsX2_strike := by decide +kernel
theorem kX2_strike_14 : Cond.fieldLink RX2 14 "ZoneSampler$State" "zones" "LZoneSampler$Table;" ∈ wsX2_strike := by decide +kernel
theorem jX2_strike_X2 : ∀ w ∈ u_ws RX2 TX2 5, w ∈ wsX2_strike := by decide +kernel
set_option maxHeartbeats 4000000 in
set_option maxRecDepth 100000 in
theorem c_X2_strike (l : Launch) (G : va_G) (c3 : zT3) (oS : zR6) (BS : zSt) (p1 : Int32) (p2 : Int32) {r : Int32} {Svr' : Int32} {Svf' : (Nat → Int32)} {Snm' : (Nat → Int32)} {Snt' : Int32} (hf : f_X2_strike BS.1.1 BS.1.2 BS.2.1.1 BS.2.1.2 BS.2.2.1 BS.2.2.2.2 p1 p2 = some (r, Svr', Svf', Snm', Snt')) : zM l yX2_strike wsX2_strike ⟨4, 0, 0, 92⟩ G c3 (zwS c3.1 oS ((BS.1.1, BS.1.2), (BS.2.1.1, BS.2.1.2), BS.2.2.1, BS.2.2.2.1, BS.2.2.2.2)) [.ref oS.1, .int p1, .int p2] (some (.int r)) (zwS c3.1 oS ((BS.1.1, BS.1.2), (Svr', Svf'), Snm', BS.2.2.2.1, Snt')) := by
  obtain ⟨⟨Szr, Szf⟩, ⟨Svr, Svf⟩, Snm, Spd, Snt⟩ := BS
  have hf : f_X2_strike Szr Szf Svr Svf Snm Snt p1 p2 = some (r, Svr', Svf', Snm', Snt') := hf
  show zM l yX2_strike wsX2_strike ⟨4, 0, 0, 92⟩ G c3 (zwS c3.1 oS ((Szr, Szf), (Svr, Svf), Snm, Spd, Snt)) [.ref oS.1, .int p1, .int p2] (some (.int r)) (zwS c3.1 oS ((Szr, Szf), (Svr', Svf'), Snm', Spd, Snt'))
  refine zM.of (cc := cX2_strike) (maxL := 5) (ret := (some .int)) (by decide) rfl (Nat.le_of_ble_eq_true rfl) ?_
  intro p e s m args below meth c A ls S0 hr hlk hC hl
  have S0 : CallFix p m c cX2_strike 5 s args wsX2_strike RX2 := S0
  have hl : lv_has ls 5 [(0, .ref oS.1), (1, .int p1), (2, .int p2)] := hl
  have hx := S0.1
  have hb := S0.2.1
  obtain ⟨H, hH⟩ : ∃ y, y = s.heap := ⟨_, rfl⟩
  rw [← hH] at hC ⊢
  obtain ⟨locs, hlo⟩ : ∃ y : List Loc, y = [] := ⟨_, rfl⟩
  rw [← hlo] at hC ⊢
  clear hH hlo
  unfold f_X2_strike at hf
  refine lv_aload_n hx hb dX2_strike_0 rfl (lv_at hl 0 rfl) ?_
  refine lv_iload_n hx hb dX2_strike_1 rfl (lv_at hl 1 rfl) ?_
  refine lv_iconst (v := 2) hx hb dX2_strike_2 (by decide) ?_
  obtain ⟨r1, hr1, hf⟩ := z_bind hf
  refine z_calli (z_runV (n := 2) (rest := []) (As := [.int p1, .int 2]) S0 hC (c_X2_moveHeld l G c3 oS ((Szr, Szf), (Svr, Svf), Snm, Spd, Snt) p1 2 hr1) [0, 1, 2, 3, 4, 5] (by decide) rfl gX2_strike_X2_moveHeld rfl rfl rfl (by decide +kernel) ⟨Nat.le_of_ble_eq_true rfl, Nat.le_of_ble_eq_true rfl⟩ (ci := 2) (q0 := 0) rfl rfl rfl hl.1 rfl (Nat.le_of_ble_eq_true rfl) dX2_strike_3) hC [0, 1, 2, 3, 4, 5] [] [0, 1, 2, 3, 4, 5] rfl (wr := ([] : va_W)) rfl (by decide) (by decide) (ws2 := (zwS c3.1 oS ((Szr, Szf), (Svr, r1.2), Snm, Spd, Snt))) rfl (by decide) (fun H locs hC => ?_)
  refine lv_pop hx hb dX2_strike_6 rfl ?_
  refine lv_aload_n hx hb dX2_strike_7 rfl (lv_at hl 0 rfl) ?_
  refine lv_dup hx hb dX2_strike_8 rfl ?_
  refine z_get S0 hC (ci := 2) (C := RX2) (T := TX2) (N := 5) (v := .int Snt) jX2_strike_X2 0 rfl rfl 4 (by decide) kX2_strike_50 rfl rfl dX2_strike_9 ?_
  refine lv_iconst (v := 1) hx hb dX2_strike_12 (by decide) ?_
  refine lv_iadd hx hb dX2_strike_13 ?_
  refine z_put S0 hC (ci := 2) (C := RX2) (T := TX2) (N := 5) (v := .int (Snt + 1)) jX2_strike_X2 tyX2 tyX2_ok nmX2 0 rfl rfl 4 (by decide) kX2_strike_50 rfl rfl rfl rfl (Nat.le_of_ble_eq_true rfl) dX2_strike_14 (ws2 := (zwS c3.1 oS ((Szr, Szf), (Svr, r1.2), Snm, Spd, (Snt + 1)))) rfl (fun H locs hC => ?_)
  refine lv_iconst (v := 0) hx hb dX2_strike_17 (by decide) ?_
  refine lv_istore_n (lv' := [(3, .int 0), (0, .ref oS.1), (1, .int p1), (2, .int p2)]) hx hb dX2_strike_18 rfl hl (by decide) rfl (fun ls hl => ?_)
  refine lv_iconst (v := 0) hx hb dX2_strike_19 (by decide) ?_
  refine lv_istore (lv' := [(4, .int 0), (3, .int 0), (0, .ref oS.1), (1, .int p1), (2, .int p2)]) hx hb dX2_strike_20 hl (by decide) rfl (fun ls hl => ?_)
  have L22 : ∀ (fu : Nat) (y1 : Int32) (y2 : Int32) (y3 : Int32) (y4 : Int32) (Szr : Int32) (Szf : (Nat → Int32)) (Svr : Int32) (Svf : (Nat → Int32)) (Snm : (Nat → Int32)) (Spd : Int32) (Snt : Int32) (tt : Int32 × Int32 × Int32 × (Nat → Int32) × (Nat → Int32)), f_X2_strike_22 y1 y2 Szr Szf Snt fu y3 y4 Svr Svf Snm = some tt → ∀ (H : Heap) (locs : List Loc) (ls : Array Slot), zC G c3 A s (zwS c3.1 oS ((Szr, Szf), (Svr, Svf), Snm, Spd, Snt)) H locs → lv_has ls 5 [(0, .ref oS.1), (1, .int y1), (2, .int y2), (3, .int y3), (4, .int y4)] → (∀ (H : Heap) (locs : List Loc) (ls : Array Slot), zC G c3 A s (zwS c3.1 oS ((Szr, Szf), (tt.2.2.1, tt.2.2.2.1), tt.2.2.2.2, Spd, Snt)) H locs → lv_has ls 5 [(0, .ref oS.1), (1, .int y1), (2, .int y2), (3, .int tt.1), (4, .int tt.2.1)] → W p l e ⟨4, 0, 0, 92⟩ s m args below meth c H locs 0 0 (MQ below (zPost G (zwS c3.1 oS ((Szr, Szf), (Svr', Svf'), Snm', Spd, Snt')) (some (.int r)) A) args s 0 0 A) (F0 m 62 ls [])) → W p l e ⟨4, 0, 0, 92⟩ s m args below meth c H locs 0 0 (MQ below (zPost G (zwS c3.1 oS ((Szr, Szf), (Svr', Svf'), Snm', Spd, Snt')) (some (.int r)) A) args s 0 0 A) (F0 m 22 ls []) := by
    intro fu
    induction fu with
    | zero =>
      intro y1 y2 y3 y4 Szr Szf Svr Svf Snm Spd Snt tt hf H locs ls hC hl hK
      exact (z_none hf).elim
    | succ fu ih22 =>
      intro y1 y2 y3 y4 Szr Szf Svr Svf Snm Spd Snt tt hf H locs ls hC hl hK
      replace hf := (f_X2_strike_22_s y1 y2 Szr Szf Snt y3 y4 Svr Svf Snm fu).symm.trans hf
      refine lv_iload hx hb dX2_strike_22 (lv_at hl 4 rfl) ?_
      refine lv_aload_n hx hb dX2_strike_24 rfl (lv_at hl 0 rfl) ?_
      refine z_get S0 hC (ci := 2) (C := RX2) (T := TX2) (N := 5) (v := .ref oS.2.2.1.1) jX2_strike_X2 0 rfl rfl 0 (by decide) kX2_strike_14 rfl rfl dX2_strike_25 ?_
      obtain ⟨r3, hr3, hf⟩ := z_bind hf
      refine z_callPi (z_runV (n := 0) (rest := [.int y4]) (As := []) S0 hC (c_X4_rows l G c3 oS.2.2.1 70 (Szr, Szf) hr3) [2, 3] (by decide) rfl gX2_strike_X4_rows rfl rfl rfl (by decide +kernel) ⟨Nat.le_of_ble_eq_true rfl, Nat.le_of_ble_eq_true rfl⟩ (ci := 4) (q0 := 2) rfl rfl rfl hl.1 rfl (Nat.le_of_ble_eq_true rfl) dX2_strike_28) hC [2, 3] rfl (fun H locs hC => ?_)
      refine lv_icmp_ge (tgt := 62) hx hb dX2_strike_31 (by decide) (fun cd4 => ?_) (fun cd4 => ?_)
      · replace hf := z_pos cd4 hf
        have e1 := z_s1 hf
        subst e1
        exact hK H locs ls hC (lv_sub hl [0, 1, 2, 3, 4] rfl)
      · replace hf := z_neg cd4 hf
        refine lv_aload_n hx hb dX2_strike_34 rfl (lv_at hl 0 rfl) ?_
        refine lv_iload hx hb dX2_strike_35 (lv_at hl 4 rfl) ?_
        refine lv_iload_n hx hb dX2_strike_37 rfl (lv_at hl 1 rfl) ?_
        refine lv_iload_n hx hb dX2_strike_38 rfl (lv_at hl 2 rfl) ?_
        obtain ⟨r5, hr5, hf⟩ := z_bind hf
        refine z_callPi (z_runV (n := 3) (rest := []) (As := [.int y4, .int y1, .int y2]) S0 hC (c_X2_sounds l G c3 oS ((Szr, Szf), (Svr, Svf), Snm, Spd, Snt) y4 y1 y2 hr5) [0, 1, 2, 3, 4, 5] (by decide) rfl gX2_strike_X2_sounds rfl rfl rfl (by decide +kernel) ⟨Nat.le_of_ble_eq_true rfl, Nat.le_of_ble_eq_true rfl⟩ (ci := 2) (q0 := 0) rfl rfl rfl hl.1 rfl (Nat.le_of_ble_eq_true rfl) dX2_strike_39) hC [0, 1, 2, 3, 4, 5] rfl (fun H locs hC => ?_)
        obtain ⟨t7, ht7, hf⟩ := z_bind hf
        have Jt7 : ∀ (H : Heap) (locs : List Loc) (ls : Array Slot), zC G c3 A s (zwS c3.1 oS ((Szr, Szf), (t7.2.1, t7.2.2.1), t7.2.2.2, Spd, Snt)) H locs → lv_has ls 5 [(0, .ref oS.1), (1, .int y1), (2, .int y2), (3, .int t7.1), (4, .int y4)] → W p l e ⟨4, 0, 0, 92⟩ s m args below meth c H locs 0 0 (MQ below (zPost G (zwS c3.1 oS ((Szr, Szf), (Svr', Svf'), Snm', Spd, Snt')) (some (.int r)) A) args s 0 0 A) (F0 m 56 ls []) := by
          intro H locs ls hC hl
          refine lv_iinc (v := (y4 + 1)) (lv' := [(4, .int (y4 + 1)), (0, .ref oS.1), (1, .int y1), (2, .int y2), (3, .int t7.1)]) hx hb dX2_strike_56 hl (k := 4) rfl rfl (by decide) rfl (fun ls hl => ?_)
          refine lv_goto (tgt := 22) hx hb dX2_strike_59 (by decide) ?_
          exact ih22 y1 y2 t7.1 (y4 + 1) Szr Szf t7.2.1 t7.2.2.1 t7.2.2.2 Spd Snt _ hf H locs ls hC (lv_sub hl [1, 2, 3, 4, 0] rfl) hK
        refine lv_if_eq (tgt := 56) hx hb dX2_strike_42 (by decide) (fun cd6 => ?_) (fun cd6 => ?_)
        · replace ht7 := z_pos cd6 ht7
          have e1 := z_s1 ht7
          subst e1
          exact Jt7 H locs ls hC (lv_sub hl [0, 1, 2, 3, 4] rfl)
        · replace ht7 := z_neg cd6 ht7
          refine lv_aload_n hx hb dX2_strike_45 rfl (lv_at hl 0 rfl) ?_
          refine lv_iload hx hb dX2_strike_46 (lv_at hl 4 rfl) ?_
          refine lv_iload_n hx hb dX2_strike_48 rfl (lv_at hl 1 rfl) ?_
          refine lv_iload_n hx hb dX2_strike_49 rfl (lv_at hl 2 rfl) ?_
          obtain ⟨r8, hr8, ht7⟩ := z_bind ht7
          refine z_callv (z_runV (n := 3) (rest := []) (As := [.int y4, .int y1, .int y2]) S0 hC (c_X2_begin l G c3 oS ((Szr, Szf), (Svr, Svf), Snm, Spd, Snt) y4 y1 y2 hr8) [0, 1, 2, 3, 4, 5] (by decide) rfl gX2_strike_X2_begin rfl rfl rfl (by decide +kernel) ⟨Nat.le_of_ble_eq_true rfl, Nat.le_of_ble_eq_true rfl⟩ (ci := 2) (q0 := 0) rfl rfl rfl hl.1 rfl (Nat.le_of_ble_eq_true rfl) dX2_strike_50) hC [0, 1, 2, 3, 4, 5] [] [0, 1, 2, 3, 4, 5] rfl (wr := ([] : va_W)) rfl (by decide) (by decide) (ws2 := (zwS c3.1 oS ((Szr, Szf), (r8.1, r8.2.1), r8.2.2, Spd, Snt))) rfl (by decide) (fun H locs hC => ?_)
          refine lv_iinc (v := (y3 + 1)) (lv' := [(3, .int (y3 + 1)), (0, .ref oS.1), (1, .int y1), (2, .int y2), (4, .int y4)]) hx hb dX2_strike_53 hl (k := 3) rfl rfl (by decide) rfl (fun ls hl => ?_)
          have e1 := z_s1 ht7
          subst e1
          exact Jt7 H locs ls hC (lv_sub hl [1, 2, 3, 0, 4] rfl)
  obtain ⟨t9, ht9, hf⟩ := z_bind hf
  refine L22 zF p1 p2 0 0 Szr Szf Svr r1.2 Snm Spd (Snt + 1) t9 ht9 H locs ls hC (lv_sub hl [2, 3, 4, 1, 0] rfl) (fun H locs ls hC hl => ?_)
  refine lv_aload_n hx hb dX2_strike_62 rfl (lv_at hl 0 rfl) ?_
  refine lv_iload_n hx hb dX2_strike_63 rfl (lv_at hl 1 rfl) ?_
  refine lv_iload_n hx hb dX2_strike_64 rfl (lv_at hl 2 rfl) ?_
  obtain ⟨r10, hr10, hf⟩ := z_bind hf
  refine z_callv (z_runV (n := 2) (rest := []) (As := [.int p1, .int p2]) S0 hC (c_X2_passTurns l G c3 oS ((Szr, Szf), (t9.2.2.1, t9.2.2.2.1), t9.2.2.2.2, Spd, (Snt + 1)) p1 p2 hr10) [0, 1, 2, 3, 4, 5] (by decide) rfl gX2_strike_X2_passTurns rfl rfl rfl (by decide +kernel) ⟨Nat.le_of_ble_eq_true rfl, Nat.le_of_ble_eq_true rfl⟩ (ci := 2) (q0 := 0) rfl rfl rfl hl.1 rfl (Nat.le_of_ble_eq_true rfl) dX2_strike_65) hC [0, 1, 2, 3, 4, 5] [] [0, 1, 2, 3, 4, 5] rfl (wr := ([] : va_W)) rfl (by decide) (by decide) (ws2 := (zwS c3.1 oS ((Szr, Szf), (t9.2.2.1, t9.2.2.2.1), r10, Spd, (Snt + 1)))) rfl (by decide) (fun H locs hC => ?_)
  refine lv_iload_n hx hb dX2_strike_68 rfl (lv_at hl 3 rfl) ?_
  obtain ⟨e1, e2, e3, e4, e5⟩ := z_s5 hf
  subst e1
  subst e2
  subst e3
  subst e4
  subst e5
  exact z_iret S0 hr hlk hC dX2_strike_69
