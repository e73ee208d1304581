-- X5 within
def f_X5_within (p0 : Int32) (p1 : Int32) (p2 : Int32) : Option (Int32) :=
  if p0 < p1 then
    some (0)
  else
    if p2 < p0 then
      some (0)
    else
      some (1)

set_option maxHeartbeats 4000000 in
set_option maxRecDepth 100000 in
theorem c_X5_within (l : Launch) (G : va_G) (c3 : zT3) (p0 : Int32) (p1 : Int32) (p2 : Int32) {r : Int32} (hf : f_X5_within p0 p1 p2 = some (r)) : zM l yX5_within wsX5_within ⟨0, 0, 0, 0⟩ G c3 ([] : va_W) [.int p0, .int p1, .int p2] (some (.int r)) ([] : va_W) := by
  have hf : f_X5_within p0 p1 p2 = some (r) := hf
  show zM l yX5_within wsX5_within ⟨0, 0, 0, 0⟩ G c3 ([] : va_W) [.int p0, .int p1, .int p2] (some (.int r)) ([] : va_W)
  refine zM.of (cc := cX5_within) (maxL := 3) (ret := (some .boolean)) (by decide) rfl (Nat.le_of_ble_eq_true rfl) ?_
  intro p e s m args below meth c A ls S0 hr hlk hC hl
  have S0 : CallFix p m c cX5_within 3 s args wsX5_within RX5 := S0
  have hl : lv_has ls 3 [(0, .int p0), (1, .int p1), (2, .int p2)] := hl
  have hx := S0.1
  have hb := S0.2.1
  obtain ⟨H, hH⟩ : ∃ y, y = s.heap := ⟨_, rfl⟩
  rw [← hH] at hC ⊢
  obtain ⟨locs, hlo⟩ : ∃ y : List Loc, y = [] := ⟨_, rfl⟩
  rw [← hlo] at hC ⊢
  clear hH hlo
  unfold f_X5_within at hf
  refine lv_iload_n hx hb dX5_within_0 rfl (lv_at hl 0 rfl) ?_
  refine lv_iload_n hx hb dX5_within_1 rfl (lv_at hl 1 rfl) ?_
  refine lv_icmp_lt (tgt := 14) hx hb dX5_within_2 (by decide) (fun cd1 => ?_) (fun cd1 => ?_)
  · replace hf := z_pos cd1 hf
    refine lv_iconst (v := 0) hx hb dX5_within_14 (by decide) ?_
    have e1 := z_s1 hf
    subst e1
    exact z_zret S0 hr hlk rfl hC dX5_within_15
  · replace hf := z_neg cd1 hf
    refine lv_iload_n hx hb dX5_within_5 rfl (lv_at hl 0 rfl) ?_
    refine lv_iload_n hx hb dX5_within_6 rfl (lv_at hl 2 rfl) ?_
    refine lv_icmp_gt (tgt := 14) hx hb dX5_within_7 (by decide) (fun cd2 => ?_) (fun cd2 => ?_)
    · replace hf := z_pos cd2 hf
      refine lv_iconst (v := 0) hx hb dX5_within_14 (by decide) ?_
      have e1 := z_s1 hf
      subst e1
      exact z_zret S0 hr hlk rfl hC dX5_within_15
    · replace hf := z_neg cd2 hf
      refine lv_iconst (v := 1) hx hb dX5_within_10 (by decide) ?_
      refine lv_goto (tgt := 15) hx hb dX5_within_11 (by decide) ?_
      have e1 := z_s1 hf
      subst e1
      exact z_zret S0 hr hlk rfl hC dX5_within_15

-- X5 isNote
def f_X5_isNote (p0 : Int32) (p1 : Int32) : Option (Int32) :=
  (f_X5_within p0 0 35).bind fun r1 => if r1 = 0 then
    some (0)
  else
    (f_X5_within p1 1 9).bind fun r3 => if r3 = 0 then
      some (0)
    else
      some (1)

set_option maxHeartbeats 4000000 in
set_option maxRecDepth 100000 in
theorem c_X5_isNote (l : Launch) (G : va_G) (c3 : zT3) (p0 : Int32) (p1 : Int32) {r : Int32} (hf : f_X5_isNote p0 p1 = some (r)) : zM l yX5_isNote wsX5_isNote ⟨1, 0, 0, 22⟩ G c3 ([] : va_W) [.int p0, .int p1] (some (.int r)) ([] : va_W) := by
  have hf : f_X5_isNote p0 p1 = some (r) := hf
  show zM l yX5_isNote wsX5_isNote ⟨1, 0, 0, 22⟩ G c3 ([] : va_W) [.int p0, .int p1] (some (.int r)) ([] : va_W)
  refine zM.of (cc := cX5_isNote) (maxL := 2) (ret := (some .boolean)) (by decide) rfl (Nat.le_of_ble_eq_true rfl) ?_
  intro p e s m args below meth c A ls S0 hr hlk hC hl
  have S0 : CallFix p m c cX5_isNote 2 s args wsX5_isNote RX5 := S0
  have hl : lv_has ls 2 [(0, .int p0), (1, .int p1)] := hl
  have hx := S0.1
  have hb := S0.2.1
  obtain ⟨H, hH⟩ : ∃ y, y = s.heap := ⟨_, rfl⟩
  rw [← hH] at hC ⊢
  obtain ⟨locs, hlo⟩ : ∃ y : List Loc, y = [] := ⟨_, rfl⟩
  rw [← hlo] at hC ⊢
  clear hH hlo
  unfold f_X5_isNote at hf
  refine lv_iload_n hx hb dX5_isNote_0 rfl (lv_at hl 0 rfl) ?_
  refine lv_iconst (v := 0) hx hb dX5_isNote_1 (by decide) ?_
  refine lv_bipush (v := 35) hx hb dX5_isNote_2 (by decide) ?_
  obtain ⟨r1, hr1, hf⟩ := z_bind hf
  refine z_callPi (z_runS (n := 3) (rest := []) (As := [.int p0, .int 0, .int 35]) S0 hC (c_X5_within l G c3 p0 0 35 hr1) [] (by decide) rfl gX5_isNote_X5_within rfl rfl rfl (by decide +kernel) ⟨Nat.le_of_ble_eq_true rfl, Nat.le_of_ble_eq_true rfl⟩ rfl hl.1 rfl (Nat.le_of_ble_eq_true rfl) dX5_isNote_4) hC [] rfl (fun H locs hC => ?_)
  refine lv_if_eq (tgt := 24) hx hb dX5_isNote_7 (by decide) (fun cd2 => ?_) (fun cd2 => ?_)
  · replace hf := z_pos cd2 hf
    refine lv_iconst (v := 0) hx hb dX5_isNote_24 (by decide) ?_
    have e1 := z_s1 hf
    subst e1
    exact z_zret S0 hr hlk rfl hC dX5_isNote_25
  · replace hf := z_neg cd2 hf
    refine lv_iload_n hx hb dX5_isNote_10 rfl (lv_at hl 1 rfl) ?_
    refine lv_iconst (v := 1) hx hb dX5_isNote_11 (by decide) ?_
    refine lv_bipush (v := 9) hx hb dX5_isNote_12 (by decide) ?_
    obtain ⟨r3, hr3, hf⟩ := z_bind hf
    refine z_callPi (z_runS (n := 3) (rest := []) (As := [.int p1, .int 1, .int 9]) S0 hC (c_X5_within l G c3 p1 1 9 hr3) [] (by decide) rfl gX5_isNote_X5_within rfl rfl rfl (by decide +kernel) ⟨Nat.le_of_ble_eq_true rfl, Nat.le_of_ble_eq_true rfl⟩ rfl hl.1 rfl (Nat.le_of_ble_eq_true rfl) dX5_isNote_14) hC [] rfl (fun H locs hC => ?_)
    refine lv_if_eq (tgt := 24) hx hb dX5_isNote_17 (by decide) (fun cd4 => ?_) (fun cd4 => ?_)
    · replace hf := z_pos cd4 hf
      refine lv_iconst (v := 0) hx hb dX5_isNote_24 (by decide) ?_
      have e1 := z_s1 hf
      subst e1
      exact z_zret S0 hr hlk rfl hC dX5_isNote_25
    · replace hf := z_neg cd4 hf
      refine lv_iconst (v := 1) hx hb dX5_isNote_20 (by decide) ?_
      refine lv_goto (tgt := 25) hx hb dX5_isNote_21 (by decide) ?_
      have e1 := z_s1 hf
      subst e1
      exact z_zret S0 hr hlk rfl hC dX5_isNote_25

-- X5 isSetting
def f_X5_isSetting (p0 : Int32) (p1 : Int32) : Option (Int32) :=
  if p0 = 0 then
    (f_X5_within p1 1 8).bind fun r2 => (zbool r2).bind fun _ => some (r2)
  else
    if p0 = 1 then
      (f_X5_within p1 0 2).bind fun r5 => (zbool r5).bind fun _ => some (r5)
    else
      if p0 = 2 then
        (f_X5_within p1 1 50).bind fun r8 => (zbool r8).bind fun _ => some (r8)
      else
        some (0)

set_option maxHeartbeats 4000000 in
set_option maxRecDepth 100000 in
theorem c_X5_isSetting (l : Launch) (G : va_G) (c3 : zT3) (p0 : Int32) (p1 : Int32) {r : Int32} (hf : f_X5_isSetting p0 p1 = some (r)) : zM l yX5_isSetting wsX5_isSetting ⟨1, 0, 0, 22⟩ G c3 ([] : va_W) [.int p0, .int p1] (some (.int r)) ([] : va_W) := by
  have hf : f_X5_isSetting p0 p1 = some (r) := hf
  show zM l yX5_isSetting wsX5_isSetting ⟨1, 0, 0, 22⟩ G c3 ([] : va_W) [.int p0, .int p1] (some (.int r)) ([] : va_W)
  refine zM.of (cc := cX5_isSetting) (maxL := 2) (ret := (some .boolean)) (by decide) rfl (Nat.le_of_ble_eq_true rfl) ?_
  intro p e s m args below meth c A ls S0 hr hlk hC hl
  have S0 : CallFix p m c cX5_isSetting 2 s args wsX5_isSetting RX5 := S0
  have hl : lv_has ls 2 [(0, .int p0), (1, .int p1)] := hl
  have hx := S0.1
  have hb := S0.2.1
  obtain ⟨H, hH⟩ : ∃ y, y = s.heap := ⟨_, rfl⟩
  rw [← hH] at hC ⊢
  obtain ⟨locs, hlo⟩ : ∃ y : List Loc, y = [] := ⟨_, rfl⟩
  rw [← hlo] at hC ⊢
  clear hH hlo
  unfold f_X5_isSetting at hf
  refine lv_iload_n hx hb dX5_isSetting_0 rfl (lv_at hl 0 rfl) ?_
  by_cases cd1 : p0 = 0
  · replace hf := z_pos cd1 hf
    refine lv_tableIn (off := 27) (tgt := 28) hx hb dX5_isSetting_1 (by rw [cd1]; decide) (by rw [cd1]; decide) (by rw [cd1]; rfl) (by decide) ?_
    refine lv_iload_n hx hb dX5_isSetting_28 rfl (lv_at hl 1 rfl) ?_
    refine lv_iconst (v := 1) hx hb dX5_isSetting_29 (by decide) ?_
    refine lv_bipush (v := 8) hx hb dX5_isSetting_30 (by decide) ?_
    obtain ⟨r2, hr2, hf⟩ := z_bind hf
    refine z_callPi (z_runS (n := 3) (rest := []) (As := [.int p1, .int 1, .int 8]) S0 hC (c_X5_within l G c3 p1 1 8 hr2) [] (by decide) rfl gX5_isSetting_X5_within rfl rfl rfl (by decide +kernel) ⟨Nat.le_of_ble_eq_true rfl, Nat.le_of_ble_eq_true rfl⟩ rfl hl.1 rfl (Nat.le_of_ble_eq_true rfl) dX5_isSetting_32) hC [] rfl (fun H locs hC => ?_)
    obtain ⟨w3, hw3, hf⟩ := z_bind hf
    have e1 := z_s1 hf
    subst e1
    exact z_zret S0 hr hlk (zbool_spec hw3) hC dX5_isSetting_35
  replace hf := z_neg cd1 hf
  by_cases cd4 : p0 = 1
  · replace hf := z_pos cd4 hf
    refine lv_tableIn (off := 35) (tgt := 36) hx hb dX5_isSetting_1 (by rw [cd4]; decide) (by rw [cd4]; decide) (by rw [cd4]; rfl) (by decide) ?_
    refine lv_iload_n hx hb dX5_isSetting_36 rfl (lv_at hl 1 rfl) ?_
    refine lv_iconst (v := 0) hx hb dX5_isSetting_37 (by decide) ?_
    refine lv_iconst (v := 2) hx hb dX5_isSetting_38 (by decide) ?_
    obtain ⟨r5, hr5, hf⟩ := z_bind hf
    refine z_callPi (z_runS (n := 3) (rest := []) (As := [.int p1, .int 0, .int 2]) S0 hC (c_X5_within l G c3 p1 0 2 hr5) [] (by decide) rfl gX5_isSetting_X5_within rfl rfl rfl (by decide +kernel) ⟨Nat.le_of_ble_eq_true rfl, Nat.le_of_ble_eq_true rfl⟩ rfl hl.1 rfl (Nat.le_of_ble_eq_true rfl) dX5_isSetting_39) hC [] rfl (fun H locs hC => ?_)
    obtain ⟨w6, hw6, hf⟩ := z_bind hf
    have e1 := z_s1 hf
    subst e1
    exact z_zret S0 hr hlk (zbool_spec hw6) hC dX5_isSetting_42
  replace hf := z_neg cd4 hf
  by_cases cd7 : p0 = 2
  · replace hf := z_pos cd7 hf
    refine lv_tableIn (off := 42) (tgt := 43) hx hb dX5_isSetting_1 (by rw [cd7]; decide) (by rw [cd7]; decide) (by rw [cd7]; rfl) (by decide) ?_
    refine lv_iload_n hx hb dX5_isSetting_43 rfl (lv_at hl 1 rfl) ?_
    refine lv_iconst (v := 1) hx hb dX5_isSetting_44 (by decide) ?_
    refine lv_bipush (v := 50) hx hb dX5_isSetting_45 (by decide) ?_
    obtain ⟨r8, hr8, hf⟩ := z_bind hf
    refine z_callPi (z_runS (n := 3) (rest := []) (As := [.int p1, .int 1, .int 50]) S0 hC (c_X5_within l G c3 p1 1 50 hr8) [] (by decide) rfl gX5_isSetting_X5_within rfl rfl rfl (by decide +kernel) ⟨Nat.le_of_ble_eq_true rfl, Nat.le_of_ble_eq_true rfl⟩ rfl hl.1 rfl (Nat.le_of_ble_eq_true rfl) dX5_isSetting_47) hC [] rfl (fun H locs hC => ?_)
    obtain ⟨w9, hw9, hf⟩ := z_bind hf
    have e1 := z_s1 hf
    subst e1
    exact z_zret S0 hr hlk (zbool_spec hw9) hC dX5_isSetting_50
  replace hf := z_neg cd7 hf
  have D1 : W p l e ⟨1, 0, 0, 22⟩ s m args below meth c H locs 0 0 (MQ below (zPost G ([] : va_W) (some (.int r)) A) args s 0 0 A) (F0 m 51 ls []) := by
    refine lv_iconst (v := 0) hx hb dX5_isSetting_51 (by decide) ?_
    have e1 := z_s1 hf
    subst e1
    exact z_zret S0 hr hlk rfl hC dX5_isSetting_52
  have e0_1 : (p0).toInt ≠ 0 := fun h => cd1 (Int32.toInt_inj.mp (h.trans (by decide)))
  have e1_1 : (p0).toInt ≠ 1 := fun h => cd4 (Int32.toInt_inj.mp (h.trans (by decide)))
  have e2_1 : (p0).toInt ≠ 2 := fun h => cd7 (Int32.toInt_inj.mp (h.trans (by decide)))
  exact lv_tableOut (tgt := 51) hx hb dX5_isSetting_1 (by omega) (by decide) D1

-- X5 zone
def f_X5_zone (Nzr : Int32) (Nzf : (Nat → Int32)) (Nvr : Int32) (Nvf : (Nat → Int32)) (Nnm : (Nat → Int32)) (Npd : Int32) (Nnt : Int32) (Hhs : zHs) (p1 : Int32) (p2 : Int32) (p3 : Int32) (p4 : Int32) : Option (Int32 × Int32 × (Nat → Int32) × zHs) :=
  (f_X5_within p1 0 35).bind fun r1 => if r1 = 0 then
    some ((-1), Nzr, Nzf, Hhs)
  else
    (f_X5_within p2 p1 35).bind fun r3 => if r3 = 0 then
      some ((-1), Nzr, Nzf, Hhs)
    else
      (f_X5_within p3 1 9).bind fun r5 => if r5 = 0 then
        some ((-1), Nzr, Nzf, Hhs)
      else
        (f_X5_within p4 p3 9).bind fun r7 => if r7 = 0 then
          some ((-1), Nzr, Nzf, Hhs)
        else
          (f_X4_rows 70 Nzr).bind fun r9 => if r9 < 10 then
            (f_X0_record Hhs Nzr Nzf Nvr Nvf Nnm Npd Nnt).bind fun r11 => (f_X2_addZone Nzr Nzf p1 p2 p3 p4).bind fun r12 => some (r12.1, r12.2.1, r12.2.2, r11)
          else
            some ((-3), Nzr, Nzf, Hhs)

theorem kX5_zone_10 : Cond.fieldLink RX5 10 "ZoneSampler" "now" "LZoneSampler$State;" ∈ wsX5_zone := by decide +kernel
theorem kX5_zone_25 : Cond.fieldLink RX5 25 "ZoneSampler" "history" "LZoneSampler$History;" ∈ wsX5_zone := by decide +kernel
theorem jX5_zone_X2 : ∀ w ∈ u_ws RX2 TX2 5, w ∈ wsX5_zone := by decide +kernel
theorem jX5_zone_X5 : ∀ w ∈ u_ws RX5 TX5 7, w ∈ wsX5_zone := by decide +kernel
set_option maxHeartbeats 4000000 in
set_option maxRecDepth 100000 in
theorem c_X5_zone (l : Launch) (G : va_G) (c3 : zT3) (oZ : Nat) (oN oT oK : zR6) (oH : Nat) (oP oV : zR2) (BZ : Int32) (BN : zSt) (BH : zHs) (p1 : Int32) (p2 : Int32) (p3 : Int32) (p4 : Int32) {r : Int32} {Nzr' : Int32} {Nzf' : (Nat → Int32)} {Hhs' : zHs} (hf : f_X5_zone BN.1.1 BN.1.2 BN.2.1.1 BN.2.1.2 BN.2.2.1 BN.2.2.2.1 BN.2.2.2.2 BH p1 p2 p3 p4 = some (r, Nzr', Nzf', Hhs')) : zM l yX5_zone wsX5_zone ⟨4, 0, 0, 90⟩ G c3 (zwZ oZ oN oT oK oH oP oV BZ ++ zwS c3.1 oN ((BN.1.1, BN.1.2), (BN.2.1.1, BN.2.1.2), BN.2.2.1, BN.2.2.2.1, BN.2.2.2.2) ++ zwH c3.1 oH BH) [.ref oZ, .int p1, .int p2, .int p3, .int p4] (some (.int r)) (zwZ oZ oN oT oK oH oP oV BZ ++ zwS c3.1 oN ((Nzr', Nzf'), (BN.2.1.1, BN.2.1.2), BN.2.2.1, BN.2.2.2.1, BN.2.2.2.2) ++ zwH c3.1 oH Hhs') := by
  obtain ⟨Zss, rfl⟩ : ∃ y, y = BZ := ⟨_, rfl⟩
  obtain ⟨⟨Nzr, Nzf⟩, ⟨Nvr, Nvf⟩, Nnm, Npd, Nnt⟩ := BN
  obtain ⟨Hhs, rfl⟩ : ∃ y, y = BH := ⟨_, rfl⟩
  have hf : f_X5_zone Nzr Nzf Nvr Nvf Nnm Npd Nnt Hhs p1 p2 p3 p4 = some (r, Nzr', Nzf', Hhs') := hf
  show zM l yX5_zone wsX5_zone ⟨4, 0, 0, 90⟩ G c3 (zwZ oZ oN oT oK oH oP oV Zss ++ zwS c3.1 oN ((Nzr, Nzf), (Nvr, Nvf), Nnm, Npd, Nnt) ++ zwH c3.1 oH Hhs) [.ref oZ, .int p1, .int p2, .int p3, .int p4] (some (.int r)) (zwZ oZ oN oT oK oH oP oV Zss ++ zwS c3.1 oN ((Nzr', Nzf'), (Nvr, Nvf), Nnm, Npd, Nnt) ++ zwH c3.1 oH Hhs')
  refine zM.of (cc := cX5_zone) (maxL := 5) (ret := (some .int)) (by decide) rfl (Nat.le_of_ble_eq_true rfl) ?_
  intro p e s m args below meth c A ls S0 hr hlk hC hl
  have S0 : CallFix p m c cX5_zone 5 s args wsX5_zone RX5 := S0
  have hl : lv_has ls 5 [(0, .ref oZ), (1, .int p1), (2, .int p2), (3, .int p3), (4, .int p4)] := hl
  have hx := S0.1
  have hb := S0.2.1
  obtain ⟨H, hH⟩ : ∃ y, y = s.heap := ⟨_, rfl⟩
  rw [← hH] at hC ⊢
  obtain ⟨locs, hlo⟩ : ∃ y : List Loc, y = [] := ⟨_, rfl⟩
  rw [← hlo] at hC ⊢
  clear hH hlo
  unfold f_X5_zone at hf
  refine lv_iload_n hx hb dX5_zone_0 rfl (lv_at hl 1 rfl) ?_
  refine lv_iconst (v := 0) hx hb dX5_zone_1 (by decide) ?_
  refine lv_bipush (v := 35) hx hb dX5_zone_2 (by decide) ?_
  obtain ⟨r1, hr1, hf⟩ := z_bind hf
  refine z_callPi (z_runS (n := 3) (rest := []) (As := [.int p1, .int 0, .int 35]) S0 hC (c_X5_within l G c3 p1 0 35 hr1) [] (by decide) rfl gX5_zone_X5_within rfl rfl rfl (by decide +kernel) ⟨Nat.le_of_ble_eq_true rfl, Nat.le_of_ble_eq_true rfl⟩ rfl hl.1 rfl (Nat.le_of_ble_eq_true rfl) dX5_zone_4) hC [] rfl (fun H locs hC => ?_)
  refine lv_if_eq (tgt := 20) hx hb dX5_zone_7 (by decide) (fun cd2 => ?_) (fun cd2 => ?_)
  · replace hf := z_pos cd2 hf
    refine lv_iconst (v := (-1)) hx hb dX5_zone_20 (by decide) ?_
    obtain ⟨e1, e2, e3, e4⟩ := z_s4 hf
    subst e1
    subst e2
    subst e3
    subst e4
    exact z_iret S0 hr hlk hC dX5_zone_21
  · replace hf := z_neg cd2 hf
    refine lv_iload_n hx hb dX5_zone_10 rfl (lv_at hl 2 rfl) ?_
    refine lv_iload_n hx hb dX5_zone_11 rfl (lv_at hl 1 rfl) ?_
    refine lv_bipush (v := 35) hx hb dX5_zone_12 (by decide) ?_
    obtain ⟨r3, hr3, hf⟩ := z_bind hf
    refine z_callPi (z_runS (n := 3) (rest := []) (As := [.int p2, .int p1, .int 35]) S0 hC (c_X5_within l G c3 p2 p1 35 hr3) [] (by decide) rfl gX5_zone_X5_within rfl rfl rfl (by decide +kernel) ⟨Nat.le_of_ble_eq_true rfl, Nat.le_of_ble_eq_true rfl⟩ rfl hl.1 rfl (Nat.le_of_ble_eq_true rfl) dX5_zone_14) hC [] rfl (fun H locs hC => ?_)
    refine lv_if_ne (tgt := 22) hx hb dX5_zone_17 (by decide) (fun cd4 => ?_) (fun cd4 => ?_)
    · replace hf := z_neg cd4 hf
      refine lv_iload_n hx hb dX5_zone_22 rfl (lv_at hl 3 rfl) ?_
      refine lv_iconst (v := 1) hx hb dX5_zone_23 (by decide) ?_
      refine lv_bipush (v := 9) hx hb dX5_zone_24 (by decide) ?_
      obtain ⟨r5, hr5, hf⟩ := z_bind hf
      refine z_callPi (z_runS (n := 3) (rest := []) (As := [.int p3, .int 1, .int 9]) S0 hC (c_X5_within l G c3 p3 1 9 hr5) [] (by decide) rfl gX5_zone_X5_within rfl rfl rfl (by decide +kernel) ⟨Nat.le_of_ble_eq_true rfl, Nat.le_of_ble_eq_true rfl⟩ rfl hl.1 rfl (Nat.le_of_ble_eq_true rfl) dX5_zone_26) hC [] rfl (fun H locs hC => ?_)
      refine lv_if_eq (tgt := 43) hx hb dX5_zone_29 (by decide) (fun cd6 => ?_) (fun cd6 => ?_)
      · replace hf := z_pos cd6 hf
        refine lv_iconst (v := (-1)) hx hb dX5_zone_43 (by decide) ?_
        obtain ⟨e1, e2, e3, e4⟩ := z_s4 hf
        subst e1
        subst e2
        subst e3
        subst e4
        exact z_iret S0 hr hlk hC dX5_zone_44
      · replace hf := z_neg cd6 hf
        refine lv_iload hx hb dX5_zone_32 (lv_at hl 4 rfl) ?_
        refine lv_iload_n hx hb dX5_zone_34 rfl (lv_at hl 3 rfl) ?_
        refine lv_bipush (v := 9) hx hb dX5_zone_35 (by decide) ?_
        obtain ⟨r7, hr7, hf⟩ := z_bind hf
        refine z_callPi (z_runS (n := 3) (rest := []) (As := [.int p4, .int p3, .int 9]) S0 hC (c_X5_within l G c3 p4 p3 9 hr7) [] (by decide) rfl gX5_zone_X5_within rfl rfl rfl (by decide +kernel) ⟨Nat.le_of_ble_eq_true rfl, Nat.le_of_ble_eq_true rfl⟩ rfl hl.1 rfl (Nat.le_of_ble_eq_true rfl) dX5_zone_37) hC [] rfl (fun H locs hC => ?_)
        refine lv_if_ne (tgt := 45) hx hb dX5_zone_40 (by decide) (fun cd8 => ?_) (fun cd8 => ?_)
        · replace hf := z_neg cd8 hf
          refine lv_aload_n hx hb dX5_zone_45 rfl (lv_at hl 0 rfl) ?_
          refine z_get S0 hC (ci := 5) (C := RX5) (T := TX5) (N := 7) (v := .ref oN.1) jX5_zone_X5 0 rfl rfl 0 (by decide) kX5_zone_10 rfl rfl dX5_zone_46 ?_
          refine z_getN S0 hC (host := "ZoneSampler") (ci := 2) (C := RX2) (T := TX2) (N := 5) (v := .ref oN.2.2.1.1) jX5_zone_X2 1 rfl rfl 0 (by decide) (by decide +kernel : Cond.fieldLinkNest RX5 47 "ZoneSampler$State" "zones" "LZoneSampler$Table;" "ZoneSampler" ∈ zNW) rfl rfl dX5_zone_49 ?_
          obtain ⟨r9, hr9, hf⟩ := z_bind hf
          refine z_callPi (z_runV (n := 0) (rest := []) (As := []) S0 hC (c_X4_rows l G c3 oN.2.2.1 70 (Nzr, Nzf) hr9) [3, 4] (by decide) rfl gX5_zone_X4_rows rfl rfl rfl (by decide +kernel) ⟨Nat.le_of_ble_eq_true rfl, Nat.le_of_ble_eq_true rfl⟩ (ci := 4) (q0 := 3) rfl rfl rfl hl.1 rfl (Nat.le_of_ble_eq_true rfl) dX5_zone_52) hC [3, 4] rfl (fun H locs hC => ?_)
          refine lv_bipush (v := 10) hx hb dX5_zone_55 (by decide) ?_
          refine lv_icmp_lt (tgt := 63) hx hb dX5_zone_57 (by decide) (fun cd10 => ?_) (fun cd10 => ?_)
          · replace hf := z_pos cd10 hf
            refine lv_aload_n hx hb dX5_zone_63 rfl (lv_at hl 0 rfl) ?_
            refine z_get S0 hC (ci := 5) (C := RX5) (T := TX5) (N := 7) (v := .ref oH) jX5_zone_X5 0 rfl rfl 3 (by decide) kX5_zone_25 rfl rfl dX5_zone_64 ?_
            refine lv_aload_n hx hb dX5_zone_67 rfl (lv_at hl 0 rfl) ?_
            refine z_get S0 hC (ci := 5) (C := RX5) (T := TX5) (N := 7) (v := .ref oN.1) jX5_zone_X5 0 rfl rfl 0 (by decide) kX5_zone_10 rfl rfl dX5_zone_68 ?_
            obtain ⟨r11, hr11, hf⟩ := z_bind hf
            refine z_callv (z_runV (n := 1) (rest := []) (As := [.ref oN.1]) S0 hC (c_X0_record l G c3 oH Hhs oN ((Nzr, Nzf), (Nvr, Nvf), Nnm, Npd, Nnt) hr11) [7, 8, 9, 10, 11, 12, 13, 14, 15, 16, 17, 18, 19, 20, 21, 22, 23, 24, 25, 26, 27, 28, 29, 30, 31, 1, 2, 3, 4, 5, 6] (by decide) rfl gX5_zone_X0_record rfl rfl rfl (by decide +kernel) ⟨Nat.le_of_ble_eq_true rfl, Nat.le_of_ble_eq_true rfl⟩ (ci := 0) (q0 := 7) rfl rfl rfl hl.1 rfl (Nat.le_of_ble_eq_true rfl) dX5_zone_71) hC [7, 8, 9, 10, 11, 12, 13, 14, 15, 16, 17, 18, 19, 20, 21, 22, 23, 24, 25, 26, 27, 28, 29, 30, 31, 1, 2, 3, 4, 5, 6] [0] [0, 26, 27, 28, 29, 30, 31, 1, 2, 3, 4, 5, 6, 7, 8, 9, 10, 11, 12, 13, 14, 15, 16, 17, 18, 19, 20, 21, 22, 23, 24, 25] rfl (wr := (zwZ oZ oN oT oK oH oP oV Zss)) rfl (by decide) (by decide) (ws2 := (zwZ oZ oN oT oK oH oP oV Zss ++ zwS c3.1 oN ((Nzr, Nzf), (Nvr, Nvf), Nnm, Npd, Nnt) ++ zwH c3.1 oH r11)) rfl (by decide) (fun H locs hC => ?_)
            refine lv_aload_n hx hb dX5_zone_74 rfl (lv_at hl 0 rfl) ?_
            refine z_get S0 hC (ci := 5) (C := RX5) (T := TX5) (N := 7) (v := .ref oN.1) jX5_zone_X5 0 rfl rfl 0 (by decide) kX5_zone_10 rfl rfl dX5_zone_75 ?_
            refine lv_iload_n hx hb dX5_zone_78 rfl (lv_at hl 1 rfl) ?_
            refine lv_iload_n hx hb dX5_zone_79 rfl (lv_at hl 2 rfl) ?_
            refine lv_iload_n hx hb dX5_zone_80 rfl (lv_at hl 3 rfl) ?_
            refine lv_iload hx hb dX5_zone_81 (lv_at hl 4 rfl) ?_
            obtain ⟨r12, hr12, hf⟩ := z_bind hf
            refine z_calli (z_runV (n := 4) (rest := []) (As := [.int p1, .int p2, .int p3, .int p4]) S0 hC (c_X2_addZone l G c3 oN ((Nzr, Nzf), (Nvr, Nvf), Nnm, Npd, Nnt) p1 p2 p3 p4 hr12) [1, 2, 3, 4, 5, 6] (by decide) rfl gX5_zone_X2_addZone rfl rfl rfl (by decide +kernel) ⟨Nat.le_of_ble_eq_true rfl, Nat.le_of_ble_eq_true rfl⟩ (ci := 2) (q0 := 1) rfl rfl rfl hl.1 rfl (Nat.le_of_ble_eq_true rfl) dX5_zone_83) hC [1, 2, 3, 4, 5, 6] [0, 7, 8, 9, 10, 11, 12, 13, 14, 15, 16, 17, 18, 19, 20, 21, 22, 23, 24, 25, 26, 27, 28, 29, 30, 31] [0, 26, 27, 28, 29, 30, 31, 1, 2, 3, 4, 5, 6, 7, 8, 9, 10, 11, 12, 13, 14, 15, 16, 17, 18, 19, 20, 21, 22, 23, 24, 25] rfl (wr := (zwZ oZ oN oT oK oH oP oV Zss ++ zwH c3.1 oH r11)) rfl (by decide) (by decide) (ws2 := (zwZ oZ oN oT oK oH oP oV Zss ++ zwS c3.1 oN ((r12.2.1, r12.2.2), (Nvr, Nvf), Nnm, Npd, Nnt) ++ zwH c3.1 oH r11)) rfl (by decide) (fun H locs hC => ?_)
            obtain ⟨e1, e2, e3, e4⟩ := z_s4 hf
            subst e1
            subst e2
            subst e3
            subst e4
            exact z_iret S0 hr hlk hC dX5_zone_86
          · replace hf := z_neg cd10 hf
            refine lv_bipush (v := (-3)) hx hb dX5_zone_60 (by decide) ?_
            obtain ⟨e1, e2, e3, e4⟩ := z_s4 hf
            subst e1
            subst e2
            subst e3
            subst e4
            exact z_iret S0 hr hlk hC dX5_zone_62
        · replace hf := z_pos cd8 hf
          refine lv_iconst (v := (-1)) hx hb dX5_zone_43 (by decide) ?_
          obtain ⟨e1, e2, e3, e4⟩ := z_s4 hf
          subst e1
          subst e2
          subst e3
          subst e4
          exact z_iret S0 hr hlk hC dX5_zone_44
    · replace hf := z_pos cd4 hf
      refine lv_iconst (v := (-1)) hx hb dX5_zone_20 (by decide) ?_
      obtain ⟨e1, e2, e3, e4⟩ := z_s4 hf
      subst e1
      subst e2
      subst e3
      subst e4
      exact z_iret S0 hr hlk hC dX5_zone_21

-- X5 like
def f_X5_like (Nzr : Int32) (Nzf : (Nat → Int32)) (Nvr : Int32) (Nvf : (Nat → Int32)) (Nnm : (Nat → Int32)) (Npd : Int32) (Nnt : Int32) (Hhs : zHs) (p1 : Int32) (p2 : Int32) (p3 : Int32) (p4 : Int32) : Option (Int32 × (Nat → Int32) × zHs) :=
  (f_X4_has 70 Nzr p1).bind fun r1 => if r1 = 0 then
    some ((-1), Nzf, Hhs)
  else
    (f_X5_within p2 0 3).bind fun r3 => if r3 = 0 then
      some ((-1), Nzf, Hhs)
    else
      (f_X5_within p3 0 4).bind fun r5 => if r5 = 0 then
        some ((-1), Nzf, Hhs)
      else
        (f_X5_within p4 1 60).bind fun r7 => if r7 = 0 then
          some ((-1), Nzf, Hhs)
        else
          (f_X0_record Hhs Nzr Nzf Nvr Nvf Nnm Npd Nnt).bind fun r9 => (f_X2_shapeZone Nzr Nzf p1 p2 p3 p4).bind fun r10 => if p2 = 0 then
            some (0, r10, r9)
          else
            (f_X4_rowsWith 70 Nzr r10 4 p2).bind fun r12 => some (r12, r10, r9)

theorem kX5_like_10 : Cond.fieldLink RX5 10 "ZoneSampler" "now" "LZoneSampler$State;" ∈ wsX5_like := by decide +kernel
theorem kX5_like_25 : Cond.fieldLink RX5 25 "ZoneSampler" "history" "LZoneSampler$History;" ∈ wsX5_like := by decide +kernel
theorem jX5_like_X2 : ∀ w ∈ u_ws RX2 TX2 5, w ∈ wsX5_like := by decide +kernel
theorem jX5_like_X5 : ∀ w ∈ u_ws RX5 TX5 7, w ∈ wsX5_like := by decide +kernel
set_option maxHeartbeats 4000000 in
set_option maxRecDepth 100000 in
theorem c_X5_like (l : Launch) (G : va_G) (c3 : zT3) (oZ : Nat) (oN oT oK : zR6) (oH : Nat) (oP oV : zR2) (BZ : Int32) (BN : zSt) (BH : zHs) (p1 : Int32) (p2 : Int32) (p3 : Int32) (p4 : Int32) {r : Int32} {Nzf' : (Nat → Int32)} {Hhs' : zHs} (hf : f_X5_like BN.1.1 BN.1.2 BN.2.1.1 BN.2.1.2 BN.2.2.1 BN.2.2.2.1 BN.2.2.2.2 BH p1 p2 p3 p4 = some (r, Nzf', Hhs')) : zM l yX5_like wsX5_like ⟨4, 0, 0, 90⟩ G c3 (zwZ oZ oN oT oK oH oP oV BZ ++ zwS c3.1 oN ((BN.1.1, BN.1.2), (BN.2.1.1, BN.2.1.2), BN.2.2.1, BN.2.2.2.1, BN.2.2.2.2) ++ zwH c3.1 oH BH) [.ref oZ, .int p1, .int p2, .int p3, .int p4] (some (.int r)) (zwZ oZ oN oT oK oH oP oV BZ ++ zwS c3.1 oN ((BN.1.1, Nzf'), (BN.2.1.1, BN.2.1.2), BN.2.2.1, BN.2.2.2.1, BN.2.2.2.2) ++ zwH c3.1 oH Hhs') := by
  obtain ⟨Zss, rfl⟩ : ∃ y, y = BZ := ⟨_, rfl⟩
  obtain ⟨⟨Nzr, Nzf⟩, ⟨Nvr, Nvf⟩, Nnm, Npd, Nnt⟩ := BN
  obtain ⟨Hhs, rfl⟩ : ∃ y, y = BH := ⟨_, rfl⟩
  have hf : f_X5_like Nzr Nzf Nvr Nvf Nnm Npd Nnt Hhs p1 p2 p3 p4 = some (r, Nzf', Hhs') := hf
  show zM l yX5_like wsX5_like ⟨4, 0, 0, 90⟩ G c3 (zwZ oZ oN oT oK oH oP oV Zss ++ zwS c3.1 oN ((Nzr, Nzf), (Nvr, Nvf), Nnm, Npd, Nnt) ++ zwH c3.1 oH Hhs) [.ref oZ, .int p1, .int p2, .int p3, .int p4] (some (.int r)) (zwZ oZ oN oT oK oH oP oV Zss ++ zwS c3.1 oN ((Nzr, Nzf'), (Nvr, Nvf), Nnm, Npd, Nnt) ++ zwH c3.1 oH Hhs')
  refine zM.of (cc := cX5_like) (maxL := 5) (ret := (some .int)) (by decide) rfl (Nat.le_of_ble_eq_true rfl) ?_
  intro p e s m args below meth c A ls S0 hr hlk hC hl
  have S0 : CallFix p m c cX5_like 5 s args wsX5_like RX5 := S0
  have hl : lv_has ls 5 [(0, .ref oZ), (1, .int p1), (2, .int p2), (3, .int p3), (4, .int p4)] := hl
  have hx := S0.1
  have hb := S0.2.1
  obtain ⟨H, hH⟩ : ∃ y, y = s.heap := ⟨_, rfl⟩
  rw [← hH] at hC ⊢
  obtain ⟨locs, hlo⟩ : ∃ y : List Loc, y = [] := ⟨_, rfl⟩
  rw [← hlo] at hC ⊢
  clear hH hlo
  unfold f_X5_like at hf
  refine lv_aload_n hx hb dX5_like_0 rfl (lv_at hl 0 rfl) ?_
  refine z_get S0 hC (ci := 5) (C := RX5) (T := TX5) (N := 7) (v := .ref oN.1) jX5_like_X5 0 rfl rfl 0 (by decide) kX5_like_10 rfl rfl dX5_like_1 ?_
  refine z_getN S0 hC (host := "ZoneSampler") (ci := 2) (C := RX2) (T := TX2) (N := 5) (v := .ref oN.2.2.1.1) jX5_like_X2 1 rfl rfl 0 (by decide) (by decide +kernel : Cond.fieldLinkNest RX5 47 "ZoneSampler$State" "zones" "LZoneSampler$Table;" "ZoneSampler" ∈ zNW) rfl rfl dX5_like_4 ?_
  refine lv_iload_n hx hb dX5_like_7 rfl (lv_at hl 1 rfl) ?_
  obtain ⟨r1, hr1, hf⟩ := z_bind hf
  refine z_callPi (z_runV (n := 1) (rest := []) (As := [.int p1]) S0 hC (c_X4_has l G c3 oN.2.2.1 70 (Nzr, Nzf) p1 hr1) [3, 4] (by decide) rfl gX5_like_X4_has rfl rfl rfl (by decide +kernel) ⟨Nat.le_of_ble_eq_true rfl, Nat.le_of_ble_eq_true rfl⟩ (ci := 4) (q0 := 3) rfl rfl rfl hl.1 rfl (Nat.le_of_ble_eq_true rfl) dX5_like_8) hC [3, 4] rfl (fun H locs hC => ?_)
  refine lv_if_eq (tgt := 23) hx hb dX5_like_11 (by decide) (fun cd2 => ?_) (fun cd2 => ?_)
  · replace hf := z_pos cd2 hf
    refine lv_iconst (v := (-1)) hx hb dX5_like_23 (by decide) ?_
    obtain ⟨e1, e2, e3⟩ := z_s3 hf
    subst e1
    subst e2
    subst e3
    exact z_iret S0 hr hlk hC dX5_like_24
  · replace hf := z_neg cd2 hf
    refine lv_iload_n hx hb dX5_like_14 rfl (lv_at hl 2 rfl) ?_
    refine lv_iconst (v := 0) hx hb dX5_like_15 (by decide) ?_
    refine lv_iconst (v := 3) hx hb dX5_like_16 (by decide) ?_
    obtain ⟨r3, hr3, hf⟩ := z_bind hf
    refine z_callPi (z_runS (n := 3) (rest := []) (As := [.int p2, .int 0, .int 3]) S0 hC (c_X5_within l G c3 p2 0 3 hr3) [] (by decide) rfl gX5_like_X5_within rfl rfl rfl (by decide +kernel) ⟨Nat.le_of_ble_eq_true rfl, Nat.le_of_ble_eq_true rfl⟩ rfl hl.1 rfl (Nat.le_of_ble_eq_true rfl) dX5_like_17) hC [] rfl (fun H locs hC => ?_)
    refine lv_if_ne (tgt := 25) hx hb dX5_like_20 (by decide) (fun cd4 => ?_) (fun cd4 => ?_)
    · replace hf := z_neg cd4 hf
      refine lv_iload_n hx hb dX5_like_25 rfl (lv_at hl 3 rfl) ?_
      refine lv_iconst (v := 0) hx hb dX5_like_26 (by decide) ?_
      refine lv_iconst (v := 4) hx hb dX5_like_27 (by decide) ?_
      obtain ⟨r5, hr5, hf⟩ := z_bind hf
      refine z_callPi (z_runS (n := 3) (rest := []) (As := [.int p3, .int 0, .int 4]) S0 hC (c_X5_within l G c3 p3 0 4 hr5) [] (by decide) rfl gX5_like_X5_within rfl rfl rfl (by decide +kernel) ⟨Nat.le_of_ble_eq_true rfl, Nat.le_of_ble_eq_true rfl⟩ rfl hl.1 rfl (Nat.le_of_ble_eq_true rfl) dX5_like_28) hC [] rfl (fun H locs hC => ?_)
      refine lv_if_eq (tgt := 45) hx hb dX5_like_31 (by decide) (fun cd6 => ?_) (fun cd6 => ?_)
      · replace hf := z_pos cd6 hf
        refine lv_iconst (v := (-1)) hx hb dX5_like_45 (by decide) ?_
        obtain ⟨e1, e2, e3⟩ := z_s3 hf
        subst e1
        subst e2
        subst e3
        exact z_iret S0 hr hlk hC dX5_like_46
      · replace hf := z_neg cd6 hf
        refine lv_iload hx hb dX5_like_34 (lv_at hl 4 rfl) ?_
        refine lv_iconst (v := 1) hx hb dX5_like_36 (by decide) ?_
        refine lv_bipush (v := 60) hx hb dX5_like_37 (by decide) ?_
        obtain ⟨r7, hr7, hf⟩ := z_bind hf
        refine z_callPi (z_runS (n := 3) (rest := []) (As := [.int p4, .int 1, .int 60]) S0 hC (c_X5_within l G c3 p4 1 60 hr7) [] (by decide) rfl gX5_like_X5_within rfl rfl rfl (by decide +kernel) ⟨Nat.le_of_ble_eq_true rfl, Nat.le_of_ble_eq_true rfl⟩ rfl hl.1 rfl (Nat.le_of_ble_eq_true rfl) dX5_like_39) hC [] rfl (fun H locs hC => ?_)
        refine lv_if_ne (tgt := 47) hx hb dX5_like_42 (by decide) (fun cd8 => ?_) (fun cd8 => ?_)
        · replace hf := z_neg cd8 hf
          refine lv_aload_n hx hb dX5_like_47 rfl (lv_at hl 0 rfl) ?_
          refine z_get S0 hC (ci := 5) (C := RX5) (T := TX5) (N := 7) (v := .ref oH) jX5_like_X5 0 rfl rfl 3 (by decide) kX5_like_25 rfl rfl dX5_like_48 ?_
          refine lv_aload_n hx hb dX5_like_51 rfl (lv_at hl 0 rfl) ?_
          refine z_get S0 hC (ci := 5) (C := RX5) (T := TX5) (N := 7) (v := .ref oN.1) jX5_like_X5 0 rfl rfl 0 (by decide) kX5_like_10 rfl rfl dX5_like_52 ?_
          obtain ⟨r9, hr9, hf⟩ := z_bind hf
          refine z_callv (z_runV (n := 1) (rest := []) (As := [.ref oN.1]) S0 hC (c_X0_record l G c3 oH Hhs oN ((Nzr, Nzf), (Nvr, Nvf), Nnm, Npd, Nnt) hr9) [7, 8, 9, 10, 11, 12, 13, 14, 15, 16, 17, 18, 19, 20, 21, 22, 23, 24, 25, 26, 27, 28, 29, 30, 31, 1, 2, 3, 4, 5, 6] (by decide) rfl gX5_like_X0_record rfl rfl rfl (by decide +kernel) ⟨Nat.le_of_ble_eq_true rfl, Nat.le_of_ble_eq_true rfl⟩ (ci := 0) (q0 := 7) rfl rfl rfl hl.1 rfl (Nat.le_of_ble_eq_true rfl) dX5_like_55) hC [7, 8, 9, 10, 11, 12, 13, 14, 15, 16, 17, 18, 19, 20, 21, 22, 23, 24, 25, 26, 27, 28, 29, 30, 31, 1, 2, 3, 4, 5, 6] [0] [0, 26, 27, 28, 29, 30, 31, 1, 2, 3, 4, 5, 6, 7, 8, 9, 10, 11, 12, 13, 14, 15, 16, 17, 18, 19, 20, 21, 22, 23, 24, 25] rfl (wr := (zwZ oZ oN oT oK oH oP oV Zss)) rfl (by decide) (by decide) (ws2 := (zwZ oZ oN oT oK oH oP oV Zss ++ zwS c3.1 oN ((Nzr, Nzf), (Nvr, Nvf), Nnm, Npd, Nnt) ++ zwH c3.1 oH r9)) rfl (by decide) (fun H locs hC => ?_)
          refine lv_aload_n hx hb dX5_like_58 rfl (lv_at hl 0 rfl) ?_
          refine z_get S0 hC (ci := 5) (C := RX5) (T := TX5) (N := 7) (v := .ref oN.1) jX5_like_X5 0 rfl rfl 0 (by decide) kX5_like_10 rfl rfl dX5_like_59 ?_
          refine lv_iload_n hx hb dX5_like_62 rfl (lv_at hl 1 rfl) ?_
          refine lv_iload_n hx hb dX5_like_63 rfl (lv_at hl 2 rfl) ?_
          refine lv_iload_n hx hb dX5_like_64 rfl (lv_at hl 3 rfl) ?_
          refine lv_iload hx hb dX5_like_65 (lv_at hl 4 rfl) ?_
          obtain ⟨r10, hr10, hf⟩ := z_bind hf
          refine z_callv (z_runV (n := 4) (rest := []) (As := [.int p1, .int p2, .int p3, .int p4]) S0 hC (c_X2_shapeZone l G c3 oN ((Nzr, Nzf), (Nvr, Nvf), Nnm, Npd, Nnt) p1 p2 p3 p4 hr10) [1, 2, 3, 4, 5, 6] (by decide) rfl gX5_like_X2_shapeZone rfl rfl rfl (by decide +kernel) ⟨Nat.le_of_ble_eq_true rfl, Nat.le_of_ble_eq_true rfl⟩ (ci := 2) (q0 := 1) rfl rfl rfl hl.1 rfl (Nat.le_of_ble_eq_true rfl) dX5_like_67) hC [1, 2, 3, 4, 5, 6] [0, 7, 8, 9, 10, 11, 12, 13, 14, 15, 16, 17, 18, 19, 20, 21, 22, 23, 24, 25, 26, 27, 28, 29, 30, 31] [0, 26, 27, 28, 29, 30, 31, 1, 2, 3, 4, 5, 6, 7, 8, 9, 10, 11, 12, 13, 14, 15, 16, 17, 18, 19, 20, 21, 22, 23, 24, 25] rfl (wr := (zwZ oZ oN oT oK oH oP oV Zss ++ zwH c3.1 oH r9)) rfl (by decide) (by decide) (ws2 := (zwZ oZ oN oT oK oH oP oV Zss ++ zwS c3.1 oN ((Nzr, r10), (Nvr, Nvf), Nnm, Npd, Nnt) ++ zwH c3.1 oH r9)) rfl (by decide) (fun H locs hC => ?_)
          refine lv_iload_n hx hb dX5_like_70 rfl (lv_at hl 2 rfl) ?_
          refine lv_if_ne (tgt := 78) hx hb dX5_like_71 (by decide) (fun cd11 => ?_) (fun cd11 => ?_)
          · replace hf := z_neg cd11 hf
            refine lv_aload_n hx hb dX5_like_78 rfl (lv_at hl 0 rfl) ?_
            refine z_get S0 hC (ci := 5) (C := RX5) (T := TX5) (N := 7) (v := .ref oN.1) jX5_like_X5 0 rfl rfl 0 (by decide) kX5_like_10 rfl rfl dX5_like_79 ?_
            refine z_getN S0 hC (host := "ZoneSampler") (ci := 2) (C := RX2) (T := TX2) (N := 5) (v := .ref oN.2.2.1.1) jX5_like_X2 1 rfl rfl 0 (by decide) (by decide +kernel : Cond.fieldLinkNest RX5 47 "ZoneSampler$State" "zones" "LZoneSampler$Table;" "ZoneSampler" ∈ zNW) rfl rfl dX5_like_82 ?_
            refine lv_iconst (v := 4) hx hb dX5_like_85 (by decide) ?_
            refine lv_iload_n hx hb dX5_like_86 rfl (lv_at hl 2 rfl) ?_
            obtain ⟨r12, hr12, hf⟩ := z_bind hf
            refine z_callPi (z_runV (n := 2) (rest := []) (As := [.int 4, .int p2]) S0 hC (c_X4_rowsWith l G c3 oN.2.2.1 70 (Nzr, r10) 4 p2 hr12) [3, 4] (by decide) rfl gX5_like_X4_rowsWith rfl rfl rfl (by decide +kernel) ⟨Nat.le_of_ble_eq_true rfl, Nat.le_of_ble_eq_true rfl⟩ (ci := 4) (q0 := 3) rfl rfl rfl hl.1 rfl (Nat.le_of_ble_eq_true rfl) dX5_like_87) hC [3, 4] rfl (fun H locs hC => ?_)
            obtain ⟨e1, e2, e3⟩ := z_s3 hf
            subst e1
            subst e2
            subst e3
            exact z_iret S0 hr hlk hC dX5_like_90
          · replace hf := z_pos cd11 hf
            refine lv_iconst (v := 0) hx hb dX5_like_74 (by decide) ?_
            refine lv_goto (tgt := 90) hx hb dX5_like_75 (by decide) ?_
            obtain ⟨e1, e2, e3⟩ := z_s3 hf
            subst e1
            subst e2
            subst e3
            exact z_iret S0 hr hlk hC dX5_like_90
        · replace hf := z_pos cd8 hf
          refine lv_iconst (v := (-1)) hx hb dX5_like_45 (by decide) ?_
          obtain ⟨e1, e2, e3⟩ := z_s3 hf
          subst e1
          subst e2
          subst e3
          exact z_iret S0 hr hlk hC dX5_like_46
    · replace hf := z_pos cd4 hf
      refine lv_iconst (v := (-1)) hx hb dX5_like_23 (by decide) ?_
      obtain ⟨e1, e2, e3⟩ := z_s3 hf
      subst e1
      subst e2
      subst e3
      exact z_iret S0 hr hlk hC dX5_like_24

-- X5 takeZone
def f_X5_takeZone (Nzr : Int32) (Nzf : (Nat → Int32)) (Nvr : Int32) (Nvf : (Nat → Int32)) (Nnm : (Nat → Int32)) (Npd : Int32) (Nnt : Int32) (Hhs : zHs) (p1 : Int32) : Option (Int32 × Int32 × (Nat → Int32) × Int32 × (Nat → Int32) × (Nat → Int32) × zHs) :=
  (f_X4_has 70 Nzr p1).bind fun r1 => if r1 = 0 then
    some ((-1), Nzr, Nzf, Nvr, Nvf, Nnm, Hhs)
  else
    (f_X0_record Hhs Nzr Nzf Nvr Nvf Nnm Npd Nnt).bind fun r3 => (f_X2_dropZone Nzr Nzf Nvr Nvf Nnm p1).bind fun r4 => some (r4.1, r4.2.1, r4.2.2.1, r4.2.2.2.1, r4.2.2.2.2.1, r4.2.2.2.2.2, r3)

theorem kX5_takeZone_10 : Cond.fieldLink RX5 10 "ZoneSampler" "now" "LZoneSampler$State;" ∈ wsX5_takeZone := by decide +kernel
theorem kX5_takeZone_25 : Cond.fieldLink RX5 25 "ZoneSampler" "history" "LZoneSampler$History;" ∈ wsX5_takeZone := by decide +kernel
theorem jX5_takeZone_X2 : ∀ w ∈ u_ws RX2 TX2 5, w ∈ wsX5_takeZone := by decide +kernel
theorem jX5_takeZone_X5 : ∀ w ∈ u_ws RX5 TX5 7, w ∈ wsX5_takeZone := by decide +kernel
set_option maxHeartbeats 4000000 in
set_option maxRecDepth 100000 in
theorem c_X5_takeZone (l : Launch) (G : va_G) (c3 : zT3) (oZ : Nat) (oN oT oK : zR6) (oH : Nat) (oP oV : zR2) (BZ : Int32) (BN : zSt) (BH : zHs) (p1 : Int32) {r : Int32} {Nzr' : Int32} {Nzf' : (Nat → Int32)} {Nvr' : Int32} {Nvf' : (Nat → Int32)} {Nnm' : (Nat → Int32)} {Hhs' : zHs} (hf : f_X5_takeZone BN.1.1 BN.1.2 BN.2.1.1 BN.2.1.2 BN.2.2.1 BN.2.2.2.1 BN.2.2.2.2 BH p1 = some (r, Nzr', Nzf', Nvr', Nvf', Nnm', Hhs')) : zM l yX5_takeZone wsX5_takeZone ⟨4, 0, 0, 90⟩ G c3 (zwZ oZ oN oT oK oH oP oV BZ ++ zwS c3.1 oN ((BN.1.1, BN.1.2), (BN.2.1.1, BN.2.1.2), BN.2.2.1, BN.2.2.2.1, BN.2.2.2.2) ++ zwH c3.1 oH BH) [.ref oZ, .int p1] (some (.int r)) (zwZ oZ oN oT oK oH oP oV BZ ++ zwS c3.1 oN ((Nzr', Nzf'), (Nvr', Nvf'), Nnm', BN.2.2.2.1, BN.2.2.2.2) ++ zwH c3.1 oH Hhs') := by
  obtain ⟨Zss, rfl⟩ : ∃ y, y = BZ := ⟨_, rfl⟩
  obtain ⟨⟨Nzr, Nzf⟩, ⟨Nvr, Nvf⟩, Nnm, Npd, Nnt⟩ := BN
  obtain ⟨Hhs, rfl⟩ : ∃ y, y = BH := ⟨_, rfl⟩
  have hf : f_X5_takeZone Nzr Nzf Nvr Nvf Nnm Npd Nnt Hhs p1 = some (r, Nzr', Nzf', Nvr', Nvf', Nnm', Hhs') := hf
  show zM l yX5_takeZone wsX5_takeZone ⟨4, 0, 0, 90⟩ G c3 (zwZ oZ oN oT oK oH oP oV Zss ++ zwS c3.1 oN ((Nzr, Nzf), (Nvr, Nvf), Nnm, Npd, Nnt) ++ zwH c3.1 oH Hhs) [.ref oZ, .int p1] (some (.int r)) (zwZ oZ oN oT oK oH oP oV Zss ++ zwS c3.1 oN ((Nzr', Nzf'), (Nvr', Nvf'), Nnm', Npd, Nnt) ++ zwH c3.1 oH Hhs')
  refine zM.of (cc := cX5_takeZone) (maxL := 2) (ret := (some .int)) (by decide) rfl (Nat.le_of_ble_eq_true rfl) ?_
  intro p e s m args below meth c A ls S0 hr hlk hC hl
  have S0 : CallFix p m c cX5_takeZone 2 s args wsX5_takeZone RX5 := S0
  have hl : lv_has ls 2 [(0, .ref oZ), (1, .int p1)] := hl
  have hx := S0.1
  have hb := S0.2.1
  obtain ⟨H, hH⟩ : ∃ y, y = s.heap := ⟨_, rfl⟩
  rw [← hH] at hC ⊢
  obtain ⟨locs, hlo⟩ : ∃ y : List Loc, y = [] := ⟨_, rfl⟩
  rw [← hlo] at hC ⊢
  clear hH hlo
  unfold f_X5_takeZone at hf
  refine lv_aload_n hx hb dX5_takeZone_0 rfl (lv_at hl 0 rfl) ?_
  refine z_get S0 hC (ci := 5) (C := RX5) (T := TX5) (N := 7) (v := .ref oN.1) jX5_takeZone_X5 0 rfl rfl 0 (by decide) kX5_takeZone_10 rfl rfl dX5_takeZone_1 ?_
  refine z_getN S0 hC (host := "ZoneSampler") (ci := 2) (C := RX2) (T := TX2) (N := 5) (v := .ref oN.2.2.1.1) jX5_takeZone_X2 1 rfl rfl 0 (by decide) (by decide +kernel : Cond.fieldLinkNest RX5 47 "ZoneSampler$State" "zones" "LZoneSampler$Table;" "ZoneSampler" ∈ zNW) rfl rfl dX5_takeZone_4 ?_
  refine lv_iload_n hx hb dX5_takeZone_7 rfl (lv_at hl 1 rfl) ?_
  obtain ⟨r1, hr1, hf⟩ := z_bind hf
  refine z_callPi (z_runV (n := 1) (rest := []) (As := [.int p1]) S0 hC (c_X4_has l G c3 oN.2.2.1 70 (Nzr, Nzf) p1 hr1) [3, 4] (by decide) rfl gX5_takeZone_X4_has rfl rfl rfl (by decide +kernel) ⟨Nat.le_of_ble_eq_true rfl, Nat.le_of_ble_eq_true rfl⟩ (ci := 4) (q0 := 3) rfl rfl rfl hl.1 rfl (Nat.le_of_ble_eq_true rfl) dX5_takeZone_8) hC [3, 4] rfl (fun H locs hC => ?_)
  refine lv_if_ne (tgt := 16) hx hb dX5_takeZone_11 (by decide) (fun cd2 => ?_) (fun cd2 => ?_)
  · replace hf := z_neg cd2 hf
    refine lv_aload_n hx hb dX5_takeZone_16 rfl (lv_at hl 0 rfl) ?_
    refine z_get S0 hC (ci := 5) (C := RX5) (T := TX5) (N := 7) (v := .ref oH) jX5_takeZone_X5 0 rfl rfl 3 (by decide) kX5_takeZone_25 rfl rfl dX5_takeZone_17 ?_
    refine lv_aload_n hx hb dX5_takeZone_20 rfl (lv_at hl 0 rfl) ?_
    refine z_get S0 hC (ci := 5) (C := RX5) (T := TX5) (N := 7) (v := .ref oN.1) jX5_takeZone_X5 0 rfl rfl 0 (by decide) kX5_takeZone_10 rfl rfl dX5_takeZone_21 ?_
    obtain ⟨r3, hr3, hf⟩ := z_bind hf
    refine z_callv (z_runV (n := 1) (rest := []) (As := [.ref oN.1]) S0 hC (c_X0_record l G c3 oH Hhs oN ((Nzr, Nzf), (Nvr, Nvf), Nnm, Npd, Nnt) hr3) [7, 8, 9, 10, 11, 12, 13, 14, 15, 16, 17, 18, 19, 20, 21, 22, 23, 24, 25, 26, 27, 28, 29, 30, 31, 1, 2, 3, 4, 5, 6] (by decide) rfl gX5_takeZone_X0_record rfl rfl rfl (by decide +kernel) ⟨Nat.le_of_ble_eq_true rfl, Nat.le_of_ble_eq_true rfl⟩ (ci := 0) (q0 := 7) rfl rfl rfl hl.1 rfl (Nat.le_of_ble_eq_true rfl) dX5_takeZone_24) hC [7, 8, 9, 10, 11, 12, 13, 14, 15, 16, 17, 18, 19, 20, 21, 22, 23, 24, 25, 26, 27, 28, 29, 30, 31, 1, 2, 3, 4, 5, 6] [0] [0, 26, 27, 28, 29, 30, 31, 1, 2, 3, 4, 5, 6, 7, 8, 9, 10, 11, 12, 13, 14, 15, 16, 17, 18, 19, 20, 21, 22, 23, 24, 25] rfl (wr := (zwZ oZ oN oT oK oH oP oV Zss)) rfl (by decide) (by decide) (ws2 := (zwZ oZ oN oT oK oH oP oV Zss ++ zwS c3.1 oN ((Nzr, Nzf), (Nvr, Nvf), Nnm, Npd, Nnt) ++ zwH c3.1 oH r3)) rfl (by decide) (fun H locs hC => ?_)
    refine lv_aload_n hx hb dX5_takeZone_27 rfl (lv_at hl 0 rfl) ?_
    refine z_get S0 hC (ci := 5) (C := RX5) (T := TX5) (N := 7) (v := .ref oN.1) jX5_takeZone_X5 0 rfl rfl 0 (by decide) kX5_takeZone_10 rfl rfl dX5_takeZone_28 ?_
    refine lv_iload_n hx hb dX5_takeZone_31 rfl (lv_at hl 1 rfl) ?_
    obtain ⟨r4, hr4, hf⟩ := z_bind hf
    refine z_calli (z_runV (n := 1) (rest := []) (As := [.int p1]) S0 hC (c_X2_dropZone l G c3 oN ((Nzr, Nzf), (Nvr, Nvf), Nnm, Npd, Nnt) p1 hr4) [1, 2, 3, 4, 5, 6] (by decide) rfl gX5_takeZone_X2_dropZone rfl rfl rfl (by decide +kernel) ⟨Nat.le_of_ble_eq_true rfl, Nat.le_of_ble_eq_true rfl⟩ (ci := 2) (q0 := 1) rfl rfl rfl hl.1 rfl (Nat.le_of_ble_eq_true rfl) dX5_takeZone_32) hC [1, 2, 3, 4, 5, 6] [0, 7, 8, 9, 10, 11, 12, 13, 14, 15, 16, 17, 18, 19, 20, 21, 22, 23, 24, 25, 26, 27, 28, 29, 30, 31] [0, 26, 27, 28, 29, 30, 31, 1, 2, 3, 4, 5, 6, 7, 8, 9, 10, 11, 12, 13, 14, 15, 16, 17, 18, 19, 20, 21, 22, 23, 24, 25] rfl (wr := (zwZ oZ oN oT oK oH oP oV Zss ++ zwH c3.1 oH r3)) rfl (by decide) (by decide) (ws2 := (zwZ oZ oN oT oK oH oP oV Zss ++ zwS c3.1 oN ((r4.2.1, r4.2.2.1), (r4.2.2.2.1, r4.2.2.2.2.1), r4.2.2.2.2.2, Npd, Nnt) ++ zwH c3.1 oH r3)) rfl (by decide) (fun H locs hC => ?_)
    obtain ⟨e1, e2, e3, e4, e5, e6, e7⟩ := z_s7 hf
    subst e1
    subst e2
    subst e3
    subst e4
    subst e5
    subst e6
    subst e7
    exact z_iret S0 hr hlk hC dX5_takeZone_35
  · replace hf := z_pos cd2 hf
    refine lv_iconst (v := (-1)) hx hb dX5_takeZone_14 (by decide) ?_
    obtain ⟨e1, e2, e3, e4, e5, e6, e7⟩ := z_s7 hf
    subst e1
    subst e2
    subst e3
    subst e4
    subst e5
    subst e6
    subst e7
    exact z_iret S0 hr hlk hC dX5_takeZone_15

-- X5 hit
def f_X5_hit (Nzr : Int32) (Nzf : (Nat → Int32)) (Nvr : Int32) (Nvf : (Nat → Int32)) (Nnm : (Nat → Int32)) (Npd : Int32) (Nnt : Int32) (Hhs : zHs) (p1 : Int32) (p2 : Int32) : Option (Int32 × Int32 × (Nat → Int32) × (Nat → Int32) × Int32 × zHs) :=
  (f_X5_isNote p1 p2).bind fun r1 => if r1 = 0 then
    some ((-1), Nvr, Nvf, Nnm, Nnt, Hhs)
  else
    (f_X0_record Hhs Nzr Nzf Nvr Nvf Nnm Npd Nnt).bind fun r3 => (f_X2_strike Nzr Nzf Nvr Nvf Nnm Nnt p1 p2).bind fun r4 => some (r4.1, r4.2.1, r4.2.2.1, r4.2.2.2.1, r4.2.2.2.2, r3)

theorem kX5_hit_25 : Cond.fieldLink RX5 25 "ZoneSampler" "history" "LZoneSampler$History;" ∈ wsX5_hit := by decide +kernel
theorem kX5_hit_10 : Cond.fieldLink RX5 10 "ZoneSampler" "now" "LZoneSampler$State;" ∈ wsX5_hit := by decide +kernel
theorem jX5_hit_X5 : ∀ w ∈ u_ws RX5 TX5 7, w ∈ wsX5_hit := by decide +kernel
set_option maxHeartbeats 4000000 in
set_option maxRecDepth 100000 in
theorem c_X5_hit (l : Launch) (G : va_G) (c3 : zT3) (oZ : Nat) (oN oT oK : zR6) (oH : Nat) (oP oV : zR2) (BZ : Int32) (BN : zSt) (BH : zHs) (p1 : Int32) (p2 : Int32) {r : Int32} {Nvr' : Int32} {Nvf' : (Nat → Int32)} {Nnm' : (Nat → Int32)} {Nnt' : Int32} {Hhs' : zHs} (hf : f_X5_hit BN.1.1 BN.1.2 BN.2.1.1 BN.2.1.2 BN.2.2.1 BN.2.2.2.1 BN.2.2.2.2 BH p1 p2 = some (r, Nvr', Nvf', Nnm', Nnt', Hhs')) : zM l yX5_hit wsX5_hit ⟨5, 0, 0, 116⟩ G c3 (zwZ oZ oN oT oK oH oP oV BZ ++ zwS c3.1 oN ((BN.1.1, BN.1.2), (BN.2.1.1, BN.2.1.2), BN.2.2.1, BN.2.2.2.1, BN.2.2.2.2) ++ zwH c3.1 oH BH) [.ref oZ, .int p1, .int p2] (some (.int r)) (zwZ oZ oN oT oK oH oP oV BZ ++ zwS c3.1 oN ((BN.1.1, BN.1.2), (Nvr', Nvf'), Nnm', BN.2.2.2.1, Nnt') ++ zwH c3.1 oH Hhs') := by
  obtain ⟨Zss, rfl⟩ : ∃ y, y = BZ := ⟨_, rfl⟩
  obtain ⟨⟨Nzr, Nzf⟩, ⟨Nvr, Nvf⟩, Nnm, Npd, Nnt⟩ := BN
  obtain ⟨Hhs, rfl⟩ : ∃ y, y = BH := ⟨_, rfl⟩
  have hf : f_X5_hit Nzr Nzf Nvr Nvf Nnm Npd Nnt Hhs p1 p2 = some (r, Nvr', Nvf', Nnm', Nnt', Hhs') := hf
  show zM l yX5_hit wsX5_hit ⟨5, 0, 0, 116⟩ G c3 (zwZ oZ oN oT oK oH oP oV Zss ++ zwS c3.1 oN ((Nzr, Nzf), (Nvr, Nvf), Nnm, Npd, Nnt) ++ zwH c3.1 oH Hhs) [.ref oZ, .int p1, .int p2] (some (.int r)) (zwZ oZ oN oT oK oH oP oV Zss ++ zwS c3.1 oN ((Nzr, Nzf), (Nvr', Nvf'), Nnm', Npd, Nnt') ++ zwH c3.1 oH Hhs')
  refine zM.of (cc := cX5_hit) (maxL := 3) (ret := (some .int)) (by decide) rfl (Nat.le_of_ble_eq_true rfl) ?_
  intro p e s m args below meth c A ls S0 hr hlk hC hl
  have S0 : CallFix p m c cX5_hit 3 s args wsX5_hit RX5 := S0
  have hl : lv_has ls 3 [(0, .ref oZ), (1, .int p1), (2, .int p2)] := hl
  have hx := S0.1
  have hb := S0.2.1
  obtain ⟨H, hH⟩ : ∃ y, y = s.heap := ⟨_, rfl⟩
  rw [← hH] at hC ⊢
  obtain ⟨locs, hlo⟩ : ∃ y : List Loc, y = [] := ⟨_, rfl⟩
  rw [← hlo] at hC ⊢
  clear hH hlo
  unfold f_X5_hit at hf
  refine lv_iload_n hx hb dX5_hit_0 rfl (lv_at hl 1 rfl) ?_
  refine lv_iload_n hx hb dX5_hit_1 rfl (lv_at hl 2 rfl) ?_
  obtain ⟨r1, hr1, hf⟩ := z_bind hf
  refine z_callPi (z_runS (n := 2) (rest := []) (As := [.int p1, .int p2]) S0 hC (c_X5_isNote l G c3 p1 p2 hr1) [] (by decide) rfl gX5_hit_X5_isNote rfl rfl rfl (by decide +kernel) ⟨Nat.le_of_ble_eq_true rfl, Nat.le_of_ble_eq_true rfl⟩ rfl hl.1 rfl (Nat.le_of_ble_eq_true rfl) dX5_hit_2) hC [] rfl (fun H locs hC => ?_)
  refine lv_if_ne (tgt := 10) hx hb dX5_hit_5 (by decide) (fun cd2 => ?_) (fun cd2 => ?_)
  · replace hf := z_neg cd2 hf
    refine lv_aload_n hx hb dX5_hit_10 rfl (lv_at hl 0 rfl) ?_
    refine z_get S0 hC (ci := 5) (C := RX5) (T := TX5) (N := 7) (v := .ref oH) jX5_hit_X5 0 rfl rfl 3 (by decide) kX5_hit_25 rfl rfl dX5_hit_11 ?_
    refine lv_aload_n hx hb dX5_hit_14 rfl (lv_at hl 0 rfl) ?_
    refine z_get S0 hC (ci := 5) (C := RX5) (T := TX5) (N := 7) (v := .ref oN.1) jX5_hit_X5 0 rfl rfl 0 (by decide) kX5_hit_10 rfl rfl dX5_hit_15 ?_
    obtain ⟨r3, hr3, hf⟩ := z_bind hf
    refine z_callv (z_runV (n := 1) (rest := []) (As := [.ref oN.1]) S0 hC (c_X0_record l G c3 oH Hhs oN ((Nzr, Nzf), (Nvr, Nvf), Nnm, Npd, Nnt) hr3) [7, 8, 9, 10, 11, 12, 13, 14, 15, 16, 17, 18, 19, 20, 21, 22, 23, 24, 25, 26, 27, 28, 29, 30, 31, 1, 2, 3, 4, 5, 6] (by decide) rfl gX5_hit_X0_record rfl rfl rfl (by decide +kernel) ⟨Nat.le_of_ble_eq_true rfl, Nat.le_of_ble_eq_true rfl⟩ (ci := 0) (q0 := 7) rfl rfl rfl hl.1 rfl (Nat.le_of_ble_eq_true rfl) dX5_hit_18) hC [7, 8, 9, 10, 11, 12, 13, 14, 15, 16, 17, 18, 19, 20, 21, 22, 23, 24, 25, 26, 27, 28, 29, 30, 31, 1, 2, 3, 4, 5, 6] [0] [0, 26, 27, 28, 29, 30, 31, 1, 2, 3, 4, 5, 6, 7, 8, 9, 10, 11, 12, 13, 14, 15, 16, 17, 18, 19, 20, 21, 22, 23, 24, 25] rfl (wr := (zwZ oZ oN oT oK oH oP oV Zss)) rfl (by decide) (by decide) (ws2 := (zwZ oZ oN oT oK oH oP oV Zss ++ zwS c3.1 oN ((Nzr, Nzf), (Nvr, Nvf), Nnm, Npd, Nnt) ++ zwH c3.1 oH r3)) rfl (by decide) (fun H locs hC => ?_)
    refine lv_aload_n hx hb dX5_hit_21 rfl (lv_at hl 0 rfl) ?_
    refine z_get S0 hC (ci := 5) (C := RX5) (T := TX5) (N := 7) (v := .ref oN.1) jX5_hit_X5 0 rfl rfl 0 (by decide) kX5_hit_10 rfl rfl dX5_hit_22 ?_
    refine lv_iload_n hx hb dX5_hit_25 rfl (lv_at hl 1 rfl) ?_
    refine lv_iload_n hx hb dX5_hit_26 rfl (lv_at hl 2 rfl) ?_
    obtain ⟨r4, hr4, hf⟩ := z_bind hf
    refine z_calli (z_runV (n := 2) (rest := []) (As := [.int p1, .int p2]) S0 hC (c_X2_strike l G c3 oN ((Nzr, Nzf), (Nvr, Nvf), Nnm, Npd, Nnt) p1 p2 hr4) [1, 2, 3, 4, 5, 6] (by decide) rfl gX5_hit_X2_strike rfl rfl rfl (by decide +kernel) ⟨Nat.le_of_ble_eq_true rfl, Nat.le_of_ble_eq_true rfl⟩ (ci := 2) (q0 := 1) rfl rfl rfl hl.1 rfl (Nat.le_of_ble_eq_true rfl) dX5_hit_27) hC [1, 2, 3, 4, 5, 6] [0, 7, 8, 9, 10, 11, 12, 13, 14, 15, 16, 17, 18, 19, 20, 21, 22, 23, 24, 25, 26, 27, 28, 29, 30, 31] [0, 26, 27, 28, 29, 30, 31, 1, 2, 3, 4, 5, 6, 7, 8, 9, 10, 11, 12, 13, 14, 15, 16, 17, 18, 19, 20, 21, 22, 23, 24, 25] rfl (wr := (zwZ oZ oN oT oK oH oP oV Zss ++ zwH c3.1 oH r3)) rfl (by decide) (by decide) (ws2 := (zwZ oZ oN oT oK oH oP oV Zss ++ zwS c3.1 oN ((Nzr, Nzf), (r4.2.1, r4.2.2.1), r4.2.2.2.1, Npd, r4.2.2.2.2) ++ zwH c3.1 oH r3)) rfl (by decide) (fun H locs hC => ?_)
    obtain ⟨e1, e2, e3, e4, e5, e6⟩ := z_s6 hf
    subst e1
    subst e2
    subst e3
    subst e4
    subst e5
    subst e6
    exact z_iret S0 hr hlk hC dX5_hit_30
  · replace hf := z_pos cd2 hf
    refine lv_iconst (v := (-1)) hx hb dX5_hit_8 (by decide) ?_
    obtain ⟨e1, e2, e3, e4, e5, e6⟩ := z_s6 hf
    subst e1
    subst e2
    subst e3
    subst e4
    subst e5
    subst e6
    exact z_iret S0 hr hlk hC dX5_hit_9

-- X5 letGo
def f_X5_letGo (Nzr : Int32) (Nzf : (Nat → Int32)) (Nvr : Int32) (Nvf : (Nat → Int32)) (Nnm : (Nat → Int32)) (Npd : Int32) (Nnt : Int32) (Hhs : zHs) (p1 : Int32) : Option (Int32 × (Nat → Int32) × zHs) :=
  (f_X5_within p1 0 35).bind fun r1 => if r1 = 0 then
    some ((-1), Nvf, Hhs)
  else
    (f_X0_record Hhs Nzr Nzf Nvr Nvf Nnm Npd Nnt).bind fun r3 => (f_X2_release Nvr Nvf Npd p1).bind fun r4 => some (r4.1, r4.2, r3)

theorem kX5_letGo_25 : Cond.fieldLink RX5 25 "ZoneSampler" "history" "LZoneSampler$History;" ∈ wsX5_letGo := by decide +kernel
theorem kX5_letGo_10 : Cond.fieldLink RX5 10 "ZoneSampler" "now" "LZoneSampler$State;" ∈ wsX5_letGo := by decide +kernel
theorem jX5_letGo_X5 : ∀ w ∈ u_ws RX5 TX5 7, w ∈ wsX5_letGo := by decide +kernel
set_option maxHeartbeats 4000000 in
set_option maxRecDepth 100000 in
theorem c_X5_letGo (l : Launch) (G : va_G) (c3 : zT3) (oZ : Nat) (oN oT oK : zR6) (oH : Nat) (oP oV : zR2) (BZ : Int32) (BN : zSt) (BH : zHs) (p1 : Int32) {r : Int32} {Nvf' : (Nat → Int32)} {Hhs' : zHs} (hf : f_X5_letGo BN.1.1 BN.1.2 BN.2.1.1 BN.2.1.2 BN.2.2.1 BN.2.2.2.1 BN.2.2.2.2 BH p1 = some (r, Nvf', Hhs')) : zM l yX5_letGo wsX5_letGo ⟨4, 0, 0, 90⟩ G c3 (zwZ oZ oN oT oK oH oP oV BZ ++ zwS c3.1 oN ((BN.1.1, BN.1.2), (BN.2.1.1, BN.2.1.2), BN.2.2.1, BN.2.2.2.1, BN.2.2.2.2) ++ zwH c3.1 oH BH) [.ref oZ, .int p1] (some (.int r)) (zwZ oZ oN oT oK oH oP oV BZ ++ zwS c3.1 oN ((BN.1.1, BN.1.2), (BN.2.1.1, Nvf'), BN.2.2.1, BN.2.2.2.1, BN.2.2.2.2) ++ zwH c3.1 oH Hhs') := by
  obtain ⟨Zss, rfl⟩ : ∃ y, y = BZ := ⟨_, rfl⟩
  obtain ⟨⟨Nzr, Nzf⟩, ⟨Nvr, Nvf⟩, Nnm, Npd, Nnt⟩ := BN
  obtain ⟨Hhs, rfl⟩ : ∃ y, y = BH := ⟨_, rfl⟩
  have hf : f_X5_letGo Nzr Nzf Nvr Nvf Nnm Npd Nnt Hhs p1 = some (r, Nvf', Hhs') := hf
  show zM l yX5_letGo wsX5_letGo ⟨4, 0, 0, 90⟩ G c3 (zwZ oZ oN oT oK oH oP oV Zss ++ zwS c3.1 oN ((Nzr, Nzf), (Nvr, Nvf), Nnm, Npd, Nnt) ++ zwH c3.1 oH Hhs) [.ref oZ, .int p1] (some (.int r)) (zwZ oZ oN oT oK oH oP oV Zss ++ zwS c3.1 oN ((Nzr, Nzf), (Nvr, Nvf'), Nnm, Npd, Nnt) ++ zwH c3.1 oH Hhs')
  refine zM.of (cc := cX5_letGo) (maxL := 2) (ret := (some .int)) (by decide) rfl (Nat.le_of_ble_eq_true rfl) ?_
  intro p e s m args below meth c A ls S0 hr hlk hC hl
  have S0 : CallFix p m c cX5_letGo 2 s args wsX5_letGo RX5 := S0
  have hl : lv_has ls 2 [(0, .ref oZ), (1, .int p1)] := hl
  have hx := S0.1
  have hb := S0.2.1
  obtain ⟨H, hH⟩ : ∃ y, y = s.heap := ⟨_, rfl⟩
  rw [← hH] at hC ⊢
  obtain ⟨locs, hlo⟩ : ∃ y : List Loc, y = [] := ⟨_, rfl⟩
  rw [← hlo] at hC ⊢
  clear hH hlo
  unfold f_X5_letGo at hf
  refine lv_iload_n hx hb dX5_letGo_0 rfl (lv_at hl 1 rfl) ?_
  refine lv_iconst (v := 0) hx hb dX5_letGo_1 (by decide) ?_
  refine lv_bipush (v := 35) hx hb dX5_letGo_2 (by decide) ?_
  obtain ⟨r1, hr1, hf⟩ := z_bind hf
  refine z_callPi (z_runS (n := 3) (rest := []) (As := [.int p1, .int 0, .int 35]) S0 hC (c_X5_within l G c3 p1 0 35 hr1) [] (by decide) rfl gX5_letGo_X5_within rfl rfl rfl (by decide +kernel) ⟨Nat.le_of_ble_eq_true rfl, Nat.le_of_ble_eq_true rfl⟩ rfl hl.1 rfl (Nat.le_of_ble_eq_true rfl) dX5_letGo_4) hC [] rfl (fun H locs hC => ?_)
  refine lv_if_ne (tgt := 12) hx hb dX5_letGo_7 (by decide) (fun cd2 => ?_) (fun cd2 => ?_)
  · replace hf := z_neg cd2 hf
    refine lv_aload_n hx hb dX5_letGo_12 rfl (lv_at hl 0 rfl) ?_
    refine z_get S0 hC (ci := 5) (C := RX5) (T := TX5) (N := 7) (v := .ref oH) jX5_letGo_X5 0 rfl rfl 3 (by decide) kX5_letGo_25 rfl rfl dX5_letGo_13 ?_
    refine lv_aload_n hx hb dX5_letGo_16 rfl (lv_at hl 0 rfl) ?_
    refine z_get S0 hC (ci := 5) (C := RX5) (T := TX5) (N := 7) (v := .ref oN.1) jX5_letGo_X5 0 rfl rfl 0 (by decide) kX5_letGo_10 rfl rfl dX5_letGo_17 ?_
    obtain ⟨r3, hr3, hf⟩ := z_bind hf
    refine z_callv (z_runV (n := 1) (rest := []) (As := [.ref oN.1]) S0 hC (c_X0_record l G c3 oH Hhs oN ((Nzr, Nzf), (Nvr, Nvf), Nnm, Npd, Nnt) hr3) [7, 8, 9, 10, 11, 12, 13, 14, 15, 16, 17, 18, 19, 20, 21, 22, 23, 24, 25, 26, 27, 28, 29, 30, 31, 1, 2, 3, 4, 5, 6] (by decide) rfl gX5_letGo_X0_record rfl rfl rfl (by decide +kernel) ⟨Nat.le_of_ble_eq_true rfl, Nat.le_of_ble_eq_true rfl⟩ (ci := 0) (q0 := 7) rfl rfl rfl hl.1 rfl (Nat.le_of_ble_eq_true rfl) dX5_letGo_20) hC [7, 8, 9, 10, 11, 12, 13, 14, 15, 16, 17, 18, 19, 20, 21, 22, 23, 24, 25, 26, 27, 28, 29, 30, 31, 1, 2, 3, 4, 5, 6] [0] [0, 26, 27, 28, 29, 30, 31, 1, 2, 3, 4, 5, 6, 7, 8, 9, 10, 11, 12, 13, 14, 15, 16, 17, 18, 19, 20, 21, 22, 23, 24, 25] rfl (wr := (zwZ oZ oN oT oK oH oP oV Zss)) rfl (by decide) (by decide) (ws2 := (zwZ oZ oN oT oK oH oP oV Zss ++ zwS c3.1 oN ((Nzr, Nzf), (Nvr, Nvf), Nnm, Npd, Nnt) ++ zwH c3.1 oH r3)) rfl (by decide) (fun H locs hC => ?_)
    refine lv_aload_n hx hb dX5_letGo_23 rfl (lv_at hl 0 rfl) ?_
    refine z_get S0 hC (ci := 5) (C := RX5) (T := TX5) (N := 7) (v := .ref oN.1) jX5_letGo_X5 0 rfl rfl 0 (by decide) kX5_letGo_10 rfl rfl dX5_letGo_24 ?_
    refine lv_iload_n hx hb dX5_letGo_27 rfl (lv_at hl 1 rfl) ?_
    obtain ⟨r4, hr4, hf⟩ := z_bind hf
    refine z_calli (z_runV (n := 1) (rest := []) (As := [.int p1]) S0 hC (c_X2_release l G c3 oN ((Nzr, Nzf), (Nvr, Nvf), Nnm, Npd, Nnt) p1 hr4) [1, 2, 3, 4, 5, 6] (by decide) rfl gX5_letGo_X2_release rfl rfl rfl (by decide +kernel) ⟨Nat.le_of_ble_eq_true rfl, Nat.le_of_ble_eq_true rfl⟩ (ci := 2) (q0 := 1) rfl rfl rfl hl.1 rfl (Nat.le_of_ble_eq_true rfl) dX5_letGo_28) hC [1, 2, 3, 4, 5, 6] [0, 7, 8, 9, 10, 11, 12, 13, 14, 15, 16, 17, 18, 19, 20, 21, 22, 23, 24, 25, 26, 27, 28, 29, 30, 31] [0, 26, 27, 28, 29, 30, 31, 1, 2, 3, 4, 5, 6, 7, 8, 9, 10, 11, 12, 13, 14, 15, 16, 17, 18, 19, 20, 21, 22, 23, 24, 25] rfl (wr := (zwZ oZ oN oT oK oH oP oV Zss ++ zwH c3.1 oH r3)) rfl (by decide) (by decide) (ws2 := (zwZ oZ oN oT oK oH oP oV Zss ++ zwS c3.1 oN ((Nzr, Nzf), (Nvr, r4.2), Nnm, Npd, Nnt) ++ zwH c3.1 oH r3)) rfl (by decide) (fun H locs hC => ?_)
    obtain ⟨e1, e2, e3⟩ := z_s3 hf
    subst e1
    subst e2
    subst e3
    exact z_iret S0 hr hlk hC dX5_letGo_31
  · replace hf := z_pos cd2 hf
    refine lv_iconst (v := (-1)) hx hb dX5_letGo_10 (by decide) ?_
    obtain ⟨e1, e2, e3⟩ := z_s3 hf
    subst e1
    subst e2
    subst e3
    exact z_iret S0 hr hlk hC dX5_letGo_11

-- X5 pedal
def f_X5_pedal (Nzr : Int32) (Nzf : (Nat → Int32)) (Nvr : Int32) (Nvf : (Nat → Int32)) (Nnm : (Nat → Int32)) (Npd : Int32) (Nnt : Int32) (Hhs : zHs) : Option (Int32 × (Nat → Int32) × Int32 × zHs) :=
  (f_X0_record Hhs Nzr Nzf Nvr Nvf Nnm Npd Nnt).bind fun r1 => (f_X2_tread Nvr Nvf Npd).bind fun r2 => some (r2.1, r2.2.1, r2.2.2, r1)

theorem kX5_pedal_25 : Cond.fieldLink RX5 25 "ZoneSampler" "history" "LZoneSampler$History;" ∈ wsX5_pedal := by decide +kernel
theorem kX5_pedal_10 : Cond.fieldLink RX5 10 "ZoneSampler" "now" "LZoneSampler$State;" ∈ wsX5_pedal := by decide +kernel
theorem jX5_pedal_X5 : ∀ w ∈ u_ws RX5 TX5 7, w ∈ wsX5_pedal := by decide +kernel
set_option maxHeartbeats 4000000 in
set_option maxRecDepth 100000 in
theorem c_X5_pedal (l : Launch) (G : va_G) (c3 : zT3) (oZ : Nat) (oN oT oK : zR6) (oH : Nat) (oP oV : zR2) (BZ : Int32) (BN : zSt) (BH : zHs) {r : Int32} {Nvf' : (Nat → Int32)} {Npd' : Int32} {Hhs' : zHs} (hf : f_X5_pedal BN.1.1 BN.1.2 BN.2.1.1 BN.2.1.2 BN.2.2.1 BN.2.2.2.1 BN.2.2.2.2 BH = some (r, Nvf', Npd', Hhs')) : zM l yX5_pedal wsX5_pedal ⟨4, 0, 0, 90⟩ G c3 (zwZ oZ oN oT oK oH oP oV BZ ++ zwS c3.1 oN ((BN.1.1, BN.1.2), (BN.2.1.1, BN.2.1.2), BN.2.2.1, BN.2.2.2.1, BN.2.2.2.2) ++ zwH c3.1 oH BH) [.ref oZ] (some (.int r)) (zwZ oZ oN oT oK oH oP oV BZ ++ zwS c3.1 oN ((BN.1.1, BN.1.2), (BN.2.1.1, Nvf'), BN.2.2.1, Npd', BN.2.2.2.2) ++ zwH c3.1 oH Hhs') := by
  obtain ⟨Zss, rfl⟩ : ∃ y, y = BZ := ⟨_, rfl⟩
  obtain ⟨⟨Nzr, Nzf⟩, ⟨Nvr, Nvf⟩, Nnm, Npd, Nnt⟩ := BN
  obtain ⟨Hhs, rfl⟩ : ∃ y, y = BH := ⟨_, rfl⟩
  have hf : f_X5_pedal Nzr Nzf Nvr Nvf Nnm Npd Nnt Hhs = some (r, Nvf', Npd', Hhs') := hf
  show zM l yX5_pedal wsX5_pedal ⟨4, 0, 0, 90⟩ G c3 (zwZ oZ oN oT oK oH oP oV Zss ++ zwS c3.1 oN ((Nzr, Nzf), (Nvr, Nvf), Nnm, Npd, Nnt) ++ zwH c3.1 oH Hhs) [.ref oZ] (some (.int r)) (zwZ oZ oN oT oK oH oP oV Zss ++ zwS c3.1 oN ((Nzr, Nzf), (Nvr, Nvf'), Nnm, Npd', Nnt) ++ zwH c3.1 oH Hhs')
  refine zM.of (cc := cX5_pedal) (maxL := 1) (ret := (some .int)) (by decide) rfl (Nat.le_of_ble_eq_true rfl) ?_
  intro p e s m args below meth c A ls S0 hr hlk hC hl
  have S0 : CallFix p m c cX5_pedal 1 s args wsX5_pedal RX5 := S0
  have hl : lv_has ls 1 [(0, .ref oZ)] := hl
  have hx := S0.1
  have hb := S0.2.1
  obtain ⟨H, hH⟩ : ∃ y, y = s.heap := ⟨_, rfl⟩
  rw [← hH] at hC ⊢
  obtain ⟨locs, hlo⟩ : ∃ y : List Loc, y = [] := ⟨_, rfl⟩
  rw [← hlo] at hC ⊢
  clear hH hlo
  unfold f_X5_pedal at hf
  refine lv_aload_n hx hb dX5_pedal_0 rfl (lv_at hl 0 rfl) ?_
  refine z_get S0 hC (ci := 5) (C := RX5) (T := TX5) (N := 7) (v := .ref oH) jX5_pedal_X5 0 rfl rfl 3 (by decide) kX5_pedal_25 rfl rfl dX5_pedal_1 ?_
  refine lv_aload_n hx hb dX5_pedal_4 rfl (lv_at hl 0 rfl) ?_
  refine z_get S0 hC (ci := 5) (C := RX5) (T := TX5) (N := 7) (v := .ref oN.1) jX5_pedal_X5 0 rfl rfl 0 (by decide) kX5_pedal_10 rfl rfl dX5_pedal_5 ?_
  obtain ⟨r1, hr1, hf⟩ := z_bind hf
  refine z_callv (z_runV (n := 1) (rest := []) (As := [.ref oN.1]) S0 hC (c_X0_record l G c3 oH Hhs oN ((Nzr, Nzf), (Nvr, Nvf), Nnm, Npd, Nnt) hr1) [7, 8, 9, 10, 11, 12, 13, 14, 15, 16, 17, 18, 19, 20, 21, 22, 23, 24, 25, 26, 27, 28, 29, 30, 31, 1, 2, 3, 4, 5, 6] (by decide) rfl gX5_pedal_X0_record rfl rfl rfl (by decide +kernel) ⟨Nat.le_of_ble_eq_true rfl, Nat.le_of_ble_eq_true rfl⟩ (ci := 0) (q0 := 7) rfl rfl rfl hl.1 rfl (Nat.le_of_ble_eq_true rfl) dX5_pedal_8) hC [7, 8, 9, 10, 11, 12, 13, 14, 15, 16, 17, 18, 19, 20, 21, 22, 23, 24, 25, 26, 27, 28, 29, 30, 31, 1, 2, 3, 4, 5, 6] [0] [0, 26, 27, 28, 29, 30, 31, 1, 2, 3, 4, 5, 6, 7, 8, 9, 10, 11, 12, 13, 14, 15, 16, 17, 18, 19, 20, 21, 22, 23, 24, 25] rfl (wr := (zwZ oZ oN oT oK oH oP oV Zss)) rfl (by decide) (by decide) (ws2 := (zwZ oZ oN oT oK oH oP oV Zss ++ zwS c3.1 oN ((Nzr, Nzf), (Nvr, Nvf), Nnm, Npd, Nnt) ++ zwH c3.1 oH r1)) rfl (by decide) (fun H locs hC => ?_)
  refine lv_aload_n hx hb dX5_pedal_11 rfl (lv_at hl 0 rfl) ?_
  refine z_get S0 hC (ci := 5) (C := RX5) (T := TX5) (N := 7) (v := .ref oN.1) jX5_pedal_X5 0 rfl rfl 0 (by decide) kX5_pedal_10 rfl rfl dX5_pedal_12 ?_
  obtain ⟨r2, hr2, hf⟩ := z_bind hf
  refine z_calli (z_runV (n := 0) (rest := []) (As := []) S0 hC (c_X2_tread l G c3 oN ((Nzr, Nzf), (Nvr, Nvf), Nnm, Npd, Nnt) hr2) [1, 2, 3, 4, 5, 6] (by decide) rfl gX5_pedal_X2_tread rfl rfl rfl (by decide +kernel) ⟨Nat.le_of_ble_eq_true rfl, Nat.le_of_ble_eq_true rfl⟩ (ci := 2) (q0 := 1) rfl rfl rfl hl.1 rfl (Nat.le_of_ble_eq_true rfl) dX5_pedal_15) hC [1, 2, 3, 4, 5, 6] [0, 7, 8, 9, 10, 11, 12, 13, 14, 15, 16, 17, 18, 19, 20, 21, 22, 23, 24, 25, 26, 27, 28, 29, 30, 31] [0, 26, 27, 28, 29, 30, 31, 1, 2, 3, 4, 5, 6, 7, 8, 9, 10, 11, 12, 13, 14, 15, 16, 17, 18, 19, 20, 21, 22, 23, 24, 25] rfl (wr := (zwZ oZ oN oT oK oH oP oV Zss ++ zwH c3.1 oH r1)) rfl (by decide) (by decide) (ws2 := (zwZ oZ oN oT oK oH oP oV Zss ++ zwS c3.1 oN ((Nzr, Nzf), (Nvr, r2.2.1), Nnm, r2.2.2, Nnt) ++ zwH c3.1 oH r1)) rfl (by decide) (fun H locs hC => ?_)
  obtain ⟨e1, e2, e3, e4⟩ := z_s4 hf
  subst e1
  subst e2
  subst e3
  subst e4
  exact z_iret S0 hr hlk hC dX5_pedal_18

-- X5 pass
def f_X5_pass (Nzr : Int32) (Nzf : (Nat → Int32)) (Nvr : Int32) (Nvf : (Nat → Int32)) (Nnm : (Nat → Int32)) (Npd : Int32) (Nnt : Int32) (Hhs : zHs) (p1 : Int32) : Option (Int32 × Int32 × (Nat → Int32) × (Nat → Int32) × zHs) :=
  (f_X5_within p1 1 99).bind fun r1 => if r1 = 0 then
    some ((-1), Nvr, Nvf, Nnm, Hhs)
  else
    (f_X0_record Hhs Nzr Nzf Nvr Nvf Nnm Npd Nnt).bind fun r3 => (f_X2_runTicks Nzr Nzf Nvr Nvf Nnm p1).bind fun r4 => some (r4.1, r4.2.1, r4.2.2.1, r4.2.2.2, r3)

theorem kX5_pass_25 : Cond.fieldLink RX5 25 "ZoneSampler" "history" "LZoneSampler$History;" ∈ wsX5_pass := by decide +kernel
theorem kX5_pass_10 : Cond.fieldLink RX5 10 "ZoneSampler" "now" "LZoneSampler$State;" ∈ wsX5_pass := by decide +kernel
theorem jX5_pass_X5 : ∀ w ∈ u_ws RX5 TX5 7, w ∈ wsX5_pass := by decide +kernel
set_option maxHeartbeats 4000000 in
set_option maxRecDepth 100000 in
theorem c_X5_pass (l : Launch) (G : va_G) (c3 : zT3) (oZ : Nat) (oN oT oK : zR6) (oH : Nat) (oP oV : zR2) (BZ : Int32) (BN : zSt) (BH : zHs) (p1 : Int32) {r : Int32} {Nvr' : Int32} {Nvf' : (Nat → Int32)} {Nnm' : (Nat → Int32)} {Hhs' : zHs} (hf : f_X5_pass BN.1.1 BN.1.2 BN.2.1.1 BN.2.1.2 BN.2.2.1 BN.2.2.2.1 BN.2.2.2.2 BH p1 = some (r, Nvr', Nvf', Nnm', Hhs')) : zM l yX5_pass wsX5_pass ⟨4, 0, 0, 91⟩ G c3 (zwZ oZ oN oT oK oH oP oV BZ ++ zwS c3.1 oN ((BN.1.1, BN.1.2), (BN.2.1.1, BN.2.1.2), BN.2.2.1, BN.2.2.2.1, BN.2.2.2.2) ++ zwH c3.1 oH BH) [.ref oZ, .int p1] (some (.int r)) (zwZ oZ oN oT oK oH oP oV BZ ++ zwS c3.1 oN ((BN.1.1, BN.1.2), (Nvr', Nvf'), Nnm', BN.2.2.2.1, BN.2.2.2.2) ++ zwH c3.1 oH Hhs') := by
  obtain ⟨Zss, rfl⟩ : ∃ y, y = BZ := ⟨_, rfl⟩
  obtain ⟨⟨Nzr, Nzf⟩, ⟨Nvr, Nvf⟩, Nnm, Npd, Nnt⟩ := BN
  obtain ⟨Hhs, rfl⟩ : ∃ y, y = BH := ⟨_, rfl⟩
  have hf : f_X5_pass Nzr Nzf Nvr Nvf Nnm Npd Nnt Hhs p1 = some (r, Nvr', Nvf', Nnm', Hhs') := hf
  show zM l yX5_pass wsX5_pass ⟨4, 0, 0, 91⟩ G c3 (zwZ oZ oN oT oK oH oP oV Zss ++ zwS c3.1 oN ((Nzr, Nzf), (Nvr, Nvf), Nnm, Npd, Nnt) ++ zwH c3.1 oH Hhs) [.ref oZ, .int p1] (some (.int r)) (zwZ oZ oN oT oK oH oP oV Zss ++ zwS c3.1 oN ((Nzr, Nzf), (Nvr', Nvf'), Nnm', Npd, Nnt) ++ zwH c3.1 oH Hhs')
  refine zM.of (cc := cX5_pass) (maxL := 2) (ret := (some .int)) (by decide) rfl (Nat.le_of_ble_eq_true rfl) ?_
  intro p e s m args below meth c A ls S0 hr hlk hC hl
  have S0 : CallFix p m c cX5_pass 2 s args wsX5_pass RX5 := S0
  have hl : lv_has ls 2 [(0, .ref oZ), (1, .int p1)] := hl
  have hx := S0.1
  have hb := S0.2.1
  obtain ⟨H, hH⟩ : ∃ y, y = s.heap := ⟨_, rfl⟩
  rw [← hH] at hC ⊢
  obtain ⟨locs, hlo⟩ : ∃ y : List Loc, y = [] := ⟨_, rfl⟩
  rw [← hlo] at hC ⊢
  clear hH hlo
  unfold f_X5_pass at hf
  refine lv_iload_n hx hb dX5_pass_0 rfl (lv_at hl 1 rfl) ?_
  refine lv_iconst (v := 1) hx hb dX5_pass_1 (by decide) ?_
  refine lv_bipush (v := 99) hx hb dX5_pass_2 (by decide) ?_
  obtain ⟨r1, hr1, hf⟩ := z_bind hf
  refine z_callPi (z_runS (n := 3) (rest := []) (As := [.int p1, .int 1, .int 99]) S0 hC (c_X5_within l G c3 p1 1 99 hr1) [] (by decide) rfl gX5_pass_X5_within rfl rfl rfl (by decide +kernel) ⟨Nat.le_of_ble_eq_true rfl, Nat.le_of_ble_eq_true rfl⟩ rfl hl.1 rfl (Nat.le_of_ble_eq_true rfl) dX5_pass_4) hC [] rfl (fun H locs hC => ?_)
  refine lv_if_ne (tgt := 12) hx hb dX5_pass_7 (by decide) (fun cd2 => ?_) (fun cd2 => ?_)
  · replace hf := z_neg cd2 hf
    refine lv_aload_n hx hb dX5_pass_12 rfl (lv_at hl 0 rfl) ?_
    refine z_get S0 hC (ci := 5) (C := RX5) (T := TX5) (N := 7) (v := .ref oH) jX5_pass_X5 0 rfl rfl 3 (by decide) kX5_pass_25 rfl rfl dX5_pass_13 ?_
    refine lv_aload_n hx hb dX5_pass_16 rfl (lv_at hl 0 rfl) ?_
    refine z_get S0 hC (ci := 5) (C := RX5) (T := TX5) (N := 7) (v := .ref oN.1) jX5_pass_X5 0 rfl rfl 0 (by decide) kX5_pass_10 rfl rfl dX5_pass_17 ?_
    obtain ⟨r3, hr3, hf⟩ := z_bind hf
    refine z_callv (z_runV (n := 1) (rest := []) (As := [.ref oN.1]) S0 hC (c_X0_record l G c3 oH Hhs oN ((Nzr, Nzf), (Nvr, Nvf), Nnm, Npd, Nnt) hr3) [7, 8, 9, 10, 11, 12, 13, 14, 15, 16, 17, 18, 19, 20, 21, 22, 23, 24, 25, 26, 27, 28, 29, 30, 31, 1, 2, 3, 4, 5, 6] (by decide) rfl gX5_pass_X0_record rfl rfl rfl (by decide +kernel) ⟨Nat.le_of_ble_eq_true rfl, Nat.le_of_ble_eq_true rfl⟩ (ci := 0) (q0 := 7) rfl rfl rfl hl.1 rfl (Nat.le_of_ble_eq_true rfl) dX5_pass_20) hC [7, 8, 9, 10, 11, 12, 13, 14, 15, 16, 17, 18, 19, 20, 21, 22, 23, 24, 25, 26, 27, 28, 29, 30, 31, 1, 2, 3, 4, 5, 6] [0] [0, 26, 27, 28, 29, 30, 31, 1, 2, 3, 4, 5, 6, 7, 8, 9, 10, 11, 12, 13, 14, 15, 16, 17, 18, 19, 20, 21, 22, 23, 24, 25] rfl (wr := (zwZ oZ oN oT oK oH oP oV Zss)) rfl (by decide) (by decide) (ws2 := (zwZ oZ oN oT oK oH oP oV Zss ++ zwS c3.1 oN ((Nzr, Nzf), (Nvr, Nvf), Nnm, Npd, Nnt) ++ zwH c3.1 oH r3)) rfl (by decide) (fun H locs hC => ?_)
    refine lv_aload_n hx hb dX5_pass_23 rfl (lv_at hl 0 rfl) ?_
    refine z_get S0 hC (ci := 5) (C := RX5) (T := TX5) (N := 7) (v := .ref oN.1) jX5_pass_X5 0 rfl rfl 0 (by decide) kX5_pass_10 rfl rfl dX5_pass_24 ?_
    refine lv_iload_n hx hb dX5_pass_27 rfl (lv_at hl 1 rfl) ?_
    obtain ⟨r4, hr4, hf⟩ := z_bind hf
    refine z_calli (z_runV (n := 1) (rest := []) (As := [.int p1]) S0 hC (c_X2_runTicks l G c3 oN ((Nzr, Nzf), (Nvr, Nvf), Nnm, Npd, Nnt) p1 hr4) [1, 2, 3, 4, 5, 6] (by decide) rfl gX5_pass_X2_runTicks rfl rfl rfl (by decide +kernel) ⟨Nat.le_of_ble_eq_true rfl, Nat.le_of_ble_eq_true rfl⟩ (ci := 2) (q0 := 1) rfl rfl rfl hl.1 rfl (Nat.le_of_ble_eq_true rfl) dX5_pass_28) hC [1, 2, 3, 4, 5, 6] [0, 7, 8, 9, 10, 11, 12, 13, 14, 15, 16, 17, 18, 19, 20, 21, 22, 23, 24, 25, 26, 27, 28, 29, 30, 31] [0, 26, 27, 28, 29, 30, 31, 1, 2, 3, 4, 5, 6, 7, 8, 9, 10, 11, 12, 13, 14, 15, 16, 17, 18, 19, 20, 21, 22, 23, 24, 25] rfl (wr := (zwZ oZ oN oT oK oH oP oV Zss ++ zwH c3.1 oH r3)) rfl (by decide) (by decide) (ws2 := (zwZ oZ oN oT oK oH oP oV Zss ++ zwS c3.1 oN ((Nzr, Nzf), (r4.2.1, r4.2.2.1), r4.2.2.2, Npd, Nnt) ++ zwH c3.1 oH r3)) rfl (by decide) (fun H locs hC => ?_)
    obtain ⟨e1, e2, e3, e4, e5⟩ := z_s5 hf
    subst e1
    subst e2
    subst e3
    subst e4
    subst e5
    exact z_iret S0 hr hlk hC dX5_pass_31
  · replace hf := z_pos cd2 hf
    refine lv_iconst (v := (-1)) hx hb dX5_pass_10 (by decide) ?_
    obtain ⟨e1, e2, e3, e4, e5⟩ := z_s5 hf
    subst e1
    subst e2
    subst e3
    subst e4
    subst e5
    exact z_iret S0 hr hlk hC dX5_pass_11

-- X5 silence
def f_X5_silence (Nzr : Int32) (Nzf : (Nat → Int32)) (Nvr : Int32) (Nvf : (Nat → Int32)) (Nnm : (Nat → Int32)) (Npd : Int32) (Nnt : Int32) (Hhs : zHs) : Option (Int32 × Int32 × (Nat → Int32) × zHs) :=
  (f_X0_record Hhs Nzr Nzf Nvr Nvf Nnm Npd Nnt).bind fun r1 => (f_X2_stopAll Nvr Nnm).bind fun r2 => some (r2.1, r2.2.1, r2.2.2, r1)

theorem kX5_silence_25 : Cond.fieldLink RX5 25 "ZoneSampler" "history" "LZoneSampler$History;" ∈ wsX5_silence := by decide +kernel
theorem kX5_silence_10 : Cond.fieldLink RX5 10 "ZoneSampler" "now" "LZoneSampler$State;" ∈ wsX5_silence := by decide +kernel
theorem jX5_silence_X5 : ∀ w ∈ u_ws RX5 TX5 7, w ∈ wsX5_silence := by decide +kernel
set_option maxHeartbeats 4000000 in
set_option maxRecDepth 100000 in
theorem c_X5_silence (l : Launch) (G : va_G) (c3 : zT3) (oZ : Nat) (oN oT oK : zR6) (oH : Nat) (oP oV : zR2) (BZ : Int32) (BN : zSt) (BH : zHs) {r : Int32} {Nvr' : Int32} {Nnm' : (Nat → Int32)} {Hhs' : zHs} (hf : f_X5_silence BN.1.1 BN.1.2 BN.2.1.1 BN.2.1.2 BN.2.2.1 BN.2.2.2.1 BN.2.2.2.2 BH = some (r, Nvr', Nnm', Hhs')) : zM l yX5_silence wsX5_silence ⟨4, 0, 0, 90⟩ G c3 (zwZ oZ oN oT oK oH oP oV BZ ++ zwS c3.1 oN ((BN.1.1, BN.1.2), (BN.2.1.1, BN.2.1.2), BN.2.2.1, BN.2.2.2.1, BN.2.2.2.2) ++ zwH c3.1 oH BH) [.ref oZ] (some (.int r)) (zwZ oZ oN oT oK oH oP oV BZ ++ zwS c3.1 oN ((BN.1.1, BN.1.2), (Nvr', BN.2.1.2), Nnm', BN.2.2.2.1, BN.2.2.2.2) ++ zwH c3.1 oH Hhs') := by
  obtain ⟨Zss, rfl⟩ : ∃ y, y = BZ := ⟨_, rfl⟩
  obtain ⟨⟨Nzr, Nzf⟩, ⟨Nvr, Nvf⟩, Nnm, Npd, Nnt⟩ := BN
  obtain ⟨Hhs, rfl⟩ : ∃ y, y = BH := ⟨_, rfl⟩
  have hf : f_X5_silence Nzr Nzf Nvr Nvf Nnm Npd Nnt Hhs = some (r, Nvr', Nnm', Hhs') := hf
  show zM l yX5_silence wsX5_silence ⟨4, 0, 0, 90⟩ G c3 (zwZ oZ oN oT oK oH oP oV Zss ++ zwS c3.1 oN ((Nzr, Nzf), (Nvr, Nvf), Nnm, Npd, Nnt) ++ zwH c3.1 oH Hhs) [.ref oZ] (some (.int r)) (zwZ oZ oN oT oK oH oP oV Zss ++ zwS c3.1 oN ((Nzr, Nzf), (Nvr', Nvf), Nnm', Npd, Nnt) ++ zwH c3.1 oH Hhs')
  refine zM.of (cc := cX5_silence) (maxL := 1) (ret := (some .int)) (by decide) rfl (Nat.le_of_ble_eq_true rfl) ?_
  intro p e s m args below meth c A ls S0 hr hlk hC hl
  have S0 : CallFix p m c cX5_silence 1 s args wsX5_silence RX5 := S0
  have hl : lv_has ls 1 [(0, .ref oZ)] := hl
  have hx := S0.1
  have hb := S0.2.1
  obtain ⟨H, hH⟩ : ∃ y, y = s.heap := ⟨_, rfl⟩
  rw [← hH] at hC ⊢
  obtain ⟨locs, hlo⟩ : ∃ y : List Loc, y = [] := ⟨_, rfl⟩
  rw [← hlo] at hC ⊢
  clear hH hlo
  unfold f_X5_silence at hf
  refine lv_aload_n hx hb dX5_silence_0 rfl (lv_at hl 0 rfl) ?_
  refine z_get S0 hC (ci := 5) (C := RX5) (T := TX5) (N := 7) (v := .ref oH) jX5_silence_X5 0 rfl rfl 3 (by decide) kX5_silence_25 rfl rfl dX5_silence_1 ?_
  refine lv_aload_n hx hb dX5_silence_4 rfl (lv_at hl 0 rfl) ?_
  refine z_get S0 hC (ci := 5) (C := RX5) (T := TX5) (N := 7) (v := .ref oN.1) jX5_silence_X5 0 rfl rfl 0 (by decide) kX5_silence_10 rfl rfl dX5_silence_5 ?_
  obtain ⟨r1, hr1, hf⟩ := z_bind hf
  refine z_callv (z_runV (n := 1) (rest := []) (As := [.ref oN.1]) S0 hC (c_X0_record l G c3 oH Hhs oN ((Nzr, Nzf), (Nvr, Nvf), Nnm, Npd, Nnt) hr1) [7, 8, 9, 10, 11, 12, 13, 14, 15, 16, 17, 18, 19, 20, 21, 22, 23, 24, 25, 26, 27, 28, 29, 30, 31, 1, 2, 3, 4, 5, 6] (by decide) rfl gX5_silence_X0_record rfl rfl rfl (by decide +kernel) ⟨Nat.le_of_ble_eq_true rfl, Nat.le_of_ble_eq_true rfl⟩ (ci := 0) (q0 := 7) rfl rfl rfl hl.1 rfl (Nat.le_of_ble_eq_true rfl) dX5_silence_8) hC [7, 8, 9, 10, 11, 12, 13, 14, 15, 16, 17, 18, 19, 20, 21, 22, 23, 24, 25, 26, 27, 28, 29, 30, 31, 1, 2, 3, 4, 5, 6] [0] [0, 26, 27, 28, 29, 30, 31, 1, 2, 3, 4, 5, 6, 7, 8, 9, 10, 11, 12, 13, 14, 15, 16, 17, 18, 19, 20, 21, 22, 23, 24, 25] rfl (wr := (zwZ oZ oN oT oK oH oP oV Zss)) rfl (by decide) (by decide) (ws2 := (zwZ oZ oN oT oK oH oP oV Zss ++ zwS c3.1 oN ((Nzr, Nzf), (Nvr, Nvf), Nnm, Npd, Nnt) ++ zwH c3.1 oH r1)) rfl (by decide) (fun H locs hC => ?_)
  refine lv_aload_n hx hb dX5_silence_11 rfl (lv_at hl 0 rfl) ?_
  refine z_get S0 hC (ci := 5) (C := RX5) (T := TX5) (N := 7) (v := .ref oN.1) jX5_silence_X5 0 rfl rfl 0 (by decide) kX5_silence_10 rfl rfl dX5_silence_12 ?_
  obtain ⟨r2, hr2, hf⟩ := z_bind hf
  refine z_calli (z_runV (n := 0) (rest := []) (As := []) S0 hC (c_X2_stopAll l G c3 oN ((Nzr, Nzf), (Nvr, Nvf), Nnm, Npd, Nnt) hr2) [1, 2, 3, 4, 5, 6] (by decide) rfl gX5_silence_X2_stopAll rfl rfl rfl (by decide +kernel) ⟨Nat.le_of_ble_eq_true rfl, Nat.le_of_ble_eq_true rfl⟩ (ci := 2) (q0 := 1) rfl rfl rfl hl.1 rfl (Nat.le_of_ble_eq_true rfl) dX5_silence_15) hC [1, 2, 3, 4, 5, 6] [0, 7, 8, 9, 10, 11, 12, 13, 14, 15, 16, 17, 18, 19, 20, 21, 22, 23, 24, 25, 26, 27, 28, 29, 30, 31] [0, 26, 27, 28, 29, 30, 31, 1, 2, 3, 4, 5, 6, 7, 8, 9, 10, 11, 12, 13, 14, 15, 16, 17, 18, 19, 20, 21, 22, 23, 24, 25] rfl (wr := (zwZ oZ oN oT oK oH oP oV Zss ++ zwH c3.1 oH r1)) rfl (by decide) (by decide) (ws2 := (zwZ oZ oN oT oK oH oP oV Zss ++ zwS c3.1 oN ((Nzr, Nzf), (r2.2.1, Nvf), r2.2.2, Npd, Nnt) ++ zwH c3.1 oH r1)) rfl (by decide) (fun H locs hC => ?_)
  obtain ⟨e1, e2, e3, e4⟩ := z_s4 hf
  subst e1
  subst e2
  subst e3
  subst e4
  exact z_iret S0 hr hlk hC dX5_silence_18

-- X5 set
def f_X5_set (Nzr : Int32) (Nzf : (Nat → Int32)) (Nvr : Int32) (Nvf : (Nat → Int32)) (Nnm : (Nat → Int32)) (Npd : Int32) (Nnt : Int32) (Hhs : zHs) (p1 : Int32) (p2 : Int32) : Option (Int32 × Int32 × (Nat → Int32) × (Nat → Int32) × zHs) :=
  (f_X5_isSetting p1 p2).bind fun r1 => if r1 = 0 then
    some ((-1), Nvr, Nvf, Nnm, Hhs)
  else
    (f_X0_record Hhs Nzr Nzf Nvr Nvf Nnm Npd Nnt).bind fun r3 => (f_X2_number Nnm (6 + p1)).bind fun r4 => (f_X2_putNumber Nnm (6 + p1) p2).bind fun r5 => Option.bind (α := Int32 × (Nat → Int32) × (Nat → Int32)) (
      if p1 = 0 then
        (f_X2_stealDownTo Nvr Nvf r5 p2).bind fun r8 => some (r8.1, r8.2.1, r8.2.2)
      else
        some (Nvr, Nvf, r5)
    ) fun t7 =>
      some (r4, t7.1, t7.2.1, t7.2.2, r3)

theorem kX5_set_25 : Cond.fieldLink RX5 25 "ZoneSampler" "history" "LZoneSampler$History;" ∈ wsX5_set := by decide +kernel
theorem kX5_set_10 : Cond.fieldLink RX5 10 "ZoneSampler" "now" "LZoneSampler$State;" ∈ wsX5_set := by decide +kernel
theorem jX5_set_X5 : ∀ w ∈ u_ws RX5 TX5 7, w ∈ wsX5_set := by decide +kernel
set_option maxHeartbeats 4000000 in
set_option maxRecDepth 100000 in
theorem c_X5_set (l : Launch) (G : va_G) (c3 : zT3) (oZ : Nat) (oN oT oK : zR6) (oH : Nat) (oP oV : zR2) (BZ : Int32) (BN : zSt) (BH : zHs) (p1 : Int32) (p2 : Int32) {r : Int32} {Nvr' : Int32} {Nvf' : (Nat → Int32)} {Nnm' : (Nat → Int32)} {Hhs' : zHs} (hf : f_X5_set BN.1.1 BN.1.2 BN.2.1.1 BN.2.1.2 BN.2.2.1 BN.2.2.2.1 BN.2.2.2.2 BH p1 p2 = some (r, Nvr', Nvf', Nnm', Hhs')) : zM l yX5_set wsX5_set ⟨4, 0, 0, 90⟩ G c3 (zwZ oZ oN oT oK oH oP oV BZ ++ zwS c3.1 oN ((BN.1.1, BN.1.2), (BN.2.1.1, BN.2.1.2), BN.2.2.1, BN.2.2.2.1, BN.2.2.2.2) ++ zwH c3.1 oH BH) [.ref oZ, .int p1, .int p2] (some (.int r)) (zwZ oZ oN oT oK oH oP oV BZ ++ zwS c3.1 oN ((BN.1.1, BN.1.2), (Nvr', Nvf'), Nnm', BN.2.2.2.1, BN.2.2.2.2) ++ zwH c3.1 oH Hhs') := by
  obtain ⟨Zss, rfl⟩ : ∃ y, y = BZ := ⟨_, rfl⟩
  obtain ⟨⟨Nzr, Nzf⟩, ⟨Nvr, Nvf⟩, Nnm, Npd, Nnt⟩ := BN
  obtain ⟨Hhs, rfl⟩ : ∃ y, y = BH := ⟨_, rfl⟩
  have hf : f_X5_set Nzr Nzf Nvr Nvf Nnm Npd Nnt Hhs p1 p2 = some (r, Nvr', Nvf', Nnm', Hhs') := hf
  show zM l yX5_set wsX5_set ⟨4, 0, 0, 90⟩ G c3 (zwZ oZ oN oT oK oH oP oV Zss ++ zwS c3.1 oN ((Nzr, Nzf), (Nvr, Nvf), Nnm, Npd, Nnt) ++ zwH c3.1 oH Hhs) [.ref oZ, .int p1, .int p2] (some (.int r)) (zwZ oZ oN oT oK oH oP oV Zss ++ zwS c3.1 oN ((Nzr, Nzf), (Nvr', Nvf'), Nnm', Npd, Nnt) ++ zwH c3.1 oH Hhs')
  refine zM.of (cc := cX5_set) (maxL := 4) (ret := (some .int)) (by decide) rfl (Nat.le_of_ble_eq_true rfl) ?_
  intro p e s m args below meth c A ls S0 hr hlk hC hl
  have S0 : CallFix p m c cX5_set 4 s args wsX5_set RX5 := S0
  have hl : lv_has ls 4 [(0, .ref oZ), (1, .int p1), (2, .int p2)] := hl
  have hx := S0.1
  have hb := S0.2.1
  obtain ⟨H, hH⟩ : ∃ y, y = s.heap := ⟨_, rfl⟩
  rw [← hH] at hC ⊢
  obtain ⟨locs, hlo⟩ : ∃ y : List Loc, y = [] := ⟨_, rfl⟩
  rw [← hlo] at hC ⊢
  clear hH hlo
  unfold f_X5_set at hf
  refine lv_iload_n hx hb dX5_set_0 rfl (lv_at hl 1 rfl) ?_
  refine lv_iload_n hx hb dX5_set_1 rfl (lv_at hl 2 rfl) ?_
  obtain ⟨r1, hr1, hf⟩ := z_bind hf
  refine z_callPi (z_runS (n := 2) (rest := []) (As := [.int p1, .int p2]) S0 hC (c_X5_isSetting l G c3 p1 p2 hr1) [] (by decide) rfl gX5_set_X5_isSetting rfl rfl rfl (by decide +kernel) ⟨Nat.le_of_ble_eq_true rfl, Nat.le_of_ble_eq_true rfl⟩ rfl hl.1 rfl (Nat.le_of_ble_eq_true rfl) dX5_set_2) hC [] rfl (fun H locs hC => ?_)
  refine lv_if_ne (tgt := 10) hx hb dX5_set_5 (by decide) (fun cd2 => ?_) (fun cd2 => ?_)
  · replace hf := z_neg cd2 hf
    refine lv_aload_n hx hb dX5_set_10 rfl (lv_at hl 0 rfl) ?_
    refine z_get S0 hC (ci := 5) (C := RX5) (T := TX5) (N := 7) (v := .ref oH) jX5_set_X5 0 rfl rfl 3 (by decide) kX5_set_25 rfl rfl dX5_set_11 ?_
    refine lv_aload_n hx hb dX5_set_14 rfl (lv_at hl 0 rfl) ?_
    refine z_get S0 hC (ci := 5) (C := RX5) (T := TX5) (N := 7) (v := .ref oN.1) jX5_set_X5 0 rfl rfl 0 (by decide) kX5_set_10 rfl rfl dX5_set_15 ?_
    obtain ⟨r3, hr3, hf⟩ := z_bind hf
    refine z_callv (z_runV (n := 1) (rest := []) (As := [.ref oN.1]) S0 hC (c_X0_record l G c3 oH Hhs oN ((Nzr, Nzf), (Nvr, Nvf), Nnm, Npd, Nnt) hr3) [7, 8, 9, 10, 11, 12, 13, 14, 15, 16, 17, 18, 19, 20, 21, 22, 23, 24, 25, 26, 27, 28, 29, 30, 31, 1, 2, 3, 4, 5, 6] (by decide) rfl gX5_set_X0_record rfl rfl rfl (by decide +kernel) ⟨Nat.le_of_ble_eq_true rfl, Nat.le_of_ble_eq_true rfl⟩ (ci := 0) (q0 := 7) rfl rfl rfl hl.1 rfl (Nat.le_of_ble_eq_true rfl) dX5_set_18) hC [7, 8, 9, 10, 11, 12, 13, 14, 15, 16, 17, 18, 19, 20, 21, 22, 23, 24, 25, 26, 27, 28, 29, 30, 31, 1, 2, 3, 4, 5, 6] [0] [0, 26, 27, 28, 29, 30, 31, 1, 2, 3, 4, 5, 6, 7, 8, 9, 10, 11, 12, 13, 14, 15, 16, 17, 18, 19, 20, 21, 22, 23, 24, 25] rfl (wr := (zwZ oZ oN oT oK oH oP oV Zss)) rfl (by decide) (by decide) (ws2 := (zwZ oZ oN oT oK oH oP oV Zss ++ zwS c3.1 oN ((Nzr, Nzf), (Nvr, Nvf), Nnm, Npd, Nnt) ++ zwH c3.1 oH r3)) rfl (by decide) (fun H locs hC => ?_)
    refine lv_aload_n hx hb dX5_set_21 rfl (lv_at hl 0 rfl) ?_
    refine z_get S0 hC (ci := 5) (C := RX5) (T := TX5) (N := 7) (v := .ref oN.1) jX5_set_X5 0 rfl rfl 0 (by decide) kX5_set_10 rfl rfl dX5_set_22 ?_
    refine lv_bipush (v := 6) hx hb dX5_set_25 (by decide) ?_
    refine lv_iload_n hx hb dX5_set_27 rfl (lv_at hl 1 rfl) ?_
    refine lv_iadd hx hb dX5_set_28 ?_
    obtain ⟨r4, hr4, hf⟩ := z_bind hf
    refine z_callPi (z_runV (n := 1) (rest := []) (As := [.int (6 + p1)]) S0 hC (c_X2_number l G c3 oN ((Nzr, Nzf), (Nvr, Nvf), Nnm, Npd, Nnt) (6 + p1) hr4) [1, 2, 3, 4, 5, 6] (by decide) rfl gX5_set_X2_number rfl rfl rfl (by decide +kernel) ⟨Nat.le_of_ble_eq_true rfl, Nat.le_of_ble_eq_true rfl⟩ (ci := 2) (q0 := 1) rfl rfl rfl hl.1 rfl (Nat.le_of_ble_eq_true rfl) dX5_set_29) hC [1, 2, 3, 4, 5, 6] rfl (fun H locs hC => ?_)
    refine lv_istore_n (lv' := [(3, .int r4), (0, .ref oZ), (1, .int p1), (2, .int p2)]) hx hb dX5_set_32 rfl hl (by decide) rfl (fun ls hl => ?_)
    refine lv_aload_n hx hb dX5_set_33 rfl (lv_at hl 1 rfl) ?_
    refine z_get S0 hC (ci := 5) (C := RX5) (T := TX5) (N := 7) (v := .ref oN.1) jX5_set_X5 0 rfl rfl 0 (by decide) kX5_set_10 rfl rfl dX5_set_34 ?_
    refine lv_bipush (v := 6) hx hb dX5_set_37 (by decide) ?_
    refine lv_iload_n hx hb dX5_set_39 rfl (lv_at hl 2 rfl) ?_
    refine lv_iadd hx hb dX5_set_40 ?_
    refine lv_iload_n hx hb dX5_set_41 rfl (lv_at hl 3 rfl) ?_
    obtain ⟨r5, hr5, hf⟩ := z_bind hf
    refine z_callv (z_runV (n := 2) (rest := []) (As := [.int (6 + p1), .int p2]) S0 hC (c_X2_putNumber l G c3 oN ((Nzr, Nzf), (Nvr, Nvf), Nnm, Npd, Nnt) (6 + p1) p2 hr5) [1, 2, 3, 4, 5, 6] (by decide) rfl gX5_set_X2_putNumber rfl rfl rfl (by decide +kernel) ⟨Nat.le_of_ble_eq_true rfl, Nat.le_of_ble_eq_true rfl⟩ (ci := 2) (q0 := 1) rfl rfl rfl hl.1 rfl (Nat.le_of_ble_eq_true rfl) dX5_set_42) hC [1, 2, 3, 4, 5, 6] [0, 7, 8, 9, 10, 11, 12, 13, 14, 15, 16, 17, 18, 19, 20, 21, 22, 23, 24, 25, 26, 27, 28, 29, 30, 31] [0, 26, 27, 28, 29, 30, 31, 1, 2, 3, 4, 5, 6, 7, 8, 9, 10, 11, 12, 13, 14, 15, 16, 17, 18, 19, 20, 21, 22, 23, 24, 25] rfl (wr := (zwZ oZ oN oT oK oH oP oV Zss ++ zwH c3.1 oH r3)) rfl (by decide) (by decide) (ws2 := (zwZ oZ oN oT oK oH oP oV Zss ++ zwS c3.1 oN ((Nzr, Nzf), (Nvr, Nvf), r5, Npd, Nnt) ++ zwH c3.1 oH r3)) rfl (by decide) (fun H locs hC => ?_)
    refine lv_iload_n hx hb dX5_set_45 rfl (lv_at hl 2 rfl) ?_
    obtain ⟨t7, ht7, hf⟩ := z_bind hf
    have Jt7 : ∀ (H : Heap) (locs : List Loc) (ls : Array Slot), zC G c3 A s (zwZ oZ oN oT oK oH oP oV Zss ++ zwS c3.1 oN ((Nzr, Nzf), (t7.1, t7.2.1), t7.2.2, Npd, Nnt) ++ zwH c3.1 oH r3) H locs → lv_has ls 4 [(0, .ref oZ), (1, .int p1), (2, .int p2), (3, .int r4)] → W p l e ⟨4, 0, 0, 90⟩ s m args below meth c H locs 0 0 (MQ below (zPost G (zwZ oZ oN oT oK oH oP oV Zss ++ zwS c3.1 oN ((Nzr, Nzf), (Nvr', Nvf'), Nnm', Npd, Nnt) ++ zwH c3.1 oH Hhs') (some (.int r)) A) args s 0 0 A) (F0 m 57 ls []) := by
      intro H locs ls hC hl
      refine lv_iload_n hx hb dX5_set_57 rfl (lv_at hl 3 rfl) ?_
      obtain ⟨e1, e2, e3, e4, e5⟩ := z_s5 hf
      subst e1
      subst e2
      subst e3
      subst e4
      subst e5
      exact z_iret S0 hr hlk hC dX5_set_58
    refine lv_if_ne (tgt := 57) hx hb dX5_set_46 (by decide) (fun cd6 => ?_) (fun cd6 => ?_)
    · replace ht7 := z_neg cd6 ht7
      have e1 := z_s1 ht7
      subst e1
      exact Jt7 H locs ls hC (lv_sub hl [1, 2, 3, 0] rfl)
    · replace ht7 := z_pos cd6 ht7
      refine lv_aload_n hx hb dX5_set_49 rfl (lv_at hl 1 rfl) ?_
      refine z_get S0 hC (ci := 5) (C := RX5) (T := TX5) (N := 7) (v := .ref oN.1) jX5_set_X5 0 rfl rfl 0 (by decide) kX5_set_10 rfl rfl dX5_set_50 ?_
      refine lv_iload_n hx hb dX5_set_53 rfl (lv_at hl 3 rfl) ?_
      obtain ⟨r8, hr8, ht7⟩ := z_bind ht7
      refine z_callv (z_runV (n := 1) (rest := []) (As := [.int p2]) S0 hC (c_X2_stealDownTo l G c3 oN ((Nzr, Nzf), (Nvr, Nvf), r5, Npd, Nnt) p2 hr8) [1, 2, 3, 4, 5, 6] (by decide) rfl gX5_set_X2_stealDownTo rfl rfl rfl (by decide +kernel) ⟨Nat.le_of_ble_eq_true rfl, Nat.le_of_ble_eq_true rfl⟩ (ci := 2) (q0 := 1) rfl rfl rfl hl.1 rfl (Nat.le_of_ble_eq_true rfl) dX5_set_54) hC [1, 2, 3, 4, 5, 6] [0, 7, 8, 9, 10, 11, 12, 13, 14, 15, 16, 17, 18, 19, 20, 21, 22, 23, 24, 25, 26, 27, 28, 29, 30, 31] [0, 26, 27, 28, 29, 30, 31, 1, 2, 3, 4, 5, 6, 7, 8, 9, 10, 11, 12, 13, 14, 15, 16, 17, 18, 19, 20, 21, 22, 23, 24, 25] rfl (wr := (zwZ oZ oN oT oK oH oP oV Zss ++ zwH c3.1 oH r3)) rfl (by decide) (by decide) (ws2 := (zwZ oZ oN oT oK oH oP oV Zss ++ zwS c3.1 oN ((Nzr, Nzf), (r8.1, r8.2.1), r8.2.2, Npd, Nnt) ++ zwH c3.1 oH r3)) rfl (by decide) (fun H locs hC => ?_)
      have e1 := z_s1 ht7
      subst e1
      exact Jt7 H locs ls hC (lv_sub hl [1, 2, 3, 0] rfl)
  · replace hf := z_pos cd2 hf
    refine lv_iconst (v := (-1)) hx hb dX5_set_8 (by decide) ?_
    obtain ⟨e1, e2, e3, e4, e5⟩ := z_s5 hf
    subst e1
    subst e2
    subst e3
    subst e4
    subst e5
    exact z_iret S0 hr hlk hC dX5_set_9

-- X5 append
def f_X5_append (Psg : (Nat → Int32)) (Pln : Int32) (p1 : Int32) : Option (Int32 × (Nat → Int32) × Int32) :=
  (f_X5_within p1 33 126).bind fun r1 => if r1 = 0 then
    some ((-1), Psg, Pln)
  else
    (f_X1_length Pln).bind fun r3 => if r3 < 60 then
      (zchar p1).bind fun _ => (f_X1_add Psg Pln p1).bind fun r6 => (f_X1_length r6.2).bind fun r7 => some (r7, r6.1, r6.2)
    else
      some ((-3), Psg, Pln)

theorem kX5_append_32 : Cond.fieldLink RX5 32 "ZoneSampler" "pad" "LZoneSampler$Pad;" ∈ wsX5_append := by decide +kernel
theorem jX5_append_X5 : ∀ w ∈ u_ws RX5 TX5 7, w ∈ wsX5_append := by decide +kernel
set_option maxHeartbeats 4000000 in
set_option maxRecDepth 100000 in
theorem c_X5_append (l : Launch) (G : va_G) (c3 : zT3) (oZ : Nat) (oN oT oK : zR6) (oH : Nat) (oP oV : zR2) (BZ : Int32) (BP : zPd) (p1 : Int32) {r : Int32} {Psg' : (Nat → Int32)} {Pln' : Int32} (hf : f_X5_append BP.1 BP.2.1 p1 = some (r, Psg', Pln')) : zM l yX5_append wsX5_append ⟨1, 0, 0, 22⟩ G c3 (zwZ oZ oN oT oK oH oP oV BZ ++ zwP c3.2.1 oP (BP.1, BP.2.1, BP.2.2.1, BP.2.2.2.1, BP.2.2.2.2.1, BP.2.2.2.2.2.1, BP.2.2.2.2.2.2.1, BP.2.2.2.2.2.2.2.1, BP.2.2.2.2.2.2.2.2.1, BP.2.2.2.2.2.2.2.2.2.1, BP.2.2.2.2.2.2.2.2.2.2.1, BP.2.2.2.2.2.2.2.2.2.2.2.1, BP.2.2.2.2.2.2.2.2.2.2.2.2.1, BP.2.2.2.2.2.2.2.2.2.2.2.2.2)) [.ref oZ, .int p1] (some (.int r)) (zwZ oZ oN oT oK oH oP oV BZ ++ zwP c3.2.1 oP (Psg', Pln', BP.2.2.1, BP.2.2.2.1, BP.2.2.2.2.1, BP.2.2.2.2.2.1, BP.2.2.2.2.2.2.1, BP.2.2.2.2.2.2.2.1, BP.2.2.2.2.2.2.2.2.1, BP.2.2.2.2.2.2.2.2.2.1, BP.2.2.2.2.2.2.2.2.2.2.1, BP.2.2.2.2.2.2.2.2.2.2.2.1, BP.2.2.2.2.2.2.2.2.2.2.2.2.1, BP.2.2.2.2.2.2.2.2.2.2.2.2.2)) := by
  obtain ⟨Zss, rfl⟩ : ∃ y, y = BZ := ⟨_, rfl⟩
  obtain ⟨Psg, Pln, Pat, Pvl, Plo, Phi, Pso, Pha, Pla, Pgr, Pro, Pde, Pdk, Pam⟩ := BP
  have hf : f_X5_append Psg Pln p1 = some (r, Psg', Pln') := hf
  show zM l yX5_append wsX5_append ⟨1, 0, 0, 22⟩ G c3 (zwZ oZ oN oT oK oH oP oV Zss ++ zwP c3.2.1 oP (Psg, Pln, Pat, Pvl, Plo, Phi, Pso, Pha, Pla, Pgr, Pro, Pde, Pdk, Pam)) [.ref oZ, .int p1] (some (.int r)) (zwZ oZ oN oT oK oH oP oV Zss ++ zwP c3.2.1 oP (Psg', Pln', Pat, Pvl, Plo, Phi, Pso, Pha, Pla, Pgr, Pro, Pde, Pdk, Pam))
  refine zM.of (cc := cX5_append) (maxL := 2) (ret := (some .int)) (by decide) rfl (Nat.le_of_ble_eq_true rfl) ?_
  intro p e s m args below meth c A ls S0 hr hlk hC hl
  have S0 : CallFix p m c cX5_append 2 s args wsX5_append RX5 := S0
  have hl : lv_has ls 2 [(0, .ref oZ), (1, .int p1)] := hl
  have hx := S0.1
  have hb := S0.2.1
  obtain ⟨H, hH⟩ : ∃ y, y = s.heap := ⟨_, rfl⟩
  rw [← hH] at hC ⊢
  obtain ⟨locs, hlo⟩ : ∃ y : List Loc, y = [] := ⟨_, rfl⟩
  rw [← hlo] at hC ⊢
  clear hH hlo
  unfold f_X5_append at hf
  refine lv_iload_n hx hb dX5_append_0 rfl (lv_at hl 1 rfl) ?_
  refine lv_bipush (v := 33) hx hb dX5_append_1 (by decide) ?_
  refine lv_bipush (v := 126) hx hb dX5_append_3 (by decide) ?_
  obtain ⟨r1, hr1, hf⟩ := z_bind hf
  refine z_callPi (z_runS (n := 3) (rest := []) (As := [.int p1, .int 33, .int 126]) S0 hC (c_X5_within l G c3 p1 33 126 hr1) [] (by decide) rfl gX5_append_X5_within rfl rfl rfl (by decide +kernel) ⟨Nat.le_of_ble_eq_true rfl, Nat.le_of_ble_eq_true rfl⟩ rfl hl.1 rfl (Nat.le_of_ble_eq_true rfl) dX5_append_5) hC [] rfl (fun H locs hC => ?_)
  refine lv_if_ne (tgt := 13) hx hb dX5_append_8 (by decide) (fun cd2 => ?_) (fun cd2 => ?_)
  · replace hf := z_neg cd2 hf
    refine lv_aload_n hx hb dX5_append_13 rfl (lv_at hl 0 rfl) ?_
    refine z_get S0 hC (ci := 5) (C := RX5) (T := TX5) (N := 7) (v := .ref oP.1) jX5_append_X5 0 rfl rfl 4 (by decide) kX5_append_32 rfl rfl dX5_append_14 ?_
    obtain ⟨r3, hr3, hf⟩ := z_bind hf
    refine z_callPi (z_runV (n := 0) (rest := []) (As := []) S0 hC (c_X1_length l G c3 oP (Psg, Pln, Pat, Pvl, Plo, Phi, Pso, Pha, Pla, Pgr, Pro, Pde, Pdk, Pam) hr3) [1, 2] (by decide) rfl gX5_append_X1_length rfl rfl rfl (by decide +kernel) ⟨Nat.le_of_ble_eq_true rfl, Nat.le_of_ble_eq_true rfl⟩ (ci := 1) (q0 := 1) rfl rfl rfl hl.1 rfl (Nat.le_of_ble_eq_true rfl) dX5_append_17) hC [1, 2] rfl (fun H locs hC => ?_)
    refine lv_bipush (v := 60) hx hb dX5_append_20 (by decide) ?_
    refine lv_icmp_lt (tgt := 28) hx hb dX5_append_22 (by decide) (fun cd4 => ?_) (fun cd4 => ?_)
    · replace hf := z_pos cd4 hf
      refine lv_aload_n hx hb dX5_append_28 rfl (lv_at hl 0 rfl) ?_
      refine z_get S0 hC (ci := 5) (C := RX5) (T := TX5) (N := 7) (v := .ref oP.1) jX5_append_X5 0 rfl rfl 4 (by decide) kX5_append_32 rfl rfl dX5_append_29 ?_
      refine lv_iload_n hx hb dX5_append_32 rfl (lv_at hl 1 rfl) ?_
      obtain ⟨w5, hw5, hf⟩ := z_bind hf
      refine lv_i2c (v := p1) hx hb dX5_append_33 (zchar_i2c hw5) ?_
      obtain ⟨r6, hr6, hf⟩ := z_bind hf
      refine z_callv (z_runV (n := 1) (rest := []) (As := [.int p1]) S0 hC (c_X1_add l G c3 oP (Psg, Pln, Pat, Pvl, Plo, Phi, Pso, Pha, Pla, Pgr, Pro, Pde, Pdk, Pam) p1 hr6) [1, 2] (by decide) rfl gX5_append_X1_add rfl rfl rfl (by decide +kernel) ⟨Nat.le_of_ble_eq_true rfl, Nat.le_of_ble_eq_true rfl⟩ (ci := 1) (q0 := 1) rfl rfl rfl hl.1 rfl (Nat.le_of_ble_eq_true rfl) dX5_append_34) hC [1, 2] [0] [0, 1, 2] rfl (wr := (zwZ oZ oN oT oK oH oP oV Zss)) rfl (by decide) (by decide) (ws2 := (zwZ oZ oN oT oK oH oP oV Zss ++ zwP c3.2.1 oP (r6.1, r6.2, Pat, Pvl, Plo, Phi, Pso, Pha, Pla, Pgr, Pro, Pde, Pdk, Pam))) rfl (by decide) (fun H locs hC => ?_)
      refine lv_aload_n hx hb dX5_append_37 rfl (lv_at hl 0 rfl) ?_
      refine z_get S0 hC (ci := 5) (C := RX5) (T := TX5) (N := 7) (v := .ref oP.1) jX5_append_X5 0 rfl rfl 4 (by decide) kX5_append_32 rfl rfl dX5_append_38 ?_
      obtain ⟨r7, hr7, hf⟩ := z_bind hf
      refine z_callPi (z_runV (n := 0) (rest := []) (As := []) S0 hC (c_X1_length l G c3 oP (r6.1, r6.2, Pat, Pvl, Plo, Phi, Pso, Pha, Pla, Pgr, Pro, Pde, Pdk, Pam) hr7) [1, 2] (by decide) rfl gX5_append_X1_length rfl rfl rfl (by decide +kernel) ⟨Nat.le_of_ble_eq_true rfl, Nat.le_of_ble_eq_true rfl⟩ (ci := 1) (q0 := 1) rfl rfl rfl hl.1 rfl (Nat.le_of_ble_eq_true rfl) dX5_append_41) hC [1, 2] rfl (fun H locs hC => ?_)
      obtain ⟨e1, e2, e3⟩ := z_s3 hf
      subst e1
      subst e2
      subst e3
      exact z_iret S0 hr hlk hC dX5_append_44
    · replace hf := z_neg cd4 hf
      refine lv_bipush (v := (-3)) hx hb dX5_append_25 (by decide) ?_
      obtain ⟨e1, e2, e3⟩ := z_s3 hf
      subst e1
      subst e2
      subst e3
      exact z_iret S0 hr hlk hC dX5_append_27
  · replace hf := z_pos cd2 hf
    refine lv_iconst (v := (-1)) hx hb dX5_append_11 (by decide) ?_
    obtain ⟨e1, e2, e3⟩ := z_s3 hf
    subst e1
    subst e2
    subst e3
    exact z_iret S0 hr hlk hC dX5_append_12

-- X5 clear
def f_X5_clear (Pln : Int32) : Option (Int32 × Int32) :=
  (f_X1_length Pln).bind fun r1 => (f_X1_empty Pln).bind fun r2 => some (r1, r2)

theorem kX5_clear_32 : Cond.fieldLink RX5 32 "ZoneSampler" "pad" "LZoneSampler$Pad;" ∈ wsX5_clear := by decide +kernel
theorem jX5_clear_X5 : ∀ w ∈ u_ws RX5 TX5 7, w ∈ wsX5_clear := by decide +kernel
set_option maxHeartbeats 4000000 in
set_option maxRecDepth 100000 in
theorem c_X5_clear (l : Launch) (G : va_G) (c3 : zT3) (oZ : Nat) (oN oT oK : zR6) (oH : Nat) (oP oV : zR2) (BZ : Int32) (BP : zPd) {r : Int32} {Pln' : Int32} (hf : f_X5_clear BP.2.1 = some (r, Pln')) : zM l yX5_clear wsX5_clear ⟨1, 0, 0, 20⟩ G c3 (zwZ oZ oN oT oK oH oP oV BZ ++ zwP c3.2.1 oP (BP.1, BP.2.1, BP.2.2.1, BP.2.2.2.1, BP.2.2.2.2.1, BP.2.2.2.2.2.1, BP.2.2.2.2.2.2.1, BP.2.2.2.2.2.2.2.1, BP.2.2.2.2.2.2.2.2.1, BP.2.2.2.2.2.2.2.2.2.1, BP.2.2.2.2.2.2.2.2.2.2.1, BP.2.2.2.2.2.2.2.2.2.2.2.1, BP.2.2.2.2.2.2.2.2.2.2.2.2.1, BP.2.2.2.2.2.2.2.2.2.2.2.2.2)) [.ref oZ] (some (.int r)) (zwZ oZ oN oT oK oH oP oV BZ ++ zwP c3.2.1 oP (BP.1, Pln', BP.2.2.1, BP.2.2.2.1, BP.2.2.2.2.1, BP.2.2.2.2.2.1, BP.2.2.2.2.2.2.1, BP.2.2.2.2.2.2.2.1, BP.2.2.2.2.2.2.2.2.1, BP.2.2.2.2.2.2.2.2.2.1, BP.2.2.2.2.2.2.2.2.2.2.1, BP.2.2.2.2.2.2.2.2.2.2.2.1, BP.2.2.2.2.2.2.2.2.2.2.2.2.1, BP.2.2.2.2.2.2.2.2.2.2.2.2.2)) := by
  obtain ⟨Zss, rfl⟩ : ∃ y, y = BZ := ⟨_, rfl⟩
  obtain ⟨Psg, Pln, Pat, Pvl, Plo, Phi, Pso, Pha, Pla, Pgr, Pro, Pde, Pdk, Pam⟩ := BP
  have hf : f_X5_clear Pln = some (r, Pln') := hf
  show zM l yX5_clear wsX5_clear ⟨1, 0, 0, 20⟩ G c3 (zwZ oZ oN oT oK oH oP oV Zss ++ zwP c3.2.1 oP (Psg, Pln, Pat, Pvl, Plo, Phi, Pso, Pha, Pla, Pgr, Pro, Pde, Pdk, Pam)) [.ref oZ] (some (.int r)) (zwZ oZ oN oT oK oH oP oV Zss ++ zwP c3.2.1 oP (Psg, Pln', Pat, Pvl, Plo, Phi, Pso, Pha, Pla, Pgr, Pro, Pde, Pdk, Pam))
  refine zM.of (cc := cX5_clear) (maxL := 2) (ret := (some .int)) (by decide) rfl (Nat.le_of_ble_eq_true rfl) ?_
  intro p e s m args below meth c A ls S0 hr hlk hC hl
  have S0 : CallFix p m c cX5_clear 2 s args wsX5_clear RX5 := S0
  have hl : lv_has ls 2 [(0, .ref oZ)] := hl
  have hx := S0.1
  have hb := S0.2.1
  obtain ⟨H, hH⟩ : ∃ y, y = s.heap := ⟨_, rfl⟩
  rw [← hH] at hC ⊢
  obtain ⟨locs, hlo⟩ : ∃ y : List Loc, y = [] := ⟨_, rfl⟩
  rw [← hlo] at hC ⊢
  clear hH hlo
  unfold f_X5_clear at hf
  refine lv_aload_n hx hb dX5_clear_0 rfl (lv_at hl 0 rfl) ?_
  refine z_get S0 hC (ci := 5) (C := RX5) (T := TX5) (N := 7) (v := .ref oP.1) jX5_clear_X5 0 rfl rfl 4 (by decide) kX5_clear_32 rfl rfl dX5_clear_1 ?_
  obtain ⟨r1, hr1, hf⟩ := z_bind hf
  refine z_callPi (z_runV (n := 0) (rest := []) (As := []) S0 hC (c_X1_length l G c3 oP (Psg, Pln, Pat, Pvl, Plo, Phi, Pso, Pha, Pla, Pgr, Pro, Pde, Pdk, Pam) hr1) [1, 2] (by decide) rfl gX5_clear_X1_length rfl rfl rfl (by decide +kernel) ⟨Nat.le_of_ble_eq_true rfl, Nat.le_of_ble_eq_true rfl⟩ (ci := 1) (q0 := 1) rfl rfl rfl hl.1 rfl (Nat.le_of_ble_eq_true rfl) dX5_clear_4) hC [1, 2] rfl (fun H locs hC => ?_)
  refine lv_istore_n (lv' := [(1, .int r1), (0, .ref oZ)]) hx hb dX5_clear_7 rfl hl (by decide) rfl (fun ls hl => ?_)
  refine lv_aload_n hx hb dX5_clear_8 rfl (lv_at hl 1 rfl) ?_
  refine z_get S0 hC (ci := 5) (C := RX5) (T := TX5) (N := 7) (v := .ref oP.1) jX5_clear_X5 0 rfl rfl 4 (by decide) kX5_clear_32 rfl rfl dX5_clear_9 ?_
  obtain ⟨r2, hr2, hf⟩ := z_bind hf
  refine z_callv (z_runV (n := 0) (rest := []) (As := []) S0 hC (c_X1_empty l G c3 oP (Psg, Pln, Pat, Pvl, Plo, Phi, Pso, Pha, Pla, Pgr, Pro, Pde, Pdk, Pam) hr2) [1, 2] (by decide) rfl gX5_clear_X1_empty rfl rfl rfl (by decide +kernel) ⟨Nat.le_of_ble_eq_true rfl, Nat.le_of_ble_eq_true rfl⟩ (ci := 1) (q0 := 1) rfl rfl rfl hl.1 rfl (Nat.le_of_ble_eq_true rfl) dX5_clear_12) hC [1, 2] [0] [0, 1, 2] rfl (wr := (zwZ oZ oN oT oK oH oP oV Zss)) rfl (by decide) (by decide) (ws2 := (zwZ oZ oN oT oK oH oP oV Zss ++ zwP c3.2.1 oP (Psg, r2, Pat, Pvl, Plo, Phi, Pso, Pha, Pla, Pgr, Pro, Pde, Pdk, Pam))) rfl (by decide) (fun H locs hC => ?_)
  refine lv_iload_n hx hb dX5_clear_15 rfl (lv_at hl 0 rfl) ?_
  obtain ⟨e1, e2⟩ := z_s2 hf
  subst e1
  subst e2
  exact z_iret S0 hr hlk hC dX5_clear_16

-- X5 fault
def f_X5_fault (Psg : (Nat → Int32)) (Pln : Int32) (Pat : Int32) (Pvl : Int32) (Plo : Int32) (Phi : Int32) (Pso : Int32) (Pha : Int32) (Pla : Int32) (Pgr : Int32) (Pro : Int32) (Pde : Int32) (Pdk : Int32) (Pam : Int32) (p1 : Int32) : Option (Int32 × Int32 × Int32 × Int32 × Int32 × Int32 × Int32 × Int32 × Int32 × Int32 × Int32 × Int32 × Int32) :=
  (f_X5_within p1 0 1).bind fun r1 => if r1 = 0 then
    some ((-1), Pat, Pvl, Plo, Phi, Pso, Pha, Pla, Pgr, Pro, Pde, Pdk, Pam)
  else
    (f_X1_faultAs Psg Pln Pat Pvl Plo Phi Pso Pha Pla Pgr Pro Pde Pdk Pam p1).bind fun r3 => some (r3.1, r3.2.1, r3.2.2.1, r3.2.2.2.1, r3.2.2.2.2.1, r3.2.2.2.2.2.1, r3.2.2.2.2.2.2.1, r3.2.2.2.2.2.2.2.1, r3.2.2.2.2.2.2.2.2.1, r3.2.2.2.2.2.2.2.2.2.1, r3.2.2.2.2.2.2.2.2.2.2.1, r3.2.2.2.2.2.2.2.2.2.2.2.1, r3.2.2.2.2.2.2.2.2.2.2.2.2)

theorem kX5_fault_32 : Cond.fieldLink RX5 32 "ZoneSampler" "pad" "LZoneSampler$Pad;" ∈ wsX5_fault := by decide +kernel
theorem jX5_fault_X5 : ∀ w ∈ u_ws RX5 TX5 7, w ∈ wsX5_fault := by decide +kernel
set_option maxHeartbeats 4000000 in
set_option maxRecDepth 100000 in
theorem c_X5_fault (l : Launch) (G : va_G) (c3 : zT3) (oZ : Nat) (oN oT oK : zR6) (oH : Nat) (oP oV : zR2) (BZ : Int32) (BP : zPd) (p1 : Int32) {r : Int32} {Pat' : Int32} {Pvl' : Int32} {Plo' : Int32} {Phi' : Int32} {Pso' : Int32} {Pha' : Int32} {Pla' : Int32} {Pgr' : Int32} {Pro' : Int32} {Pde' : Int32} {Pdk' : Int32} {Pam' : Int32} (hf : f_X5_fault BP.1 BP.2.1 BP.2.2.1 BP.2.2.2.1 BP.2.2.2.2.1 BP.2.2.2.2.2.1 BP.2.2.2.2.2.2.1 BP.2.2.2.2.2.2.2.1 BP.2.2.2.2.2.2.2.2.1 BP.2.2.2.2.2.2.2.2.2.1 BP.2.2.2.2.2.2.2.2.2.2.1 BP.2.2.2.2.2.2.2.2.2.2.2.1 BP.2.2.2.2.2.2.2.2.2.2.2.2.1 BP.2.2.2.2.2.2.2.2.2.2.2.2.2 p1 = some (r, Pat', Pvl', Plo', Phi', Pso', Pha', Pla', Pgr', Pro', Pde', Pdk', Pam')) : zM l yX5_fault wsX5_fault ⟨5, 0, 0, 118⟩ G c3 (zwZ oZ oN oT oK oH oP oV BZ ++ zwP c3.2.1 oP (BP.1, BP.2.1, BP.2.2.1, BP.2.2.2.1, BP.2.2.2.2.1, BP.2.2.2.2.2.1, BP.2.2.2.2.2.2.1, BP.2.2.2.2.2.2.2.1, BP.2.2.2.2.2.2.2.2.1, BP.2.2.2.2.2.2.2.2.2.1, BP.2.2.2.2.2.2.2.2.2.2.1, BP.2.2.2.2.2.2.2.2.2.2.2.1, BP.2.2.2.2.2.2.2.2.2.2.2.2.1, BP.2.2.2.2.2.2.2.2.2.2.2.2.2)) [.ref oZ, .int p1] (some (.int r)) (zwZ oZ oN oT oK oH oP oV BZ ++ zwP c3.2.1 oP (BP.1, BP.2.1, Pat', Pvl', Plo', Phi', Pso', Pha', Pla', Pgr', Pro', Pde', Pdk', Pam')) := by
  obtain ⟨Zss, rfl⟩ : ∃ y, y = BZ := ⟨_, rfl⟩
  obtain ⟨Psg, Pln, Pat, Pvl, Plo, Phi, Pso, Pha, Pla, Pgr, Pro, Pde, Pdk, Pam⟩ := BP
  have hf : f_X5_fault Psg Pln Pat Pvl Plo Phi Pso Pha Pla Pgr Pro Pde Pdk Pam p1 = some (r, Pat', Pvl', Plo', Phi', Pso', Pha', Pla', Pgr', Pro', Pde', Pdk', Pam') := hf
  show zM l yX5_fault wsX5_fault ⟨5, 0, 0, 118⟩ G c3 (zwZ oZ oN oT oK oH oP oV Zss ++ zwP c3.2.1 oP (Psg, Pln, Pat, Pvl, Plo, Phi, Pso, Pha, Pla, Pgr, Pro, Pde, Pdk, Pam)) [.ref oZ, .int p1] (some (.int r)) (zwZ oZ oN oT oK oH oP oV Zss ++ zwP c3.2.1 oP (Psg, Pln, Pat', Pvl', Plo', Phi', Pso', Pha', Pla', Pgr', Pro', Pde', Pdk', Pam'))
  refine zM.of (cc := cX5_fault) (maxL := 2) (ret := (some .int)) (by decide) rfl (Nat.le_of_ble_eq_true rfl) ?_
  intro p e s m args below meth c A ls S0 hr hlk hC hl
  have S0 : CallFix p m c cX5_fault 2 s args wsX5_fault RX5 := S0
  have hl : lv_has ls 2 [(0, .ref oZ), (1, .int p1)] := hl
  have hx := S0.1
  have hb := S0.2.1
  obtain ⟨H, hH⟩ : ∃ y, y = s.heap := ⟨_, rfl⟩
  rw [← hH] at hC ⊢
  obtain ⟨locs, hlo⟩ : ∃ y : List Loc, y = [] := ⟨_, rfl⟩
  rw [← hlo] at hC ⊢
  clear hH hlo
  unfold f_X5_fault at hf
  refine lv_iload_n hx hb dX5_fault_0 rfl (lv_at hl 1 rfl) ?_
  refine lv_iconst (v := 0) hx hb dX5_fault_1 (by decide) ?_
  refine lv_iconst (v := 1) hx hb dX5_fault_2 (by decide) ?_
  obtain ⟨r1, hr1, hf⟩ := z_bind hf
  refine z_callPi (z_runS (n := 3) (rest := []) (As := [.int p1, .int 0, .int 1]) S0 hC (c_X5_within l G c3 p1 0 1 hr1) [] (by decide) rfl gX5_fault_X5_within rfl rfl rfl (by decide +kernel) ⟨Nat.le_of_ble_eq_true rfl, Nat.le_of_ble_eq_true rfl⟩ rfl hl.1 rfl (Nat.le_of_ble_eq_true rfl) dX5_fault_3) hC [] rfl (fun H locs hC => ?_)
  refine lv_if_ne (tgt := 11) hx hb dX5_fault_6 (by decide) (fun cd2 => ?_) (fun cd2 => ?_)
  · replace hf := z_neg cd2 hf
    refine lv_aload_n hx hb dX5_fault_11 rfl (lv_at hl 0 rfl) ?_
    refine z_get S0 hC (ci := 5) (C := RX5) (T := TX5) (N := 7) (v := .ref oP.1) jX5_fault_X5 0 rfl rfl 4 (by decide) kX5_fault_32 rfl rfl dX5_fault_12 ?_
    refine lv_iload_n hx hb dX5_fault_15 rfl (lv_at hl 1 rfl) ?_
    obtain ⟨r3, hr3, hf⟩ := z_bind hf
    refine z_calli (z_runV (n := 1) (rest := []) (As := [.int p1]) S0 hC (c_X1_faultAs l G c3 oP (Psg, Pln, Pat, Pvl, Plo, Phi, Pso, Pha, Pla, Pgr, Pro, Pde, Pdk, Pam) p1 hr3) [1, 2] (by decide) rfl gX5_fault_X1_faultAs rfl rfl rfl (by decide +kernel) ⟨Nat.le_of_ble_eq_true rfl, Nat.le_of_ble_eq_true rfl⟩ (ci := 1) (q0 := 1) rfl rfl rfl hl.1 rfl (Nat.le_of_ble_eq_true rfl) dX5_fault_16) hC [1, 2] [0] [0, 1, 2] rfl (wr := (zwZ oZ oN oT oK oH oP oV Zss)) rfl (by decide) (by decide) (ws2 := (zwZ oZ oN oT oK oH oP oV Zss ++ zwP c3.2.1 oP (Psg, Pln, r3.2.1, r3.2.2.1, r3.2.2.2.1, r3.2.2.2.2.1, r3.2.2.2.2.2.1, r3.2.2.2.2.2.2.1, r3.2.2.2.2.2.2.2.1, r3.2.2.2.2.2.2.2.2.1, r3.2.2.2.2.2.2.2.2.2.1, r3.2.2.2.2.2.2.2.2.2.2.1, r3.2.2.2.2.2.2.2.2.2.2.2.1, r3.2.2.2.2.2.2.2.2.2.2.2.2))) rfl (by decide) (fun H locs hC => ?_)
    obtain ⟨e1, e2, e3, e4, e5, e6, e7, e8, e9, e10, e11, e12, e13⟩ := z_s13 hf
    subst e1
    subst e2
    subst e3
    subst e4
    subst e5
    subst e6
    subst e7
    subst e8
    subst e9
    subst e10
    subst e11
    subst e12
    subst e13
    exact z_iret S0 hr hlk hC dX5_fault_19
  · replace hf := z_pos cd2 hf
    refine lv_iconst (v := (-1)) hx hb dX5_fault_9 (by decide) ?_
    obtain ⟨e1, e2, e3, e4, e5, e6, e7, e8, e9, e10, e11, e12, e13⟩ := z_s13 hf
    subst e1
    subst e2
    subst e3
    subst e4
    subst e5
    subst e6
    subst e7
    subst e8
    subst e9
    subst e10
    subst e11
    subst e12
    subst e13
    exact z_iret S0 hr hlk hC dX5_fault_10

-- X5 load
def f_X5_load_64 (y1 : Int32) (Psg : (Nat → Int32)) (Pln : Int32) : Nat → Int32 → Int32 → (Nat → Int32) → Int32 → Int32 → Int32 → Int32 → Int32 → Int32 → Int32 → Int32 → Int32 → Option (Int32 × Int32 × (Nat → Int32) × Int32 × Int32 × Int32 × Int32 × Int32 × Int32 × Int32 × Int32 × Int32)
  | 0, _, _, _, _, _, _, _, _, _, _, _, _ => none
  | fu + 1, y2, Nzr, Nzf, Pat, Pvl, Plo, Phi, Pso, Pha, Pla, Pgr, Pro =>
    if y1 ≤ y2 then
      some (y2, Nzr, Nzf, Pat, Pvl, Plo, Phi, Pso, Pha, Pla, Pgr, Pro)
    else
      (f_X1_readZone Psg Pln Pat Pvl Plo Phi Pso Pha Pla Pgr Pro).bind fun r10 => Option.bind (α := Int32 × (Nat → Int32)) (
        if r10.1 = 0 then
          some (Nzr, Nzf)
        else
          (f_X2_addZone Nzr Nzf r10.2.2.2.1 r10.2.2.2.2.1 r10.2.2.2.2.2.1 r10.2.2.2.2.2.2.1).bind fun r14 => (f_X2_shapeZone r14.2.1 r14.2.2 r14.1 r10.2.2.2.2.2.2.2.2.1 r10.2.2.2.2.2.2.2.2.2 r10.2.2.2.2.2.2.2.1).bind fun r15 => some (r14.2.1, r15)
      ) fun t12 =>
        (f_X1_readSign Psg Pln r10.2.1 59).bind fun r13 => f_X5_load_64 y1 Psg Pln fu (y2 + 1) t12.1 t12.2 r13.2 r10.2.2.1 r10.2.2.2.1 r10.2.2.2.2.1 r10.2.2.2.2.2.1 r10.2.2.2.2.2.2.1 r10.2.2.2.2.2.2.2.1 r10.2.2.2.2.2.2.2.2.1 r10.2.2.2.2.2.2.2.2.2

theorem f_X5_load_64_s (y1 : Int32) (Psg : (Nat → Int32)) (Pln : Int32) (y2 : Int32) (Nzr : Int32) (Nzf : (Nat → Int32)) (Pat : Int32) (Pvl : Int32) (Plo : Int32) (Phi : Int32) (Pso : Int32) (Pha : Int32) (Pla : Int32) (Pgr : Int32) (Pro : Int32) (fu : Nat) : f_X5_load_64 y1 Psg Pln (fu + 1) y2 Nzr Nzf Pat Pvl Plo Phi Pso Pha Pla Pgr Pro = (
    if y1 ≤ y2 then
      some (y2, Nzr, Nzf, Pat, Pvl, Plo, Phi, Pso, Pha, Pla, Pgr, Pro)
    else
      (f_X1_readZone Psg Pln Pat Pvl Plo Phi Pso Pha Pla Pgr Pro).bind fun r10 => Option.bind (α := Int32 × (Nat → Int32)) (
        if r10.1 = 0 then
          some (Nzr, Nzf)
        else
          (f_X2_addZone Nzr Nzf r10.2.2.2.1 r10.2.2.2.2.1 r10.2.2.2.2.2.1 r10.2.2.2.2.2.2.1).bind fun r14 => (f_X2_shapeZone r14.2.1 r14.2.2 r14.1 r10.2.2.2.2.2.2.2.2.1 r10.2.2.2.2.2.2.2.2.2 r10.2.2.2.2.2.2.2.1).bind fun r15 => some (r14.2.1, r15)
      ) fun t12 =>
        (f_X1_readSign Psg Pln r10.2.1 59).bind fun r13 => f_X5_load_64 y1 Psg Pln fu (y2 + 1) t12.1 t12.2 r13.2 r10.2.2.1 r10.2.2.2.1 r10.2.2.2.2.1 r10.2.2.2.2.2.1 r10.2.2.2.2.2.2.1 r10.2.2.2.2.2.2.2.1 r10.2.2.2.2.2.2.2.2.1 r10.2.2.2.2.2.2.2.2.2
    ) := rfl

def f_X5_load (Nzr : Int32) (Nzf : (Nat → Int32)) (Nvr : Int32) (Nvf : (Nat → Int32)) (Nnm : (Nat → Int32)) (Npd : Int32) (Nnt : Int32) (Hhs : zHs) (Psg : (Nat → Int32)) (Pln : Int32) (Pat : Int32) (Pvl : Int32) (Plo : Int32) (Phi : Int32) (Pso : Int32) (Pha : Int32) (Pla : Int32) (Pgr : Int32) (Pro : Int32) (Pde : Int32) (Pdk : Int32) (Pam : Int32) : Option (Int32 × Int32 × (Nat → Int32) × zHs × Int32 × Int32 × Int32 × Int32 × Int32 × Int32 × Int32 × Int32 × Int32 × Int32 × Int32 × Int32 × Int32) :=
  (f_X1_faultAs Psg Pln Pat Pvl Plo Phi Pso Pha Pla Pgr Pro Pde Pdk Pam 0).bind fun r1 => if r1.1 = (-4) then
    (f_X1_items Psg Pln).bind fun r3 => (f_X4_rows 70 Nzr).bind fun r4 => if (r4 + r3) ≤ 10 then
      (f_X0_record Hhs Nzr Nzf Nvr Nvf Nnm Npd Nnt).bind fun r6 => (f_X1_rewind r1.2.1).bind fun r7 => (f_X5_load_64 r3 Psg Pln zF 0 Nzr Nzf r7 r1.2.2.1 r1.2.2.2.1 r1.2.2.2.2.1 r1.2.2.2.2.2.1 r1.2.2.2.2.2.2.1 r1.2.2.2.2.2.2.2.1 r1.2.2.2.2.2.2.2.2.1 r1.2.2.2.2.2.2.2.2.2.1).bind fun t16 =>
        (f_X1_empty Pln).bind fun r17 => (f_X4_rows 70 t16.2.1).bind fun r18 => some (r18, t16.2.1, t16.2.2.1, r6, r17, t16.2.2.2.1, t16.2.2.2.2.1, t16.2.2.2.2.2.1, t16.2.2.2.2.2.2.1, t16.2.2.2.2.2.2.2.1, t16.2.2.2.2.2.2.2.2.1, t16.2.2.2.2.2.2.2.2.2.1, t16.2.2.2.2.2.2.2.2.2.2.1, t16.2.2.2.2.2.2.2.2.2.2.2, r1.2.2.2.2.2.2.2.2.2.2.1, r1.2.2.2.2.2.2.2.2.2.2.2.1, r1.2.2.2.2.2.2.2.2.2.2.2.2)
    else
      some ((-3), Nzr, Nzf, Hhs, Pln, r1.2.1, r1.2.2.1, r1.2.2.2.1, r1.2.2.2.2.1, r1.2.2.2.2.2.1, r1.2.2.2.2.2.2.1, r1.2.2.2.2.2.2.2.1, r1.2.2.2.2.2.2.2.2.1, r1.2.2.2.2.2.2.2.2.2.1, r1.2.2.2.2.2.2.2.2.2.2.1, r1.2.2.2.2.2.2.2.2.2.2.2.1, r1.2.2.2.2.2.2.2.2.2.2.2.2)
  else
    some ((-2), Nzr, Nzf, Hhs, Pln, r1.2.1, r1.2.2.1, r1.2.2.2.1, r1.2.2.2.2.1, r1.2.2.2.2.2.1, r1.2.2.2.2.2.2.1, r1.2.2.2.2.2.2.2.1, r1.2.2.2.2.2.2.2.2.1, r1.2.2.2.2.2.2.2.2.2.1, r1.2.2.2.2.2.2.2.2.2.2.1, r1.2.2.2.2.2.2.2.2.2.2.2.1, r1.2.2.2.2.2.2.2.2.2.2.2.2)

theorem kX5_load_32 : Cond.fieldLink RX5 32 "ZoneSampler" "pad" "LZoneSampler$Pad;" ∈ wsX5_load := by decide +kernel
theorem kX5_load_10 : Cond.fieldLink RX5 10 "ZoneSampler" "now" "LZoneSampler$State;" ∈ wsX5_load := by decide +kernel
theorem kX5_load_25 : Cond.fieldLink RX5 25 "ZoneSampler" "history" "LZoneSampler$History;" ∈ wsX5_load := by decide +kernel
theorem jX5_load_X1 : ∀ w ∈ u_ws RX1 TX1 14, w ∈ wsX5_load := by decide +kernel
theorem jX5_load_X2 : ∀ w ∈ u_ws RX2 TX2 5, w ∈ wsX5_load := by decide +kernel
theorem jX5_load_X5 : ∀ w ∈ u_ws RX5 TX5 7, w ∈ wsX5_load := by decide +kernel
set_option maxHeartbeats 4000000 in
set_option maxRecDepth 100000 in
theorem c_X5_load (l : Launch) (G : va_G) (c3 : zT3) (oZ : Nat) (oN oT oK : zR6) (oH : Nat) (oP oV : zR2) (BZ : Int32) (BN : zSt) (BH : zHs) (BP : zPd) {r : Int32} {Nzr' : Int32} {Nzf' : (Nat → Int32)} {Hhs' : zHs} {Pln' : Int32} {Pat' : Int32} {Pvl' : Int32} {Plo' : Int32} {Phi' : Int32} {Pso' : Int32} {Pha' : Int32} {Pla' : Int32} {Pgr' : Int32} {Pro' : Int32} {Pde' : Int32} {Pdk' : Int32} {Pam' : Int32} (hf : f_X5_load BN.1.1 BN.1.2 BN.2.1.1 BN.2.1.2 BN.2.2.1 BN.2.2.2.1 BN.2.2.2.2 BH BP.1 BP.2.1 BP.2.2.1 BP.2.2.2.1 BP.2.2.2.2.1 BP.2.2.2.2.2.1 BP.2.2.2.2.2.2.1 BP.2.2.2.2.2.2.2.1 BP.2.2.2.2.2.2.2.2.1 BP.2.2.2.2.2.2.2.2.2.1 BP.2.2.2.2.2.2.2.2.2.2.1 BP.2.2.2.2.2.2.2.2.2.2.2.1 BP.2.2.2.2.2.2.2.2.2.2.2.2.1 BP.2.2.2.2.2.2.2.2.2.2.2.2.2 = some (r, Nzr', Nzf', Hhs', Pln', Pat', Pvl', Plo', Phi', Pso', Pha', Pla', Pgr', Pro', Pde', Pdk', Pam')) : zM l yX5_load wsX5_load ⟨5, 0, 0, 118⟩ G c3 (zwZ oZ oN oT oK oH oP oV BZ ++ zwS c3.1 oN ((BN.1.1, BN.1.2), (BN.2.1.1, BN.2.1.2), BN.2.2.1, BN.2.2.2.1, BN.2.2.2.2) ++ zwH c3.1 oH BH ++ zwP c3.2.1 oP (BP.1, BP.2.1, BP.2.2.1, BP.2.2.2.1, BP.2.2.2.2.1, BP.2.2.2.2.2.1, BP.2.2.2.2.2.2.1, BP.2.2.2.2.2.2.2.1, BP.2.2.2.2.2.2.2.2.1, BP.2.2.2.2.2.2.2.2.2.1, BP.2.2.2.2.2.2.2.2.2.2.1, BP.2.2.2.2.2.2.2.2.2.2.2.1, BP.2.2.2.2.2.2.2.2.2.2.2.2.1, BP.2.2.2.2.2.2.2.2.2.2.2.2.2)) [.ref oZ] (some (.int r)) (zwZ oZ oN oT oK oH oP oV BZ ++ zwS c3.1 oN ((Nzr', Nzf'), (BN.2.1.1, BN.2.1.2), BN.2.2.1, BN.2.2.2.1, BN.2.2.2.2) ++ zwH c3.1 oH Hhs' ++ zwP c3.2.1 oP (BP.1, Pln', Pat', Pvl', Plo', Phi', Pso', Pha', Pla', Pgr', Pro', Pde', Pdk', Pam')) := by
  obtain ⟨Zss, rfl⟩ : ∃ y, y = BZ := ⟨_, rfl⟩
  obtain ⟨⟨Nzr, Nzf⟩, ⟨Nvr, Nvf⟩, Nnm, Npd, Nnt⟩ := BN
  obtain ⟨Hhs, rfl⟩ : ∃ y, y = BH := ⟨_, rfl⟩
  obtain ⟨Psg, Pln, Pat, Pvl, Plo, Phi, Pso, Pha, Pla, Pgr, Pro, Pde, Pdk, Pam⟩ := BP
  have hf : f_X5_load Nzr Nzf Nvr Nvf Nnm Npd Nnt Hhs Psg Pln Pat Pvl Plo Phi Pso Pha Pla Pgr Pro Pde Pdk Pam = some (r, Nzr', Nzf', Hhs', Pln', Pat', Pvl', Plo', Phi', Pso', Pha', Pla', Pgr', Pro', Pde', Pdk', Pam') := hf
  show zM l yX5_load wsX5_load ⟨5, 0, 0, 118⟩ G c3 (zwZ oZ oN oT oK oH oP oV Zss ++ zwS c3.1 oN ((Nzr, Nzf), (Nvr, Nvf), Nnm, Npd, Nnt) ++ zwH c3.1 oH Hhs ++ zwP c3.2.1 oP (Psg, Pln, Pat, Pvl, Plo, Phi, Pso, Pha, Pla, Pgr, Pro, Pde, Pdk, Pam)) [.ref oZ] (some (.int r)) (zwZ oZ oN oT oK oH oP oV Zss ++ zwS c3.1 oN ((Nzr', Nzf'), (Nvr, Nvf), Nnm, Npd, Nnt) ++ zwH c3.1 oH Hhs' ++ zwP c3.2.1 oP (Psg, Pln', Pat', Pvl', Plo', Phi', Pso', Pha', Pla', Pgr', Pro', Pde', Pdk', Pam'))
  refine zM.of (cc := cX5_load) (maxL := 4) (ret := (some .int)) (by decide) rfl (Nat.le_of_ble_eq_true rfl) ?_
  intro p e s m args below meth c A ls S0 hr hlk hC hl
  have S0 : CallFix p m c cX5_load 4 s args wsX5_load RX5 := S0
  have hl : lv_has ls 4 [(0, .ref oZ)] := hl
  have hx := S0.1
  have hb := S0.2.1
  obtain ⟨H, hH⟩ : ∃ y, y = s.heap := ⟨_, rfl⟩
  rw [← hH] at hC ⊢
  obtain ⟨locs, hlo⟩ : ∃ y : List Loc, y = [] := ⟨_, rfl⟩
  rw [← hlo] at hC ⊢
  clear hH hlo
  unfold f_X5_load at hf
  refine lv_aload_n hx hb dX5_load_0 rfl (lv_at hl 0 rfl) ?_
  refine z_get S0 hC (ci := 5) (C := RX5) (T := TX5) (N := 7) (v := .ref oP.1) jX5_load_X5 0 rfl rfl 4 (by decide) kX5_load_32 rfl rfl dX5_load_1 ?_
  refine lv_iconst (v := 0) hx hb dX5_load_4 (by decide) ?_
  obtain ⟨r1, hr1, hf⟩ := z_bind hf
  refine z_calli (z_runV (n := 1) (rest := []) (As := [.int 0]) S0 hC (c_X1_faultAs l G c3 oP (Psg, Pln, Pat, Pvl, Plo, Phi, Pso, Pha, Pla, Pgr, Pro, Pde, Pdk, Pam) 0 hr1) [32, 33] (by decide) rfl gX5_load_X1_faultAs rfl rfl rfl (by decide +kernel) ⟨Nat.le_of_ble_eq_true rfl, Nat.le_of_ble_eq_true rfl⟩ (ci := 1) (q0 := 32) rfl rfl rfl hl.1 rfl (Nat.le_of_ble_eq_true rfl) dX5_load_5) hC [32, 33] [0, 1, 2, 3, 4, 5, 6, 7, 8, 9, 10, 11, 12, 13, 14, 15, 16, 17, 18, 19, 20, 21, 22, 23, 24, 25, 26, 27, 28, 29, 30, 31] [0, 1, 2, 3, 4, 5, 6, 7, 8, 9, 10, 11, 12, 13, 14, 15, 16, 17, 18, 19, 20, 21, 22, 23, 24, 25, 26, 27, 28, 29, 30, 31, 32, 33] rfl (wr := (zwZ oZ oN oT oK oH oP oV Zss ++ zwS c3.1 oN ((Nzr, Nzf), (Nvr, Nvf), Nnm, Npd, Nnt) ++ zwH c3.1 oH Hhs)) rfl (by decide) (by decide) (ws2 := (zwZ oZ oN oT oK oH oP oV Zss ++ zwS c3.1 oN ((Nzr, Nzf), (Nvr, Nvf), Nnm, Npd, Nnt) ++ zwH c3.1 oH Hhs ++ zwP c3.2.1 oP (Psg, Pln, r1.2.1, r1.2.2.1, r1.2.2.2.1, r1.2.2.2.2.1, r1.2.2.2.2.2.1, r1.2.2.2.2.2.2.1, r1.2.2.2.2.2.2.2.1, r1.2.2.2.2.2.2.2.2.1, r1.2.2.2.2.2.2.2.2.2.1, r1.2.2.2.2.2.2.2.2.2.2.1, r1.2.2.2.2.2.2.2.2.2.2.2.1, r1.2.2.2.2.2.2.2.2.2.2.2.2))) rfl (by decide) (fun H locs hC => ?_)
  refine lv_bipush (v := (-4)) hx hb dX5_load_8 (by decide) ?_
  refine lv_icmp_eq (tgt := 16) hx hb dX5_load_10 (by decide) (fun cd2 => ?_) (fun cd2 => ?_)
  · replace hf := z_pos cd2 hf
    refine lv_aload_n hx hb dX5_load_16 rfl (lv_at hl 0 rfl) ?_
    refine z_get S0 hC (ci := 5) (C := RX5) (T := TX5) (N := 7) (v := .ref oP.1) jX5_load_X5 0 rfl rfl 4 (by decide) kX5_load_32 rfl rfl dX5_load_17 ?_
    obtain ⟨r3, hr3, hf⟩ := z_bind hf
    refine z_callPi (z_runV (n := 0) (rest := []) (As := []) S0 hC (c_X1_items l G c3 oP (Psg, Pln, r1.2.1, r1.2.2.1, r1.2.2.2.1, r1.2.2.2.2.1, r1.2.2.2.2.2.1, r1.2.2.2.2.2.2.1, r1.2.2.2.2.2.2.2.1, r1.2.2.2.2.2.2.2.2.1, r1.2.2.2.2.2.2.2.2.2.1, r1.2.2.2.2.2.2.2.2.2.2.1, r1.2.2.2.2.2.2.2.2.2.2.2.1, r1.2.2.2.2.2.2.2.2.2.2.2.2) hr3) [32, 33] (by decide) rfl gX5_load_X1_items rfl rfl rfl (by decide +kernel) ⟨Nat.le_of_ble_eq_true rfl, Nat.le_of_ble_eq_true rfl⟩ (ci := 1) (q0 := 32) rfl rfl rfl hl.1 rfl (Nat.le_of_ble_eq_true rfl) dX5_load_20) hC [32, 33] rfl (fun H locs hC => ?_)
    refine lv_istore_n (lv' := [(1, .int r3), (0, .ref oZ)]) hx hb dX5_load_23 rfl hl (by decide) rfl (fun ls hl => ?_)
    refine lv_aload_n hx hb dX5_load_24 rfl (lv_at hl 1 rfl) ?_
    refine z_get S0 hC (ci := 5) (C := RX5) (T := TX5) (N := 7) (v := .ref oN.1) jX5_load_X5 0 rfl rfl 0 (by decide) kX5_load_10 rfl rfl dX5_load_25 ?_
    refine z_getN S0 hC (host := "ZoneSampler") (ci := 2) (C := RX2) (T := TX2) (N := 5) (v := .ref oN.2.2.1.1) jX5_load_X2 1 rfl rfl 0 (by decide) (by decide +kernel : Cond.fieldLinkNest RX5 47 "ZoneSampler$State" "zones" "LZoneSampler$Table;" "ZoneSampler" ∈ zNW) rfl rfl dX5_load_28 ?_
    obtain ⟨r4, hr4, hf⟩ := z_bind hf
    refine z_callPi (z_runV (n := 0) (rest := []) (As := []) S0 hC (c_X4_rows l G c3 oN.2.2.1 70 (Nzr, Nzf) hr4) [3, 4] (by decide) rfl gX5_load_X4_rows rfl rfl rfl (by decide +kernel) ⟨Nat.le_of_ble_eq_true rfl, Nat.le_of_ble_eq_true rfl⟩ (ci := 4) (q0 := 3) rfl rfl rfl hl.1 rfl (Nat.le_of_ble_eq_true rfl) dX5_load_31) hC [3, 4] rfl (fun H locs hC => ?_)
    refine lv_iload_n hx hb dX5_load_34 rfl (lv_at hl 0 rfl) ?_
    refine lv_iadd hx hb dX5_load_35 ?_
    refine lv_bipush (v := 10) hx hb dX5_load_36 (by decide) ?_
    refine lv_icmp_le (tgt := 44) hx hb dX5_load_38 (by decide) (fun cd5 => ?_) (fun cd5 => ?_)
    · replace hf := z_pos cd5 hf
      refine lv_aload_n hx hb dX5_load_44 rfl (lv_at hl 1 rfl) ?_
      refine z_get S0 hC (ci := 5) (C := RX5) (T := TX5) (N := 7) (v := .ref oH) jX5_load_X5 0 rfl rfl 3 (by decide) kX5_load_25 rfl rfl dX5_load_45 ?_
      refine lv_aload_n hx hb dX5_load_48 rfl (lv_at hl 1 rfl) ?_
      refine z_get S0 hC (ci := 5) (C := RX5) (T := TX5) (N := 7) (v := .ref oN.1) jX5_load_X5 0 rfl rfl 0 (by decide) kX5_load_10 rfl rfl dX5_load_49 ?_
      obtain ⟨r6, hr6, hf⟩ := z_bind hf
      refine z_callv (z_runV (n := 1) (rest := []) (As := [.ref oN.1]) S0 hC (c_X0_record l G c3 oH Hhs oN ((Nzr, Nzf), (Nvr, Nvf), Nnm, Npd, Nnt) hr6) [7, 8, 9, 10, 11, 12, 13, 14, 15, 16, 17, 18, 19, 20, 21, 22, 23, 24, 25, 26, 27, 28, 29, 30, 31, 1, 2, 3, 4, 5, 6] (by decide) rfl gX5_load_X0_record rfl rfl rfl (by decide +kernel) ⟨Nat.le_of_ble_eq_true rfl, Nat.le_of_ble_eq_true rfl⟩ (ci := 0) (q0 := 7) rfl rfl rfl hl.1 rfl (Nat.le_of_ble_eq_true rfl) dX5_load_52) hC [7, 8, 9, 10, 11, 12, 13, 14, 15, 16, 17, 18, 19, 20, 21, 22, 23, 24, 25, 26, 27, 28, 29, 30, 31, 1, 2, 3, 4, 5, 6] [0, 32, 33] [0, 28, 29, 30, 31, 32, 33, 3, 4, 5, 6, 7, 8, 9, 10, 11, 12, 13, 14, 15, 16, 17, 18, 19, 20, 21, 22, 23, 24, 25, 26, 27, 1, 2] rfl (wr := (zwZ oZ oN oT oK oH oP oV Zss ++ zwP c3.2.1 oP (Psg, Pln, r1.2.1, r1.2.2.1, r1.2.2.2.1, r1.2.2.2.2.1, r1.2.2.2.2.2.1, r1.2.2.2.2.2.2.1, r1.2.2.2.2.2.2.2.1, r1.2.2.2.2.2.2.2.2.1, r1.2.2.2.2.2.2.2.2.2.1, r1.2.2.2.2.2.2.2.2.2.2.1, r1.2.2.2.2.2.2.2.2.2.2.2.1, r1.2.2.2.2.2.2.2.2.2.2.2.2))) rfl (by decide) (by decide) (ws2 := (zwZ oZ oN oT oK oH oP oV Zss ++ zwS c3.1 oN ((Nzr, Nzf), (Nvr, Nvf), Nnm, Npd, Nnt) ++ zwH c3.1 oH r6 ++ zwP c3.2.1 oP (Psg, Pln, r1.2.1, r1.2.2.1, r1.2.2.2.1, r1.2.2.2.2.1, r1.2.2.2.2.2.1, r1.2.2.2.2.2.2.1, r1.2.2.2.2.2.2.2.1, r1.2.2.2.2.2.2.2.2.1, r1.2.2.2.2.2.2.2.2.2.1, r1.2.2.2.2.2.2.2.2.2.2.1, r1.2.2.2.2.2.2.2.2.2.2.2.1, r1.2.2.2.2.2.2.2.2.2.2.2.2))) rfl (by decide) (fun H locs hC => ?_)
      refine lv_aload_n hx hb dX5_load_55 rfl (lv_at hl 1 rfl) ?_
      refine z_get S0 hC (ci := 5) (C := RX5) (T := TX5) (N := 7) (v := .ref oP.1) jX5_load_X5 0 rfl rfl 4 (by decide) kX5_load_32 rfl rfl dX5_load_56 ?_
      obtain ⟨r7, hr7, hf⟩ := z_bind hf
      refine z_callv (z_runV (n := 0) (rest := []) (As := []) S0 hC (c_X1_rewind l G c3 oP (Psg, Pln, r1.2.1, r1.2.2.1, r1.2.2.2.1, r1.2.2.2.2.1, r1.2.2.2.2.2.1, r1.2.2.2.2.2.2.1, r1.2.2.2.2.2.2.2.1, r1.2.2.2.2.2.2.2.2.1, r1.2.2.2.2.2.2.2.2.2.1, r1.2.2.2.2.2.2.2.2.2.2.1, r1.2.2.2.2.2.2.2.2.2.2.2.1, r1.2.2.2.2.2.2.2.2.2.2.2.2) hr7) [32, 33] (by decide) rfl gX5_load_X1_rewind rfl rfl rfl (by decide +kernel) ⟨Nat.le_of_ble_eq_true rfl, Nat.le_of_ble_eq_true rfl⟩ (ci := 1) (q0 := 32) rfl rfl rfl hl.1 rfl (Nat.le_of_ble_eq_true rfl) dX5_load_59) hC [32, 33] [0, 1, 2, 3, 4, 5, 6, 7, 8, 9, 10, 11, 12, 13, 14, 15, 16, 17, 18, 19, 20, 21, 22, 23, 24, 25, 26, 27, 28, 29, 30, 31] [0, 1, 2, 3, 4, 5, 6, 7, 8, 9, 10, 11, 12, 13, 14, 15, 16, 17, 18, 19, 20, 21, 22, 23, 24, 25, 26, 27, 28, 29, 30, 31, 32, 33] rfl (wr := (zwZ oZ oN oT oK oH oP oV Zss ++ zwS c3.1 oN ((Nzr, Nzf), (Nvr, Nvf), Nnm, Npd, Nnt) ++ zwH c3.1 oH r6)) rfl (by decide) (by decide) (ws2 := (zwZ oZ oN oT oK oH oP oV Zss ++ zwS c3.1 oN ((Nzr, Nzf), (Nvr, Nvf), Nnm, Npd, Nnt) ++ zwH c3.1 oH r6 ++ zwP c3.2.1 oP (Psg, Pln, r7, r1.2.2.1, r1.2.2.2.1, r1.2.2.2.2.1, r1.2.2.2.2.2.1, r1.2.2.2.2.2.2.1, r1.2.2.2.2.2.2.2.1, r1.2.2.2.2.2.2.2.2.1, r1.2.2.2.2.2.2.2.2.2.1, r1.2.2.2.2.2.2.2.2.2.2.1, r1.2.2.2.2.2.2.2.2.2.2.2.1, r1.2.2.2.2.2.2.2.2.2.2.2.2))) rfl (by decide) (fun H locs hC => ?_)
      refine lv_iconst (v := 0) hx hb dX5_load_62 (by decide) ?_
      refine lv_istore_n (lv' := [(2, .int 0), (1, .int r3), (0, .ref oZ)]) hx hb dX5_load_63 rfl hl (by decide) rfl (fun ls hl => ?_)
      have L64 : ∀ (fu : Nat) (y1 : Int32) (y2 : Int32) (Zss : Int32) (Nzr : Int32) (Nzf : (Nat → Int32)) (Nvr : Int32) (Nvf : (Nat → Int32)) (Nnm : (Nat → Int32)) (Npd : Int32) (Nnt : Int32) (Hhs : zHs) (Psg : (Nat → Int32)) (Pln : Int32) (Pat : Int32) (Pvl : Int32) (Plo : Int32) (Phi : Int32) (Pso : Int32) (Pha : Int32) (Pla : Int32) (Pgr : Int32) (Pro : Int32) (Pde : Int32) (Pdk : Int32) (Pam : Int32) (tt : Int32 × Int32 × (Nat → Int32) × Int32 × Int32 × Int32 × Int32 × Int32 × Int32 × Int32 × Int32 × Int32), f_X5_load_64 y1 Psg Pln fu y2 Nzr Nzf Pat Pvl Plo Phi Pso Pha Pla Pgr Pro = some tt → ∀ (H : Heap) (locs : List Loc) (ls : Array Slot), zC G c3 A s (zwZ oZ oN oT oK oH oP oV Zss ++ zwS c3.1 oN ((Nzr, Nzf), (Nvr, Nvf), Nnm, Npd, Nnt) ++ zwH c3.1 oH Hhs ++ zwP c3.2.1 oP (Psg, Pln, Pat, Pvl, Plo, Phi, Pso, Pha, Pla, Pgr, Pro, Pde, Pdk, Pam)) H locs → lv_has ls 4 [(0, .ref oZ), (1, .int y1), (2, .int y2)] → (∀ (H : Heap) (locs : List Loc) (ls : Array Slot), zC G c3 A s (zwZ oZ oN oT oK oH oP oV Zss ++ zwS c3.1 oN ((tt.2.1, tt.2.2.1), (Nvr, Nvf), Nnm, Npd, Nnt) ++ zwH c3.1 oH Hhs ++ zwP c3.2.1 oP (Psg, Pln, tt.2.2.2.1, tt.2.2.2.2.1, tt.2.2.2.2.2.1, tt.2.2.2.2.2.2.1, tt.2.2.2.2.2.2.2.1, tt.2.2.2.2.2.2.2.2.1, tt.2.2.2.2.2.2.2.2.2.1, tt.2.2.2.2.2.2.2.2.2.2.1, tt.2.2.2.2.2.2.2.2.2.2.2, Pde, Pdk, Pam)) H locs → lv_has ls 4 [(0, .ref oZ), (1, .int y1), (2, .int tt.1)] → W p l e ⟨5, 0, 0, 118⟩ s m args below meth c H locs 0 0 (MQ below (zPost G (zwZ oZ oN oT oK oH oP oV Zss ++ zwS c3.1 oN ((Nzr', Nzf'), (Nvr, Nvf), Nnm, Npd, Nnt) ++ zwH c3.1 oH Hhs' ++ zwP c3.2.1 oP (Psg, Pln', Pat', Pvl', Plo', Phi', Pso', Pha', Pla', Pgr', Pro', Pde', Pdk', Pam')) (some (.int r)) A) args s 0 0 A) (F0 m 160 ls [])) → W p l e ⟨5, 0, 0, 118⟩ s m args below meth c H locs 0 0 (MQ below (zPost G (zwZ oZ oN oT oK oH oP oV Zss ++ zwS c3.1 oN ((Nzr', Nzf'), (Nvr, Nvf), Nnm, Npd, Nnt) ++ zwH c3.1 oH Hhs' ++ zwP c3.2.1 oP (Psg, Pln', Pat', Pvl', Plo', Phi', Pso', Pha', Pla', Pgr', Pro', Pde', Pdk', Pam')) (some (.int r)) A) args s 0 0 A) (F0 m 64 ls []) := by
        intro fu
        induction fu with
        | zero =>
          intro y1 y2 Zss Nzr Nzf Nvr Nvf Nnm Npd Nnt Hhs Psg Pln Pat Pvl Plo Phi Pso Pha Pla Pgr Pro Pde Pdk Pam tt hf H locs ls hC hl hK
          exact (z_none hf).elim
        | succ fu ih64 =>
          intro y1 y2 Zss Nzr Nzf Nvr Nvf Nnm Npd Nnt Hhs Psg Pln Pat Pvl Plo Phi Pso Pha Pla Pgr Pro Pde Pdk Pam tt hf H locs ls hC hl hK
          replace hf := (f_X5_load_64_s y1 Psg Pln y2 Nzr Nzf Pat Pvl Plo Phi Pso Pha Pla Pgr Pro fu).symm.trans hf
          refine lv_iload_n hx hb dX5_load_64 rfl (lv_at hl 2 rfl) ?_
          refine lv_iload_n hx hb dX5_load_65 rfl (lv_at hl 1 rfl) ?_
          refine lv_icmp_ge (tgt := 160) hx hb dX5_load_66 (by decide) (fun cd9 => ?_) (fun cd9 => ?_)
          · replace hf := z_pos cd9 hf
            have e1 := z_s1 hf
            subst e1
            exact hK H locs ls hC (lv_sub hl [0, 1, 2] rfl)
          · replace hf := z_neg cd9 hf
            refine lv_aload_n hx hb dX5_load_69 rfl (lv_at hl 0 rfl) ?_
            refine z_get S0 hC (ci := 5) (C := RX5) (T := TX5) (N := 7) (v := .ref oP.1) jX5_load_X5 0 rfl rfl 4 (by decide) kX5_load_32 rfl rfl dX5_load_70 ?_
            obtain ⟨r10, hr10, hf⟩ := z_bind hf
            refine z_calli (z_runV (n := 0) (rest := []) (As := []) S0 hC (c_X1_readZone l G c3 oP (Psg, Pln, Pat, Pvl, Plo, Phi, Pso, Pha, Pla, Pgr, Pro, Pde, Pdk, Pam) hr10) [32, 33] (by decide) rfl gX5_load_X1_readZone rfl rfl rfl (by decide +kernel) ⟨Nat.le_of_ble_eq_true rfl, Nat.le_of_ble_eq_true rfl⟩ (ci := 1) (q0 := 32) rfl rfl rfl hl.1 rfl (Nat.le_of_ble_eq_true rfl) dX5_load_73) hC [32, 33] [0, 1, 2, 3, 4, 5, 6, 7, 8, 9, 10, 11, 12, 13, 14, 15, 16, 17, 18, 19, 20, 21, 22, 23, 24, 25, 26, 27, 28, 29, 30, 31] [0, 1, 2, 3, 4, 5, 6, 7, 8, 9, 10, 11, 12, 13, 14, 15, 16, 17, 18, 19, 20, 21, 22, 23, 24, 25, 26, 27, 28, 29, 30, 31, 32, 33] rfl (wr := (zwZ oZ oN oT oK oH oP oV Zss ++ zwS c3.1 oN ((Nzr, Nzf), (Nvr, Nvf), Nnm, Npd, Nnt) ++ zwH c3.1 oH Hhs)) rfl (by decide) (by decide) (ws2 := (zwZ oZ oN oT oK oH oP oV Zss ++ zwS c3.1 oN ((Nzr, Nzf), (Nvr, Nvf), Nnm, Npd, Nnt) ++ zwH c3.1 oH Hhs ++ zwP c3.2.1 oP (Psg, Pln, r10.2.1, r10.2.2.1, r10.2.2.2.1, r10.2.2.2.2.1, r10.2.2.2.2.2.1, r10.2.2.2.2.2.2.1, r10.2.2.2.2.2.2.2.1, r10.2.2.2.2.2.2.2.2.1, r10.2.2.2.2.2.2.2.2.2, Pde, Pdk, Pam))) rfl (by decide) (fun H locs hC => ?_)
            obtain ⟨t12, ht12, hf⟩ := z_bind hf
            have Jt12 : ∀ (H : Heap) (locs : List Loc) (ls : Array Slot), zC G c3 A s (zwZ oZ oN oT oK oH oP oV Zss ++ zwS c3.1 oN ((t12.1, t12.2), (Nvr, Nvf), Nnm, Npd, Nnt) ++ zwH c3.1 oH Hhs ++ zwP c3.2.1 oP (Psg, Pln, r10.2.1, r10.2.2.1, r10.2.2.2.1, r10.2.2.2.2.1, r10.2.2.2.2.2.1, r10.2.2.2.2.2.2.1, r10.2.2.2.2.2.2.2.1, r10.2.2.2.2.2.2.2.2.1, r10.2.2.2.2.2.2.2.2.2, Pde, Pdk, Pam)) H locs → lv_has ls 4 [(0, .ref oZ), (1, .int y1), (2, .int y2)] → W p l e ⟨5, 0, 0, 118⟩ s m args below meth c H locs 0 0 (MQ below (zPost G (zwZ oZ oN oT oK oH oP oV Zss ++ zwS c3.1 oN ((Nzr', Nzf'), (Nvr, Nvf), Nnm, Npd, Nnt) ++ zwH c3.1 oH Hhs' ++ zwP c3.2.1 oP (Psg, Pln', Pat', Pvl', Plo', Phi', Pso', Pha', Pla', Pgr', Pro', Pde', Pdk', Pam')) (some (.int r)) A) args s 0 0 A) (F0 m 144 ls []) := by
              intro H locs ls hC hl
              refine lv_aload_n hx hb dX5_load_144 rfl (lv_at hl 0 rfl) ?_
              refine z_get S0 hC (ci := 5) (C := RX5) (T := TX5) (N := 7) (v := .ref oP.1) jX5_load_X5 0 rfl rfl 4 (by decide) kX5_load_32 rfl rfl dX5_load_145 ?_
              refine lv_bipush (v := 59) hx hb dX5_load_148 (by decide) ?_
              obtain ⟨r13, hr13, hf⟩ := z_bind hf
              refine z_calli (z_runV (n := 1) (rest := []) (As := [.int 59]) S0 hC (c_X1_readSign l G c3 oP (Psg, Pln, r10.2.1, r10.2.2.1, r10.2.2.2.1, r10.2.2.2.2.1, r10.2.2.2.2.2.1, r10.2.2.2.2.2.2.1, r10.2.2.2.2.2.2.2.1, r10.2.2.2.2.2.2.2.2.1, r10.2.2.2.2.2.2.2.2.2, Pde, Pdk, Pam) 59 hr13) [32, 33] (by decide) rfl gX5_load_X1_readSign rfl rfl rfl (by decide +kernel) ⟨Nat.le_of_ble_eq_true rfl, Nat.le_of_ble_eq_true rfl⟩ (ci := 1) (q0 := 32) rfl rfl rfl hl.1 rfl (Nat.le_of_ble_eq_true rfl) dX5_load_150) hC [32, 33] [0, 1, 2, 3, 4, 5, 6, 7, 8, 9, 10, 11, 12, 13, 14, 15, 16, 17, 18, 19, 20, 21, 22, 23, 24, 25, 26, 27, 28, 29, 30, 31] [0, 1, 2, 3, 4, 5, 6, 7, 8, 9, 10, 11, 12, 13, 14, 15, 16, 17, 18, 19, 20, 21, 22, 23, 24, 25, 26, 27, 28, 29, 30, 31, 32, 33] rfl (wr := (zwZ oZ oN oT oK oH oP oV Zss ++ zwS c3.1 oN ((t12.1, t12.2), (Nvr, Nvf), Nnm, Npd, Nnt) ++ zwH c3.1 oH Hhs)) rfl (by decide) (by decide) (ws2 := (zwZ oZ oN oT oK oH oP oV Zss ++ zwS c3.1 oN ((t12.1, t12.2), (Nvr, Nvf), Nnm, Npd, Nnt) ++ zwH c3.1 oH Hhs ++ zwP c3.2.1 oP (Psg, Pln, r13.2, r10.2.2.1, r10.2.2.2.1, r10.2.2.2.2.1, r10.2.2.2.2.2.1, r10.2.2.2.2.2.2.1, r10.2.2.2.2.2.2.2.1, r10.2.2.2.2.2.2.2.2.1, r10.2.2.2.2.2.2.2.2.2, Pde, Pdk, Pam))) rfl (by decide) (fun H locs hC => ?_)
              refine lv_pop hx hb dX5_load_153 rfl ?_
              refine lv_iinc (v := (y2 + 1)) (lv' := [(2, .int (y2 + 1)), (0, .ref oZ), (1, .int y1)]) hx hb dX5_load_154 hl (k := 2) rfl rfl (by decide) rfl (fun ls hl => ?_)
              refine lv_goto (tgt := 64) hx hb dX5_load_157 (by decide) ?_
              exact ih64 y1 (y2 + 1) Zss t12.1 t12.2 Nvr Nvf Nnm Npd Nnt Hhs Psg Pln r13.2 r10.2.2.1 r10.2.2.2.1 r10.2.2.2.2.1 r10.2.2.2.2.2.1 r10.2.2.2.2.2.2.1 r10.2.2.2.2.2.2.2.1 r10.2.2.2.2.2.2.2.2.1 r10.2.2.2.2.2.2.2.2.2 Pde Pdk Pam _ hf H locs ls hC (lv_sub hl [1, 2, 0] rfl) hK
            refine lv_if_eq (tgt := 144) hx hb dX5_load_76 (by decide) (fun cd11 => ?_) (fun cd11 => ?_)
            · replace ht12 := z_pos cd11 ht12
              have e1 := z_s1 ht12
              subst e1
              exact Jt12 H locs ls hC (lv_sub hl [0, 1, 2] rfl)
            · replace ht12 := z_neg cd11 ht12
              refine lv_aload_n hx hb dX5_load_79 rfl (lv_at hl 0 rfl) ?_
              refine z_get S0 hC (ci := 5) (C := RX5) (T := TX5) (N := 7) (v := .ref oN.1) jX5_load_X5 0 rfl rfl 0 (by decide) kX5_load_10 rfl rfl dX5_load_80 ?_
              refine lv_aload_n hx hb dX5_load_83 rfl (lv_at hl 0 rfl) ?_
              refine z_get S0 hC (ci := 5) (C := RX5) (T := TX5) (N := 7) (v := .ref oP.1) jX5_load_X5 0 rfl rfl 4 (by decide) kX5_load_32 rfl rfl dX5_load_84 ?_
              refine z_getN S0 hC (host := "ZoneSampler") (ci := 1) (C := RX1) (T := TX1) (N := 14) (v := .int r10.2.2.2.1) jX5_load_X1 32 rfl rfl 4 (by decide) (by decide +kernel : Cond.fieldLinkNest RX5 137 "ZoneSampler$Pad" "low" "I" "ZoneSampler" ∈ zNW) rfl rfl dX5_load_87 ?_
              refine lv_aload_n hx hb dX5_load_90 rfl (lv_at hl 0 rfl) ?_
              refine z_get S0 hC (ci := 5) (C := RX5) (T := TX5) (N := 7) (v := .ref oP.1) jX5_load_X5 0 rfl rfl 4 (by decide) kX5_load_32 rfl rfl dX5_load_91 ?_
              refine z_getN S0 hC (host := "ZoneSampler") (ci := 1) (C := RX1) (T := TX1) (N := 14) (v := .int r10.2.2.2.2.1) jX5_load_X1 32 rfl rfl 5 (by decide) (by decide +kernel : Cond.fieldLinkNest RX5 141 "ZoneSampler$Pad" "high" "I" "ZoneSampler" ∈ zNW) rfl rfl dX5_load_94 ?_
              refine lv_aload_n hx hb dX5_load_97 rfl (lv_at hl 0 rfl) ?_
              refine z_get S0 hC (ci := 5) (C := RX5) (T := TX5) (N := 7) (v := .ref oP.1) jX5_load_X5 0 rfl rfl 4 (by decide) kX5_load_32 rfl rfl dX5_load_98 ?_
              refine z_getN S0 hC (host := "ZoneSampler") (ci := 1) (C := RX1) (T := TX1) (N := 14) (v := .int r10.2.2.2.2.2.1) jX5_load_X1 32 rfl rfl 6 (by decide) (by decide +kernel : Cond.fieldLinkNest RX5 144 "ZoneSampler$Pad" "softest" "I" "ZoneSampler" ∈ zNW) rfl rfl dX5_load_101 ?_
              refine lv_aload_n hx hb dX5_load_104 rfl (lv_at hl 0 rfl) ?_
              refine z_get S0 hC (ci := 5) (C := RX5) (T := TX5) (N := 7) (v := .ref oP.1) jX5_load_X5 0 rfl rfl 4 (by decide) kX5_load_32 rfl rfl dX5_load_105 ?_
              refine z_getN S0 hC (host := "ZoneSampler") (ci := 1) (C := RX1) (T := TX1) (N := 14) (v := .int r10.2.2.2.2.2.2.1) jX5_load_X1 32 rfl rfl 7 (by decide) (by decide +kernel : Cond.fieldLinkNest RX5 147 "ZoneSampler$Pad" "hardest" "I" "ZoneSampler" ∈ zNW) rfl rfl dX5_load_108 ?_
              obtain ⟨r14, hr14, ht12⟩ := z_bind ht12
              refine z_calli (z_runV (n := 4) (rest := []) (As := [.int r10.2.2.2.1, .int r10.2.2.2.2.1, .int r10.2.2.2.2.2.1, .int r10.2.2.2.2.2.2.1]) S0 hC (c_X2_addZone l G c3 oN ((Nzr, Nzf), (Nvr, Nvf), Nnm, Npd, Nnt) r10.2.2.2.1 r10.2.2.2.2.1 r10.2.2.2.2.2.1 r10.2.2.2.2.2.2.1 hr14) [1, 2, 3, 4, 5, 6] (by decide) rfl gX5_load_X2_addZone rfl rfl rfl (by decide +kernel) ⟨Nat.le_of_ble_eq_true rfl, Nat.le_of_ble_eq_true rfl⟩ (ci := 2) (q0 := 1) rfl rfl rfl hl.1 rfl (Nat.le_of_ble_eq_true rfl) dX5_load_111) hC [1, 2, 3, 4, 5, 6] [0, 7, 8, 9, 10, 11, 12, 13, 14, 15, 16, 17, 18, 19, 20, 21, 22, 23, 24, 25, 26, 27, 28, 29, 30, 31, 32, 33] [0, 28, 29, 30, 31, 32, 33, 1, 2, 3, 4, 5, 6, 7, 8, 9, 10, 11, 12, 13, 14, 15, 16, 17, 18, 19, 20, 21, 22, 23, 24, 25, 26, 27] rfl (wr := (zwZ oZ oN oT oK oH oP oV Zss ++ zwH c3.1 oH Hhs ++ zwP c3.2.1 oP (Psg, Pln, r10.2.1, r10.2.2.1, r10.2.2.2.1, r10.2.2.2.2.1, r10.2.2.2.2.2.1, r10.2.2.2.2.2.2.1, r10.2.2.2.2.2.2.2.1, r10.2.2.2.2.2.2.2.2.1, r10.2.2.2.2.2.2.2.2.2, Pde, Pdk, Pam))) rfl (by decide) (by decide) (ws2 := (zwZ oZ oN oT oK oH oP oV Zss ++ zwS c3.1 oN ((r14.2.1, r14.2.2), (Nvr, Nvf), Nnm, Npd, Nnt) ++ zwH c3.1 oH Hhs ++ zwP c3.2.1 oP (Psg, Pln, r10.2.1, r10.2.2.1, r10.2.2.2.1, r10.2.2.2.2.1, r10.2.2.2.2.2.1, r10.2.2.2.2.2.2.1, r10.2.2.2.2.2.2.2.1, r10.2.2.2.2.2.2.2.2.1, r10.2.2.2.2.2.2.2.2.2, Pde, Pdk, Pam))) rfl (by decide) (fun H locs hC => ?_)
              refine lv_istore_n (lv' := [(3, .int r14.1), (0, .ref oZ), (1, .int y1), (2, .int y2)]) hx hb dX5_load_114 rfl hl (by decide) rfl (fun ls hl => ?_)
              refine lv_aload_n hx hb dX5_load_115 rfl (lv_at hl 1 rfl) ?_
              refine z_get S0 hC (ci := 5) (C := RX5) (T := TX5) (N := 7) (v := .ref oN.1) jX5_load_X5 0 rfl rfl 0 (by decide) kX5_load_10 rfl rfl dX5_load_116 ?_
              refine lv_iload_n hx hb dX5_load_119 rfl (lv_at hl 0 rfl) ?_
              refine lv_aload_n hx hb dX5_load_120 rfl (lv_at hl 1 rfl) ?_
              refine z_get S0 hC (ci := 5) (C := RX5) (T := TX5) (N := 7) (v := .ref oP.1) jX5_load_X5 0 rfl rfl 4 (by decide) kX5_load_32 rfl rfl dX5_load_121 ?_
              refine z_getN S0 hC (host := "ZoneSampler") (ci := 1) (C := RX1) (T := TX1) (N := 14) (v := .int r10.2.2.2.2.2.2.2.2.1) jX5_load_X1 32 rfl rfl 9 (by decide) (by decide +kernel : Cond.fieldLinkNest RX5 150 "ZoneSampler$Pad" "group" "I" "ZoneSampler" ∈ zNW) rfl rfl dX5_load_124 ?_
              refine lv_aload_n hx hb dX5_load_127 rfl (lv_at hl 1 rfl) ?_
              refine z_get S0 hC (ci := 5) (C := RX5) (T := TX5) (N := 7) (v := .ref oP.1) jX5_load_X5 0 rfl rfl 4 (by decide) kX5_load_32 rfl rfl dX5_load_128 ?_
              refine z_getN S0 hC (host := "ZoneSampler") (ci := 1) (C := RX1) (T := TX1) (N := 14) (v := .int r10.2.2.2.2.2.2.2.2.2) jX5_load_X1 32 rfl rfl 10 (by decide) (by decide +kernel : Cond.fieldLinkNest RX5 153 "ZoneSampler$Pad" "robin" "I" "ZoneSampler" ∈ zNW) rfl rfl dX5_load_131 ?_
              refine lv_aload_n hx hb dX5_load_134 rfl (lv_at hl 1 rfl) ?_
              refine z_get S0 hC (ci := 5) (C := RX5) (T := TX5) (N := 7) (v := .ref oP.1) jX5_load_X5 0 rfl rfl 4 (by decide) kX5_load_32 rfl rfl dX5_load_135 ?_
              refine z_getN S0 hC (host := "ZoneSampler") (ci := 1) (C := RX1) (T := TX1) (N := 14) (v := .int r10.2.2.2.2.2.2.2.1) jX5_load_X1 32 rfl rfl 8 (by decide) (by decide +kernel : Cond.fieldLinkNest RX5 156 "ZoneSampler$Pad" "lasting" "I" "ZoneSampler" ∈ zNW) rfl rfl dX5_load_138 ?_
              obtain ⟨r15, hr15, ht12⟩ := z_bind ht12
              refine z_callv (z_runV (n := 4) (rest := []) (As := [.int r14.1, .int r10.2.2.2.2.2.2.2.2.1, .int r10.2.2.2.2.2.2.2.2.2, .int r10.2.2.2.2.2.2.2.1]) S0 hC (c_X2_shapeZone l G c3 oN ((r14.2.1, r14.2.2), (Nvr, Nvf), Nnm, Npd, Nnt) r14.1 r10.2.2.2.2.2.2.2.2.1 r10.2.2.2.2.2.2.2.2.2 r10.2.2.2.2.2.2.2.1 hr15) [1, 2, 3, 4, 5, 6] (by decide) rfl gX5_load_X2_shapeZone rfl rfl rfl (by decide +kernel) ⟨Nat.le_of_ble_eq_true rfl, Nat.le_of_ble_eq_true rfl⟩ (ci := 2) (q0 := 1) rfl rfl rfl hl.1 rfl (Nat.le_of_ble_eq_true rfl) dX5_load_141) hC [1, 2, 3, 4, 5, 6] [0, 7, 8, 9, 10, 11, 12, 13, 14, 15, 16, 17, 18, 19, 20, 21, 22, 23, 24, 25, 26, 27, 28, 29, 30, 31, 32, 33] [0, 28, 29, 30, 31, 32, 33, 1, 2, 3, 4, 5, 6, 7, 8, 9, 10, 11, 12, 13, 14, 15, 16, 17, 18, 19, 20, 21, 22, 23, 24, 25, 26, 27] rfl (wr := (zwZ oZ oN oT oK oH oP oV Zss ++ zwH c3.1 oH Hhs ++ zwP c3.2.1 oP (Psg, Pln, r10.2.1, r10.2.2.1, r10.2.2.2.1, r10.2.2.2.2.1, r10.2.2.2.2.2.1, r10.2.2.2.2.2.2.1, r10.2.2.2.2.2.2.2.1, r10.2.2.2.2.2.2.2.2.1, r10.2.2.2.2.2.2.2.2.2, Pde, Pdk, Pam))) rfl (by decide) (by decide) (ws2 := (zwZ oZ oN oT oK oH oP oV Zss ++ zwS c3.1 oN ((r14.2.1, r15), (Nvr, Nvf), Nnm, Npd, Nnt) ++ zwH c3.1 oH Hhs ++ zwP c3.2.1 oP (Psg, Pln, r10.2.1, r10.2.2.1, r10.2.2.2.1, r10.2.2.2.2.1, r10.2.2.2.2.2.1, r10.2.2.2.2.2.2.1, r10.2.2.2.2.2.2.2.1, r10.2.2.2.2.2.2.2.2.1, r10.2.2.2.2.2.2.2.2.2, Pde, Pdk, Pam))) rfl (by decide) (fun H locs hC => ?_)
              have e1 := z_s1 ht12
              subst e1
              exact Jt12 H locs ls hC (lv_sub hl [1, 2, 3] rfl)
      obtain ⟨t16, ht16, hf⟩ := z_bind hf
      refine L64 zF r3 0 Zss Nzr Nzf Nvr Nvf Nnm Npd Nnt r6 Psg Pln r7 r1.2.2.1 r1.2.2.2.1 r1.2.2.2.2.1 r1.2.2.2.2.2.1 r1.2.2.2.2.2.2.1 r1.2.2.2.2.2.2.2.1 r1.2.2.2.2.2.2.2.2.1 r1.2.2.2.2.2.2.2.2.2.1 r1.2.2.2.2.2.2.2.2.2.2.1 r1.2.2.2.2.2.2.2.2.2.2.2.1 r1.2.2.2.2.2.2.2.2.2.2.2.2 t16 ht16 H locs ls hC (lv_sub hl [2, 1, 0] rfl) (fun H locs ls hC hl => ?_)
      refine lv_aload_n hx hb dX5_load_160 rfl (lv_at hl 0 rfl) ?_
      refine z_get S0 hC (ci := 5) (C := RX5) (T := TX5) (N := 7) (v := .ref oP.1) jX5_load_X5 0 rfl rfl 4 (by decide) kX5_load_32 rfl rfl dX5_load_161 ?_
      obtain ⟨r17, hr17, hf⟩ := z_bind hf
      refine z_callv (z_runV (n := 0) (rest := []) (As := []) S0 hC (c_X1_empty l G c3 oP (Psg, Pln, t16.2.2.2.1, t16.2.2.2.2.1, t16.2.2.2.2.2.1, t16.2.2.2.2.2.2.1, t16.2.2.2.2.2.2.2.1, t16.2.2.2.2.2.2.2.2.1, t16.2.2.2.2.2.2.2.2.2.1, t16.2.2.2.2.2.2.2.2.2.2.1, t16.2.2.2.2.2.2.2.2.2.2.2, r1.2.2.2.2.2.2.2.2.2.2.1, r1.2.2.2.2.2.2.2.2.2.2.2.1, r1.2.2.2.2.2.2.2.2.2.2.2.2) hr17) [32, 33] (by decide) rfl gX5_load_X1_empty rfl rfl rfl (by decide +kernel) ⟨Nat.le_of_ble_eq_true rfl, Nat.le_of_ble_eq_true rfl⟩ (ci := 1) (q0 := 32) rfl rfl rfl hl.1 rfl (Nat.le_of_ble_eq_true rfl) dX5_load_164) hC [32, 33] [0, 1, 2, 3, 4, 5, 6, 7, 8, 9, 10, 11, 12, 13, 14, 15, 16, 17, 18, 19, 20, 21, 22, 23, 24, 25, 26, 27, 28, 29, 30, 31] [0, 1, 2, 3, 4, 5, 6, 7, 8, 9, 10, 11, 12, 13, 14, 15, 16, 17, 18, 19, 20, 21, 22, 23, 24, 25, 26, 27, 28, 29, 30, 31, 32, 33] rfl (wr := (zwZ oZ oN oT oK oH oP oV Zss ++ zwS c3.1 oN ((t16.2.1, t16.2.2.1), (Nvr, Nvf), Nnm, Npd, Nnt) ++ zwH c3.1 oH r6)) rfl (by decide) (by decide) (ws2 := (zwZ oZ oN oT oK oH oP oV Zss ++ zwS c3.1 oN ((t16.2.1, t16.2.2.1), (Nvr, Nvf), Nnm, Npd, Nnt) ++ zwH c3.1 oH r6 ++ zwP c3.2.1 oP (Psg, r17, t16.2.2.2.1, t16.2.2.2.2.1, t16.2.2.2.2.2.1, t16.2.2.2.2.2.2.1, t16.2.2.2.2.2.2.2.1, t16.2.2.2.2.2.2.2.2.1, t16.2.2.2.2.2.2.2.2.2.1, t16.2.2.2.2.2.2.2.2.2.2.1, t16.2.2.2.2.2.2.2.2.2.2.2, r1.2.2.2.2.2.2.2.2.2.2.1, r1.2.2.2.2.2.2.2.2.2.2.2.1, r1.2.2.2.2.2.2.2.2.2.2.2.2))) rfl (by decide) (fun H locs hC => ?_)
      refine lv_aload_n hx hb dX5_load_167 rfl (lv_at hl 0 rfl) ?_
      refine z_get S0 hC (ci := 5) (C := RX5) (T := TX5) (N := 7) (v := .ref oN.1) jX5_load_X5 0 rfl rfl 0 (by decide) kX5_load_10 rfl rfl dX5_load_168 ?_
      refine z_getN S0 hC (host := "ZoneSampler") (ci := 2) (C := RX2) (T := TX2) (N := 5) (v := .ref oN.2.2.1.1) jX5_load_X2 1 rfl rfl 0 (by decide) (by decide +kernel : Cond.fieldLinkNest RX5 47 "ZoneSampler$State" "zones" "LZoneSampler$Table;" "ZoneSampler" ∈ zNW) rfl rfl dX5_load_171 ?_
      obtain ⟨r18, hr18, hf⟩ := z_bind hf
      refine z_callPi (z_runV (n := 0) (rest := []) (As := []) S0 hC (c_X4_rows l G c3 oN.2.2.1 70 (t16.2.1, t16.2.2.1) hr18) [3, 4] (by decide) rfl gX5_load_X4_rows rfl rfl rfl (by decide +kernel) ⟨Nat.le_of_ble_eq_true rfl, Nat.le_of_ble_eq_true rfl⟩ (ci := 4) (q0 := 3) rfl rfl rfl hl.1 rfl (Nat.le_of_ble_eq_true rfl) dX5_load_174) hC [3, 4] rfl (fun H locs hC => ?_)
      obtain ⟨e1, e2, e3, e4, e5, e6, e7, e8, e9, e10, e11, e12, e13, e14, e15, e16, e17⟩ := z_s17 hf
      subst e1
      subst e2
      subst e3
      subst e4
      subst e5
      subst e6
      subst e7
      subst e8
      subst e9
      subst e10
      subst e11
      subst e12
      subst e13
      subst e14
      subst e15
      subst e16
      subst e17
      exact z_iret S0 hr hlk hC dX5_load_177
    · replace hf := z_neg cd5 hf
      refine lv_bipush (v := (-3)) hx hb dX5_load_41 (by decide) ?_
      obtain ⟨e1, e2, e3, e4, e5, e6, e7, e8, e9, e10, e11, e12, e13, e14, e15, e16, e17⟩ := z_s17 hf
      subst e1
      subst e2
      subst e3
      subst e4
      subst e5
      subst e6
      subst e7
      subst e8
      subst e9
      subst e10
      subst e11
      subst e12
      subst e13
      subst e14
      subst e15
      subst e16
      subst e17
      exact z_iret S0 hr hlk hC dX5_load_43
  · replace hf := z_neg cd2 hf
    refine lv_bipush (v := (-2)) hx hb dX5_load_13 (by decide) ?_
    obtain ⟨e1, e2, e3, e4, e5, e6, e7, e8, e9, e10, e11, e12, e13, e14, e15, e16, e17⟩ := z_s17 hf
    subst e1
    subst e2
    subst e3
    subst e4
    subst e5
    subst e6
    subst e7
    subst e8
    subst e9
    subst e10
    subst e11
    subst e12
    subst e13
    subst e14
    subst e15
    subst e16
    subst e17
    exact z_iret S0 hr hlk hC dX5_load_15

-- X5 doDeed
def f_X5_doDeed (Nzr : Int32) (Nzf : (Nat → Int32)) (Nvr : Int32) (Nvf : (Nat → Int32)) (Nnm : (Nat → Int32)) (Npd : Int32) (Nnt : Int32) (Pde : Int32) (Pdk : Int32) (Pam : Int32) : Option (Int32 × (Nat → Int32) × (Nat → Int32) × Int32 × Int32) :=
  if Pde = 110 then
    (f_X2_strike Nzr Nzf Nvr Nvf Nnm Nnt Pdk Pam).bind fun r2 => some (r2.2.1, r2.2.2.1, r2.2.2.2.1, Npd, r2.2.2.2.2)
  else
    if Pde = 111 then
      (f_X2_release Nvr Nvf Npd Pdk).bind fun r4 => some (Nvr, r4.2, Nnm, Npd, Nnt)
    else
      if Pde = 112 then
        (f_X2_tread Nvr Nvf Npd).bind fun r6 => some (Nvr, r6.2.1, Nnm, r6.2.2, Nnt)
      else
        (f_X2_runTicks Nzr Nzf Nvr Nvf Nnm Pam).bind fun r7 => some (r7.2.1, r7.2.2.1, r7.2.2.2, Npd, Nnt)

theorem kX5_doDeed_32 : Cond.fieldLink RX5 32 "ZoneSampler" "pad" "LZoneSampler$Pad;" ∈ wsX5_doDeed := by decide +kernel
theorem kX5_doDeed_10 : Cond.fieldLink RX5 10 "ZoneSampler" "now" "LZoneSampler$State;" ∈ wsX5_doDeed := by decide +kernel
theorem jX5_doDeed_X1 : ∀ w ∈ u_ws RX1 TX1 14, w ∈ wsX5_doDeed := by decide +kernel
theorem jX5_doDeed_X5 : ∀ w ∈ u_ws RX5 TX5 7, w ∈ wsX5_doDeed := by decide +kernel
set_option maxHeartbeats 4000000 in
set_option maxRecDepth 100000 in
theorem c_X5_doDeed (l : Launch) (G : va_G) (c3 : zT3) (oZ : Nat) (oN oT oK : zR6) (oH : Nat) (oP oV : zR2) (BZ : Int32) (BN : zSt) (BP : zPd) {Nvr' : Int32} {Nvf' : (Nat → Int32)} {Nnm' : (Nat → Int32)} {Npd' : Int32} {Nnt' : Int32} (hf : f_X5_doDeed BN.1.1 BN.1.2 BN.2.1.1 BN.2.1.2 BN.2.2.1 BN.2.2.2.1 BN.2.2.2.2 BP.2.2.2.2.2.2.2.2.2.2.2.1 BP.2.2.2.2.2.2.2.2.2.2.2.2.1 BP.2.2.2.2.2.2.2.2.2.2.2.2.2 = some (Nvr', Nvf', Nnm', Npd', Nnt')) : zM l yX5_doDeed wsX5_doDeed ⟨5, 0, 0, 116⟩ G c3 (zwZ oZ oN oT oK oH oP oV BZ ++ zwS c3.1 oN ((BN.1.1, BN.1.2), (BN.2.1.1, BN.2.1.2), BN.2.2.1, BN.2.2.2.1, BN.2.2.2.2) ++ zwP c3.2.1 oP (BP.1, BP.2.1, BP.2.2.1, BP.2.2.2.1, BP.2.2.2.2.1, BP.2.2.2.2.2.1, BP.2.2.2.2.2.2.1, BP.2.2.2.2.2.2.2.1, BP.2.2.2.2.2.2.2.2.1, BP.2.2.2.2.2.2.2.2.2.1, BP.2.2.2.2.2.2.2.2.2.2.1, BP.2.2.2.2.2.2.2.2.2.2.2.1, BP.2.2.2.2.2.2.2.2.2.2.2.2.1, BP.2.2.2.2.2.2.2.2.2.2.2.2.2)) [.ref oZ] none (zwZ oZ oN oT oK oH oP oV BZ ++ zwS c3.1 oN ((BN.1.1, BN.1.2), (Nvr', Nvf'), Nnm', Npd', Nnt') ++ zwP c3.2.1 oP (BP.1, BP.2.1, BP.2.2.1, BP.2.2.2.1, BP.2.2.2.2.1, BP.2.2.2.2.2.1, BP.2.2.2.2.2.2.1, BP.2.2.2.2.2.2.2.1, BP.2.2.2.2.2.2.2.2.1, BP.2.2.2.2.2.2.2.2.2.1, BP.2.2.2.2.2.2.2.2.2.2.1, BP.2.2.2.2.2.2.2.2.2.2.2.1, BP.2.2.2.2.2.2.2.2.2.2.2.2.1, BP.2.2.2.2.2.2.2.2.2.2.2.2.2)) := by
  obtain ⟨Zss, rfl⟩ : ∃ y, y = BZ := ⟨_, rfl⟩
  obtain ⟨⟨Nzr, Nzf⟩, ⟨Nvr, Nvf⟩, Nnm, Npd, Nnt⟩ := BN
  obtain ⟨Psg, Pln, Pat, Pvl, Plo, Phi, Pso, Pha, Pla, Pgr, Pro, Pde, Pdk, Pam⟩ := BP
  have hf : f_X5_doDeed Nzr Nzf Nvr Nvf Nnm Npd Nnt Pde Pdk Pam = some (Nvr', Nvf', Nnm', Npd', Nnt') := hf
  show zM l yX5_doDeed wsX5_doDeed ⟨5, 0, 0, 116⟩ G c3 (zwZ oZ oN oT oK oH oP oV Zss ++ zwS c3.1 oN ((Nzr, Nzf), (Nvr, Nvf), Nnm, Npd, Nnt) ++ zwP c3.2.1 oP (Psg, Pln, Pat, Pvl, Plo, Phi, Pso, Pha, Pla, Pgr, Pro, Pde, Pdk, Pam)) [.ref oZ] none (zwZ oZ oN oT oK oH oP oV Zss ++ zwS c3.1 oN ((Nzr, Nzf), (Nvr', Nvf'), Nnm', Npd', Nnt') ++ zwP c3.2.1 oP (Psg, Pln, Pat, Pvl, Plo, Phi, Pso, Pha, Pla, Pgr, Pro, Pde, Pdk, Pam))
  refine zM.of (cc := cX5_doDeed) (maxL := 1) (ret := none) (by decide) rfl (Nat.le_of_ble_eq_true rfl) ?_
  intro p e s m args below meth c A ls S0 hr hlk hC hl
  have S0 : CallFix p m c cX5_doDeed 1 s args wsX5_doDeed RX5 := S0
  have hl : lv_has ls 1 [(0, .ref oZ)] := hl
  have hx := S0.1
  have hb := S0.2.1
  obtain ⟨H, hH⟩ : ∃ y, y = s.heap := ⟨_, rfl⟩
  rw [← hH] at hC ⊢
  obtain ⟨locs, hlo⟩ : ∃ y : List Loc, y = [] := ⟨_, rfl⟩
  rw [← hlo] at hC ⊢
  clear hH hlo
  unfold f_X5_doDeed at hf
  refine lv_aload_n hx hb dX5_doDeed_0 rfl (lv_at hl 0 rfl) ?_
  refine z_get S0 hC (ci := 5) (C := RX5) (T := TX5) (N := 7) (v := .ref oP.1) jX5_doDeed_X5 0 rfl rfl 4 (by decide) kX5_doDeed_32 rfl rfl dX5_doDeed_1 ?_
  refine z_getN S0 hC (host := "ZoneSampler") (ci := 1) (C := RX1) (T := TX1) (N := 14) (v := .int Pde) jX5_doDeed_X1 7 rfl rfl 11 (by decide) (by decide +kernel : Cond.fieldLinkNest RX5 225 "ZoneSampler$Pad" "deed" "I" "ZoneSampler" ∈ zNW) rfl rfl dX5_doDeed_4 ?_
  by_cases cd1 : Pde = 110
  · replace hf := z_pos cd1 hf
    refine lv_tableIn (off := 25) (tgt := 32) hx hb dX5_doDeed_7 (by rw [cd1]; decide) (by rw [cd1]; decide) (by rw [cd1]; rfl) (by decide) ?_
    refine lv_aload_n hx hb dX5_doDeed_32 rfl (lv_at hl 0 rfl) ?_
    refine z_get S0 hC (ci := 5) (C := RX5) (T := TX5) (N := 7) (v := .ref oN.1) jX5_doDeed_X5 0 rfl rfl 0 (by decide) kX5_doDeed_10 rfl rfl dX5_doDeed_33 ?_
    refine lv_aload_n hx hb dX5_doDeed_36 rfl (lv_at hl 0 rfl) ?_
    refine z_get S0 hC (ci := 5) (C := RX5) (T := TX5) (N := 7) (v := .ref oP.1) jX5_doDeed_X5 0 rfl rfl 4 (by decide) kX5_doDeed_32 rfl rfl dX5_doDeed_37 ?_
    refine z_getN S0 hC (host := "ZoneSampler") (ci := 1) (C := RX1) (T := TX1) (N := 14) (v := .int Pdk) jX5_doDeed_X1 7 rfl rfl 12 (by decide) (by decide +kernel : Cond.fieldLinkNest RX5 228 "ZoneSampler$Pad" "deedKey" "I" "ZoneSampler" ∈ zNW) rfl rfl dX5_doDeed_40 ?_
    refine lv_aload_n hx hb dX5_doDeed_43 rfl (lv_at hl 0 rfl) ?_
    refine z_get S0 hC (ci := 5) (C := RX5) (T := TX5) (N := 7) (v := .ref oP.1) jX5_doDeed_X5 0 rfl rfl 4 (by decide) kX5_doDeed_32 rfl rfl dX5_doDeed_44 ?_
    refine z_getN S0 hC (host := "ZoneSampler") (ci := 1) (C := RX1) (T := TX1) (N := 14) (v := .int Pam) jX5_doDeed_X1 7 rfl rfl 13 (by decide) (by decide +kernel : Cond.fieldLinkNest RX5 231 "ZoneSampler$Pad" "amount" "I" "ZoneSampler" ∈ zNW) rfl rfl dX5_doDeed_47 ?_
    obtain ⟨r2, hr2, hf⟩ := z_bind hf
    refine z_calli (z_runV (n := 2) (rest := []) (As := [.int Pdk, .int Pam]) S0 hC (c_X2_strike l G c3 oN ((Nzr, Nzf), (Nvr, Nvf), Nnm, Npd, Nnt) Pdk Pam hr2) [1, 2, 3, 4, 5, 6] (by decide) rfl gX5_doDeed_X2_strike rfl rfl rfl (by decide +kernel) ⟨Nat.le_of_ble_eq_true rfl, Nat.le_of_ble_eq_true rfl⟩ (ci := 2) (q0 := 1) rfl rfl rfl hl.1 rfl (Nat.le_of_ble_eq_true rfl) dX5_doDeed_50) hC [1, 2, 3, 4, 5, 6] [0, 7, 8] [0, 3, 4, 5, 6, 7, 8, 1, 2] rfl (wr := (zwZ oZ oN oT oK oH oP oV Zss ++ zwP c3.2.1 oP (Psg, Pln, Pat, Pvl, Plo, Phi, Pso, Pha, Pla, Pgr, Pro, Pde, Pdk, Pam))) rfl (by decide) (by decide) (ws2 := (zwZ oZ oN oT oK oH oP oV Zss ++ zwS c3.1 oN ((Nzr, Nzf), (r2.2.1, r2.2.2.1), r2.2.2.2.1, Npd, r2.2.2.2.2) ++ zwP c3.2.1 oP (Psg, Pln, Pat, Pvl, Plo, Phi, Pso, Pha, Pla, Pgr, Pro, Pde, Pdk, Pam))) rfl (by decide) (fun H locs hC => ?_)
    refine lv_pop hx hb dX5_doDeed_53 rfl ?_
    refine lv_goto (tgt := 101) hx hb dX5_doDeed_54 (by decide) ?_
    obtain ⟨e1, e2, e3, e4, e5⟩ := z_s5 hf
    subst e1
    subst e2
    subst e3
    subst e4
    subst e5
    exact z_vret S0 hr hlk hC dX5_doDeed_101
  replace hf := z_neg cd1 hf
  by_cases cd3 : Pde = 111
  · replace hf := z_pos cd3 hf
    refine lv_tableIn (off := 50) (tgt := 57) hx hb dX5_doDeed_7 (by rw [cd3]; decide) (by rw [cd3]; decide) (by rw [cd3]; rfl) (by decide) ?_
    refine lv_aload_n hx hb dX5_doDeed_57 rfl (lv_at hl 0 rfl) ?_
    refine z_get S0 hC (ci := 5) (C := RX5) (T := TX5) (N := 7) (v := .ref oN.1) jX5_doDeed_X5 0 rfl rfl 0 (by decide) kX5_doDeed_10 rfl rfl dX5_doDeed_58 ?_
    refine lv_aload_n hx hb dX5_doDeed_61 rfl (lv_at hl 0 rfl) ?_
    refine z_get S0 hC (ci := 5) (C := RX5) (T := TX5) (N := 7) (v := .ref oP.1) jX5_doDeed_X5 0 rfl rfl 4 (by decide) kX5_doDeed_32 rfl rfl dX5_doDeed_62 ?_
    refine z_getN S0 hC (host := "ZoneSampler") (ci := 1) (C := RX1) (T := TX1) (N := 14) (v := .int Pdk) jX5_doDeed_X1 7 rfl rfl 12 (by decide) (by decide +kernel : Cond.fieldLinkNest RX5 228 "ZoneSampler$Pad" "deedKey" "I" "ZoneSampler" ∈ zNW) rfl rfl dX5_doDeed_65 ?_
    obtain ⟨r4, hr4, hf⟩ := z_bind hf
    refine z_calli (z_runV (n := 1) (rest := []) (As := [.int Pdk]) S0 hC (c_X2_release l G c3 oN ((Nzr, Nzf), (Nvr, Nvf), Nnm, Npd, Nnt) Pdk hr4) [1, 2, 3, 4, 5, 6] (by decide) rfl gX5_doDeed_X2_release rfl rfl rfl (by decide +kernel) ⟨Nat.le_of_ble_eq_true rfl, Nat.le_of_ble_eq_true rfl⟩ (ci := 2) (q0 := 1) rfl rfl rfl hl.1 rfl (Nat.le_of_ble_eq_true rfl) dX5_doDeed_68) hC [1, 2, 3, 4, 5, 6] [0, 7, 8] [0, 3, 4, 5, 6, 7, 8, 1, 2] rfl (wr := (zwZ oZ oN oT oK oH oP oV Zss ++ zwP c3.2.1 oP (Psg, Pln, Pat, Pvl, Plo, Phi, Pso, Pha, Pla, Pgr, Pro, Pde, Pdk, Pam))) rfl (by decide) (by decide) (ws2 := (zwZ oZ oN oT oK oH oP oV Zss ++ zwS c3.1 oN ((Nzr, Nzf), (Nvr, r4.2), Nnm, Npd, Nnt) ++ zwP c3.2.1 oP (Psg, Pln, Pat, Pvl, Plo, Phi, Pso, Pha, Pla, Pgr, Pro, Pde, Pdk, Pam))) rfl (by decide) (fun H locs hC => ?_)
    refine lv_pop hx hb dX5_doDeed_71 rfl ?_
    refine lv_goto (tgt := 101) hx hb dX5_doDeed_72 (by decide) ?_
    obtain ⟨e1, e2, e3, e4, e5⟩ := z_s5 hf
    subst e1
    subst e2
    subst e3
    subst e4
    subst e5
    exact z_vret S0 hr hlk hC dX5_doDeed_101
  replace hf := z_neg cd3 hf
  by_cases cd5 : Pde = 112
  · replace hf := z_pos cd5 hf
    refine lv_tableIn (off := 68) (tgt := 75) hx hb dX5_doDeed_7 (by rw [cd5]; decide) (by rw [cd5]; decide) (by rw [cd5]; rfl) (by decide) ?_
    refine lv_aload_n hx hb dX5_doDeed_75 rfl (lv_at hl 0 rfl) ?_
    refine z_get S0 hC (ci := 5) (C := RX5) (T := TX5) (N := 7) (v := .ref oN.1) jX5_doDeed_X5 0 rfl rfl 0 (by decide) kX5_doDeed_10 rfl rfl dX5_doDeed_76 ?_
    obtain ⟨r6, hr6, hf⟩ := z_bind hf
    refine z_calli (z_runV (n := 0) (rest := []) (As := []) S0 hC (c_X2_tread l G c3 oN ((Nzr, Nzf), (Nvr, Nvf), Nnm, Npd, Nnt) hr6) [1, 2, 3, 4, 5, 6] (by decide) rfl gX5_doDeed_X2_tread rfl rfl rfl (by decide +kernel) ⟨Nat.le_of_ble_eq_true rfl, Nat.le_of_ble_eq_true rfl⟩ (ci := 2) (q0 := 1) rfl rfl rfl hl.1 rfl (Nat.le_of_ble_eq_true rfl) dX5_doDeed_79) hC [1, 2, 3, 4, 5, 6] [0, 7, 8] [0, 3, 4, 5, 6, 7, 8, 1, 2] rfl (wr := (zwZ oZ oN oT oK oH oP oV Zss ++ zwP c3.2.1 oP (Psg, Pln, Pat, Pvl, Plo, Phi, Pso, Pha, Pla, Pgr, Pro, Pde, Pdk, Pam))) rfl (by decide) (by decide) (ws2 := (zwZ oZ oN oT oK oH oP oV Zss ++ zwS c3.1 oN ((Nzr, Nzf), (Nvr, r6.2.1), Nnm, r6.2.2, Nnt) ++ zwP c3.2.1 oP (Psg, Pln, Pat, Pvl, Plo, Phi, Pso, Pha, Pla, Pgr, Pro, Pde, Pdk, Pam))) rfl (by decide) (fun H locs hC => ?_)
    refine lv_pop hx hb dX5_doDeed_82 rfl ?_
    refine lv_goto (tgt := 101) hx hb dX5_doDeed_83 (by decide) ?_
    obtain ⟨e1, e2, e3, e4, e5⟩ := z_s5 hf
    subst e1
    subst e2
    subst e3
    subst e4
    subst e5
    exact z_vret S0 hr hlk hC dX5_doDeed_101
  replace hf := z_neg cd5 hf
  have D7 : W p l e ⟨5, 0, 0, 116⟩ s m args below meth c H locs 0 0 (MQ below (zPost G (zwZ oZ oN oT oK oH oP oV Zss ++ zwS c3.1 oN ((Nzr, Nzf), (Nvr', Nvf'), Nnm', Npd', Nnt') ++ zwP c3.2.1 oP (Psg, Pln, Pat, Pvl, Plo, Phi, Pso, Pha, Pla, Pgr, Pro, Pde, Pdk, Pam)) none A) args s 0 0 A) (F0 m 86 ls []) := by
    refine lv_aload_n hx hb dX5_doDeed_86 rfl (lv_at hl 0 rfl) ?_
    refine z_get S0 hC (ci := 5) (C := RX5) (T := TX5) (N := 7) (v := .ref oN.1) jX5_doDeed_X5 0 rfl rfl 0 (by decide) kX5_doDeed_10 rfl rfl dX5_doDeed_87 ?_
    refine lv_aload_n hx hb dX5_doDeed_90 rfl (lv_at hl 0 rfl) ?_
    refine z_get S0 hC (ci := 5) (C := RX5) (T := TX5) (N := 7) (v := .ref oP.1) jX5_doDeed_X5 0 rfl rfl 4 (by decide) kX5_doDeed_32 rfl rfl dX5_doDeed_91 ?_
    refine z_getN S0 hC (host := "ZoneSampler") (ci := 1) (C := RX1) (T := TX1) (N := 14) (v := .int Pam) jX5_doDeed_X1 7 rfl rfl 13 (by decide) (by decide +kernel : Cond.fieldLinkNest RX5 231 "ZoneSampler$Pad" "amount" "I" "ZoneSampler" ∈ zNW) rfl rfl dX5_doDeed_94 ?_
    obtain ⟨r7, hr7, hf⟩ := z_bind hf
    refine z_calli (z_runV (n := 1) (rest := []) (As := [.int Pam]) S0 hC (c_X2_runTicks l G c3 oN ((Nzr, Nzf), (Nvr, Nvf), Nnm, Npd, Nnt) Pam hr7) [1, 2, 3, 4, 5, 6] (by decide) rfl gX5_doDeed_X2_runTicks rfl rfl rfl (by decide +kernel) ⟨Nat.le_of_ble_eq_true rfl, Nat.le_of_ble_eq_true rfl⟩ (ci := 2) (q0 := 1) rfl rfl rfl hl.1 rfl (Nat.le_of_ble_eq_true rfl) dX5_doDeed_97) hC [1, 2, 3, 4, 5, 6] [0, 7, 8] [0, 3, 4, 5, 6, 7, 8, 1, 2] rfl (wr := (zwZ oZ oN oT oK oH oP oV Zss ++ zwP c3.2.1 oP (Psg, Pln, Pat, Pvl, Plo, Phi, Pso, Pha, Pla, Pgr, Pro, Pde, Pdk, Pam))) rfl (by decide) (by decide) (ws2 := (zwZ oZ oN oT oK oH oP oV Zss ++ zwS c3.1 oN ((Nzr, Nzf), (r7.2.1, r7.2.2.1), r7.2.2.2, Npd, Nnt) ++ zwP c3.2.1 oP (Psg, Pln, Pat, Pvl, Plo, Phi, Pso, Pha, Pla, Pgr, Pro, Pde, Pdk, Pam))) rfl (by decide) (fun H locs hC => ?_)
    refine lv_pop hx hb dX5_doDeed_100 rfl ?_
    obtain ⟨e1, e2, e3, e4, e5⟩ := z_s5 hf
    subst e1
    subst e2
    subst e3
    subst e4
    subst e5
    exact z_vret S0 hr hlk hC dX5_doDeed_101
  have e110_7 : (Pde).toInt ≠ 110 := fun h => cd1 (Int32.toInt_inj.mp (h.trans (by decide)))
  have e111_7 : (Pde).toInt ≠ 111 := fun h => cd3 (Int32.toInt_inj.mp (h.trans (by decide)))
  have e112_7 : (Pde).toInt ≠ 112 := fun h => cd5 (Int32.toInt_inj.mp (h.trans (by decide)))
  exact lv_tableOut (tgt := 86) hx hb dX5_doDeed_7 (by omega) (by decide) D7

-- X5 play
def f_X5_play_53 (y2 : Int32) (Nzr : Int32) (Nzf : (Nat → Int32)) (Psg : (Nat → Int32)) (Pln : Int32) : Nat → Int32 → Int32 → (Nat → Int32) → (Nat → Int32) → Int32 → Int32 → Int32 → Int32 → Int32 → Int32 → Int32 → Option (Int32 × Int32 × (Nat → Int32) × (Nat → Int32) × Int32 × Int32 × Int32 × Int32 × Int32 × Int32 × Int32)
  | 0, _, _, _, _, _, _, _, _, _, _, _ => none
  | fu + 1, y3, Nvr, Nvf, Nnm, Npd, Nnt, Pat, Pvl, Pde, Pdk, Pam =>
    if y2 ≤ y3 then
      some (y3, Nvr, Nvf, Nnm, Npd, Nnt, Pat, Pvl, Pde, Pdk, Pam)
    else
      (f_X1_readDeed Psg Pln Pat Pvl Pde Pdk Pam).bind fun r9 => Option.bind (α := Int32 × (Nat → Int32) × (Nat → Int32) × Int32 × Int32) (
        if r9.1 = 0 then
          some (Nvr, Nvf, Nnm, Npd, Nnt)
        else
          (f_X5_doDeed Nzr Nzf Nvr Nvf Nnm Npd Nnt r9.2.2.2.1 r9.2.2.2.2.1 r9.2.2.2.2.2).bind fun r13 => some (r13.1, r13.2.1, r13.2.2.1, r13.2.2.2.1, r13.2.2.2.2)
      ) fun t11 =>
        (f_X1_readSign Psg Pln r9.2.1 59).bind fun r12 => f_X5_play_53 y2 Nzr Nzf Psg Pln fu (y3 + 1) t11.1 t11.2.1 t11.2.2.1 t11.2.2.2.1 t11.2.2.2.2 r12.2 r9.2.2.1 r9.2.2.2.1 r9.2.2.2.2.1 r9.2.2.2.2.2

theorem f_X5_play_53_s (y2 : Int32) (Nzr : Int32) (Nzf : (Nat → Int32)) (Psg : (Nat → Int32)) (Pln : Int32) (y3 : Int32) (Nvr : Int32) (Nvf : (Nat → Int32)) (Nnm : (Nat → Int32)) (Npd : Int32) (Nnt : Int32) (Pat : Int32) (Pvl : Int32) (Pde : Int32) (Pdk : Int32) (Pam : Int32) (fu : Nat) : f_X5_play_53 y2 Nzr Nzf Psg Pln (fu + 1) y3 Nvr Nvf Nnm Npd Nnt Pat Pvl Pde Pdk Pam = (
    if y2 ≤ y3 then
      some (y3, Nvr, Nvf, Nnm, Npd, Nnt, Pat, Pvl, Pde, Pdk, Pam)
    else
      (f_X1_readDeed Psg Pln Pat Pvl Pde Pdk Pam).bind fun r9 => Option.bind (α := Int32 × (Nat → Int32) × (Nat → Int32) × Int32 × Int32) (
        if r9.1 = 0 then
          some (Nvr, Nvf, Nnm, Npd, Nnt)
        else
          (f_X5_doDeed Nzr Nzf Nvr Nvf Nnm Npd Nnt r9.2.2.2.1 r9.2.2.2.2.1 r9.2.2.2.2.2).bind fun r13 => some (r13.1, r13.2.1, r13.2.2.1, r13.2.2.2.1, r13.2.2.2.2)
      ) fun t11 =>
        (f_X1_readSign Psg Pln r9.2.1 59).bind fun r12 => f_X5_play_53 y2 Nzr Nzf Psg Pln fu (y3 + 1) t11.1 t11.2.1 t11.2.2.1 t11.2.2.2.1 t11.2.2.2.2 r12.2 r9.2.2.1 r9.2.2.2.1 r9.2.2.2.2.1 r9.2.2.2.2.2
    ) := rfl

def f_X5_play (Nzr : Int32) (Nzf : (Nat → Int32)) (Nvr : Int32) (Nvf : (Nat → Int32)) (Nnm : (Nat → Int32)) (Npd : Int32) (Nnt : Int32) (Hhs : zHs) (Psg : (Nat → Int32)) (Pln : Int32) (Pat : Int32) (Pvl : Int32) (Plo : Int32) (Phi : Int32) (Pso : Int32) (Pha : Int32) (Pla : Int32) (Pgr : Int32) (Pro : Int32) (Pde : Int32) (Pdk : Int32) (Pam : Int32) : Option (Int32 × Int32 × (Nat → Int32) × (Nat → Int32) × Int32 × Int32 × zHs × Int32 × Int32 × Int32 × Int32 × Int32 × Int32 × Int32 × Int32 × Int32 × Int32 × Int32 × Int32 × Int32) :=
  (f_X1_faultAs Psg Pln Pat Pvl Plo Phi Pso Pha Pla Pgr Pro Pde Pdk Pam 1).bind fun r1 => if r1.1 = (-4) then
    (f_X0_record Hhs Nzr Nzf Nvr Nvf Nnm Npd Nnt).bind fun r3 => (f_X2_number Nnm 1).bind fun r4 => (f_X1_items Psg Pln).bind fun r5 => (f_X1_rewind r1.2.1).bind fun r6 => (f_X5_play_53 r5 Nzr Nzf Psg Pln zF 0 Nvr Nvf Nnm Npd Nnt r6 r1.2.2.1 r1.2.2.2.2.2.2.2.2.2.2.1 r1.2.2.2.2.2.2.2.2.2.2.2.1 r1.2.2.2.2.2.2.2.2.2.2.2.2).bind fun t14 =>
      (f_X1_empty Pln).bind fun r15 => (f_X2_number t14.2.2.2.1 1).bind fun r16 => some ((r16 - r4), t14.2.1, t14.2.2.1, t14.2.2.2.1, t14.2.2.2.2.1, t14.2.2.2.2.2.1, r3, r15, t14.2.2.2.2.2.2.1, t14.2.2.2.2.2.2.2.1, r1.2.2.2.1, r1.2.2.2.2.1, r1.2.2.2.2.2.1, r1.2.2.2.2.2.2.1, r1.2.2.2.2.2.2.2.1, r1.2.2.2.2.2.2.2.2.1, r1.2.2.2.2.2.2.2.2.2.1, t14.2.2.2.2.2.2.2.2.1, t14.2.2.2.2.2.2.2.2.2.1, t14.2.2.2.2.2.2.2.2.2.2)
  else
    some ((-2), Nvr, Nvf, Nnm, Npd, Nnt, Hhs, Pln, r1.2.1, r1.2.2.1, r1.2.2.2.1, r1.2.2.2.2.1, r1.2.2.2.2.2.1, r1.2.2.2.2.2.2.1, r1.2.2.2.2.2.2.2.1, r1.2.2.2.2.2.2.2.2.1, r1.2.2.2.2.2.2.2.2.2.1, r1.2.2.2.2.2.2.2.2.2.2.1, r1.2.2.2.2.2.2.2.2.2.2.2.1, r1.2.2.2.2.2.2.2.2.2.2.2.2)

theorem kX5_play_32 : Cond.fieldLink RX5 32 "ZoneSampler" "pad" "LZoneSampler$Pad;" ∈ wsX5_play := by decide +kernel
theorem kX5_play_25 : Cond.fieldLink RX5 25 "ZoneSampler" "history" "LZoneSampler$History;" ∈ wsX5_play := by decide +kernel
theorem kX5_play_10 : Cond.fieldLink RX5 10 "ZoneSampler" "now" "LZoneSampler$State;" ∈ wsX5_play := by decide +kernel
theorem jX5_play_X5 : ∀ w ∈ u_ws RX5 TX5 7, w ∈ wsX5_play := by decide +kernel
set_option maxHeartbeats 4000000 in
set_option maxRecDepth 100000 in
theorem c_X5_play (l : Launch) (G : va_G) (c3 : zT3) (oZ : Nat) (oN oT oK : zR6) (oH : Nat) (oP oV : zR2) (BZ : Int32) (BN : zSt) (BH : zHs) (BP : zPd) {r : Int32} {Nvr' : Int32} {Nvf' : (Nat → Int32)} {Nnm' : (Nat → Int32)} {Npd' : Int32} {Nnt' : Int32} {Hhs' : zHs} {Pln' : Int32} {Pat' : Int32} {Pvl' : Int32} {Plo' : Int32} {Phi' : Int32} {Pso' : Int32} {Pha' : Int32} {Pla' : Int32} {Pgr' : Int32} {Pro' : Int32} {Pde' : Int32} {Pdk' : Int32} {Pam' : Int32} (hf : f_X5_play BN.1.1 BN.1.2 BN.2.1.1 BN.2.1.2 BN.2.2.1 BN.2.2.2.1 BN.2.2.2.2 BH BP.1 BP.2.1 BP.2.2.1 BP.2.2.2.1 BP.2.2.2.2.1 BP.2.2.2.2.2.1 BP.2.2.2.2.2.2.1 BP.2.2.2.2.2.2.2.1 BP.2.2.2.2.2.2.2.2.1 BP.2.2.2.2.2.2.2.2.2.1 BP.2.2.2.2.2.2.2.2.2.2.1 BP.2.2.2.2.2.2.2.2.2.2.2.1 BP.2.2.2.2.2.2.2.2.2.2.2.2.1 BP.2.2.2.2.2.2.2.2.2.2.2.2.2 = some (r, Nvr', Nvf', Nnm', Npd', Nnt', Hhs', Pln', Pat', Pvl', Plo', Phi', Pso', Pha', Pla', Pgr', Pro', Pde', Pdk', Pam')) : zM l yX5_play wsX5_play ⟨6, 0, 0, 136⟩ G c3 (zwZ oZ oN oT oK oH oP oV BZ ++ zwS c3.1 oN ((BN.1.1, BN.1.2), (BN.2.1.1, BN.2.1.2), BN.2.2.1, BN.2.2.2.1, BN.2.2.2.2) ++ zwH c3.1 oH BH ++ zwP c3.2.1 oP (BP.1, BP.2.1, BP.2.2.1, BP.2.2.2.1, BP.2.2.2.2.1, BP.2.2.2.2.2.1, BP.2.2.2.2.2.2.1, BP.2.2.2.2.2.2.2.1, BP.2.2.2.2.2.2.2.2.1, BP.2.2.2.2.2.2.2.2.2.1, BP.2.2.2.2.2.2.2.2.2.2.1, BP.2.2.2.2.2.2.2.2.2.2.2.1, BP.2.2.2.2.2.2.2.2.2.2.2.2.1, BP.2.2.2.2.2.2.2.2.2.2.2.2.2)) [.ref oZ] (some (.int r)) (zwZ oZ oN oT oK oH oP oV BZ ++ zwS c3.1 oN ((BN.1.1, BN.1.2), (Nvr', Nvf'), Nnm', Npd', Nnt') ++ zwH c3.1 oH Hhs' ++ zwP c3.2.1 oP (BP.1, Pln', Pat', Pvl', Plo', Phi', Pso', Pha', Pla', Pgr', Pro', Pde', Pdk', Pam')) := by
  obtain ⟨Zss, rfl⟩ : ∃ y, y = BZ := ⟨_, rfl⟩
  obtain ⟨⟨Nzr, Nzf⟩, ⟨Nvr, Nvf⟩, Nnm, Npd, Nnt⟩ := BN
  obtain ⟨Hhs, rfl⟩ : ∃ y, y = BH := ⟨_, rfl⟩
  obtain ⟨Psg, Pln, Pat, Pvl, Plo, Phi, Pso, Pha, Pla, Pgr, Pro, Pde, Pdk, Pam⟩ := BP
  have hf : f_X5_play Nzr Nzf Nvr Nvf Nnm Npd Nnt Hhs Psg Pln Pat Pvl Plo Phi Pso Pha Pla Pgr Pro Pde Pdk Pam = some (r, Nvr', Nvf', Nnm', Npd', Nnt', Hhs', Pln', Pat', Pvl', Plo', Phi', Pso', Pha', Pla', Pgr', Pro', Pde', Pdk', Pam') := hf
  show zM l yX5_play wsX5_play ⟨6, 0, 0, 136⟩ G c3 (zwZ oZ oN oT oK oH oP oV Zss ++ zwS c3.1 oN ((Nzr, Nzf), (Nvr, Nvf), Nnm, Npd, Nnt) ++ zwH c3.1 oH Hhs ++ zwP c3.2.1 oP (Psg, Pln, Pat, Pvl, Plo, Phi, Pso, Pha, Pla, Pgr, Pro, Pde, Pdk, Pam)) [.ref oZ] (some (.int r)) (zwZ oZ oN oT oK oH oP oV Zss ++ zwS c3.1 oN ((Nzr, Nzf), (Nvr', Nvf'), Nnm', Npd', Nnt') ++ zwH c3.1 oH Hhs' ++ zwP c3.2.1 oP (Psg, Pln', Pat', Pvl', Plo', Phi', Pso', Pha', Pla', Pgr', Pro', Pde', Pdk', Pam'))
  refine zM.of (cc := cX5_play) (maxL := 4) (ret := (some .int)) (by decide) rfl (Nat.le_of_ble_eq_true rfl) ?_
  intro p e s m args below meth c A ls S0 hr hlk hC hl
  have S0 : CallFix p m c cX5_play 4 s args wsX5_play RX5 := S0
  have hl : lv_has ls 4 [(0, .ref oZ)] := hl
  have hx := S0.1
  have hb := S0.2.1
  obtain ⟨H, hH⟩ : ∃ y, y = s.heap := ⟨_, rfl⟩
  rw [← hH] at hC ⊢
  obtain ⟨locs, hlo⟩ : ∃ y : List Loc, y = [] := ⟨_, rfl⟩
  rw [← hlo] at hC ⊢
  clear hH hlo
  unfold f_X5_play at hf
  refine lv_aload_n hx hb dX5_play_0 rfl (lv_at hl 0 rfl) ?_
  refine z_get S0 hC (ci := 5) (C := RX5) (T := TX5) (N := 7) (v := .ref oP.1) jX5_play_X5 0 rfl rfl 4 (by decide) kX5_play_32 rfl rfl dX5_play_1 ?_
  refine lv_iconst (v := 1) hx hb dX5_play_4 (by decide) ?_
  obtain ⟨r1, hr1, hf⟩ := z_bind hf
  refine z_calli (z_runV (n := 1) (rest := []) (As := [.int 1]) S0 hC (c_X1_faultAs l G c3 oP (Psg, Pln, Pat, Pvl, Plo, Phi, Pso, Pha, Pla, Pgr, Pro, Pde, Pdk, Pam) 1 hr1) [32, 33] (by decide) rfl gX5_play_X1_faultAs rfl rfl rfl (by decide +kernel) ⟨Nat.le_of_ble_eq_true rfl, Nat.le_of_ble_eq_true rfl⟩ (ci := 1) (q0 := 32) rfl rfl rfl hl.1 rfl (Nat.le_of_ble_eq_true rfl) dX5_play_5) hC [32, 33] [0, 1, 2, 3, 4, 5, 6, 7, 8, 9, 10, 11, 12, 13, 14, 15, 16, 17, 18, 19, 20, 21, 22, 23, 24, 25, 26, 27, 28, 29, 30, 31] [0, 1, 2, 3, 4, 5, 6, 7, 8, 9, 10, 11, 12, 13, 14, 15, 16, 17, 18, 19, 20, 21, 22, 23, 24, 25, 26, 27, 28, 29, 30, 31, 32, 33] rfl (wr := (zwZ oZ oN oT oK oH oP oV Zss ++ zwS c3.1 oN ((Nzr, Nzf), (Nvr, Nvf), Nnm, Npd, Nnt) ++ zwH c3.1 oH Hhs)) rfl (by decide) (by decide) (ws2 := (zwZ oZ oN oT oK oH oP oV Zss ++ zwS c3.1 oN ((Nzr, Nzf), (Nvr, Nvf), Nnm, Npd, Nnt) ++ zwH c3.1 oH Hhs ++ zwP c3.2.1 oP (Psg, Pln, r1.2.1, r1.2.2.1, r1.2.2.2.1, r1.2.2.2.2.1, r1.2.2.2.2.2.1, r1.2.2.2.2.2.2.1, r1.2.2.2.2.2.2.2.1, r1.2.2.2.2.2.2.2.2.1, r1.2.2.2.2.2.2.2.2.2.1, r1.2.2.2.2.2.2.2.2.2.2.1, r1.2.2.2.2.2.2.2.2.2.2.2.1, r1.2.2.2.2.2.2.2.2.2.2.2.2))) rfl (by decide) (fun H locs hC => ?_)
  refine lv_bipush (v := (-4)) hx hb dX5_play_8 (by decide) ?_
  refine lv_icmp_eq (tgt := 16) hx hb dX5_play_10 (by decide) (fun cd2 => ?_) (fun cd2 => ?_)
  · replace hf := z_pos cd2 hf
    refine lv_aload_n hx hb dX5_play_16 rfl (lv_at hl 0 rfl) ?_
    refine z_get S0 hC (ci := 5) (C := RX5) (T := TX5) (N := 7) (v := .ref oH) jX5_play_X5 0 rfl rfl 3 (by decide) kX5_play_25 rfl rfl dX5_play_17 ?_
    refine lv_aload_n hx hb dX5_play_20 rfl (lv_at hl 0 rfl) ?_
    refine z_get S0 hC (ci := 5) (C := RX5) (T := TX5) (N := 7) (v := .ref oN.1) jX5_play_X5 0 rfl rfl 0 (by decide) kX5_play_10 rfl rfl dX5_play_21 ?_
    obtain ⟨r3, hr3, hf⟩ := z_bind hf
    refine z_callv (z_runV (n := 1) (rest := []) (As := [.ref oN.1]) S0 hC (c_X0_record l G c3 oH Hhs oN ((Nzr, Nzf), (Nvr, Nvf), Nnm, Npd, Nnt) hr3) [7, 8, 9, 10, 11, 12, 13, 14, 15, 16, 17, 18, 19, 20, 21, 22, 23, 24, 25, 26, 27, 28, 29, 30, 31, 1, 2, 3, 4, 5, 6] (by decide) rfl gX5_play_X0_record rfl rfl rfl (by decide +kernel) ⟨Nat.le_of_ble_eq_true rfl, Nat.le_of_ble_eq_true rfl⟩ (ci := 0) (q0 := 7) rfl rfl rfl hl.1 rfl (Nat.le_of_ble_eq_true rfl) dX5_play_24) hC [7, 8, 9, 10, 11, 12, 13, 14, 15, 16, 17, 18, 19, 20, 21, 22, 23, 24, 25, 26, 27, 28, 29, 30, 31, 1, 2, 3, 4, 5, 6] [0, 32, 33] [0, 28, 29, 30, 31, 32, 33, 3, 4, 5, 6, 7, 8, 9, 10, 11, 12, 13, 14, 15, 16, 17, 18, 19, 20, 21, 22, 23, 24, 25, 26, 27, 1, 2] rfl (wr := (zwZ oZ oN oT oK oH oP oV Zss ++ zwP c3.2.1 oP (Psg, Pln, r1.2.1, r1.2.2.1, r1.2.2.2.1, r1.2.2.2.2.1, r1.2.2.2.2.2.1, r1.2.2.2.2.2.2.1, r1.2.2.2.2.2.2.2.1, r1.2.2.2.2.2.2.2.2.1, r1.2.2.2.2.2.2.2.2.2.1, r1.2.2.2.2.2.2.2.2.2.2.1, r1.2.2.2.2.2.2.2.2.2.2.2.1, r1.2.2.2.2.2.2.2.2.2.2.2.2))) rfl (by decide) (by decide) (ws2 := (zwZ oZ oN oT oK oH oP oV Zss ++ zwS c3.1 oN ((Nzr, Nzf), (Nvr, Nvf), Nnm, Npd, Nnt) ++ zwH c3.1 oH r3 ++ zwP c3.2.1 oP (Psg, Pln, r1.2.1, r1.2.2.1, r1.2.2.2.1, r1.2.2.2.2.1, r1.2.2.2.2.2.1, r1.2.2.2.2.2.2.1, r1.2.2.2.2.2.2.2.1, r1.2.2.2.2.2.2.2.2.1, r1.2.2.2.2.2.2.2.2.2.1, r1.2.2.2.2.2.2.2.2.2.2.1, r1.2.2.2.2.2.2.2.2.2.2.2.1, r1.2.2.2.2.2.2.2.2.2.2.2.2))) rfl (by decide) (fun H locs hC => ?_)
    refine lv_aload_n hx hb dX5_play_27 rfl (lv_at hl 0 rfl) ?_
    refine z_get S0 hC (ci := 5) (C := RX5) (T := TX5) (N := 7) (v := .ref oN.1) jX5_play_X5 0 rfl rfl 0 (by decide) kX5_play_10 rfl rfl dX5_play_28 ?_
    refine lv_iconst (v := 1) hx hb dX5_play_31 (by decide) ?_
    obtain ⟨r4, hr4, hf⟩ := z_bind hf
    refine z_callPi (z_runV (n := 1) (rest := []) (As := [.int 1]) S0 hC (c_X2_number l G c3 oN ((Nzr, Nzf), (Nvr, Nvf), Nnm, Npd, Nnt) 1 hr4) [1, 2, 3, 4, 5, 6] (by decide) rfl gX5_play_X2_number rfl rfl rfl (by decide +kernel) ⟨Nat.le_of_ble_eq_true rfl, Nat.le_of_ble_eq_true rfl⟩ (ci := 2) (q0 := 1) rfl rfl rfl hl.1 rfl (Nat.le_of_ble_eq_true rfl) dX5_play_32) hC [1, 2, 3, 4, 5, 6] rfl (fun H locs hC => ?_)
    refine lv_istore_n (lv' := [(1, .int r4), (0, .ref oZ)]) hx hb dX5_play_35 rfl hl (by decide) rfl (fun ls hl => ?_)
    refine lv_aload_n hx hb dX5_play_36 rfl (lv_at hl 1 rfl) ?_
    refine z_get S0 hC (ci := 5) (C := RX5) (T := TX5) (N := 7) (v := .ref oP.1) jX5_play_X5 0 rfl rfl 4 (by decide) kX5_play_32 rfl rfl dX5_play_37 ?_
    obtain ⟨r5, hr5, hf⟩ := z_bind hf
    refine z_callPi (z_runV (n := 0) (rest := []) (As := []) S0 hC (c_X1_items l G c3 oP (Psg, Pln, r1.2.1, r1.2.2.1, r1.2.2.2.1, r1.2.2.2.2.1, r1.2.2.2.2.2.1, r1.2.2.2.2.2.2.1, r1.2.2.2.2.2.2.2.1, r1.2.2.2.2.2.2.2.2.1, r1.2.2.2.2.2.2.2.2.2.1, r1.2.2.2.2.2.2.2.2.2.2.1, r1.2.2.2.2.2.2.2.2.2.2.2.1, r1.2.2.2.2.2.2.2.2.2.2.2.2) hr5) [32, 33] (by decide) rfl gX5_play_X1_items rfl rfl rfl (by decide +kernel) ⟨Nat.le_of_ble_eq_true rfl, Nat.le_of_ble_eq_true rfl⟩ (ci := 1) (q0 := 32) rfl rfl rfl hl.1 rfl (Nat.le_of_ble_eq_true rfl) dX5_play_40) hC [32, 33] rfl (fun H locs hC => ?_)
    refine lv_istore_n (lv' := [(2, .int r5), (1, .int r4), (0, .ref oZ)]) hx hb dX5_play_43 rfl hl (by decide) rfl (fun ls hl => ?_)
    refine lv_aload_n hx hb dX5_play_44 rfl (lv_at hl 2 rfl) ?_
    refine z_get S0 hC (ci := 5) (C := RX5) (T := TX5) (N := 7) (v := .ref oP.1) jX5_play_X5 0 rfl rfl 4 (by decide) kX5_play_32 rfl rfl dX5_play_45 ?_
    obtain ⟨r6, hr6, hf⟩ := z_bind hf
    refine z_callv (z_runV (n := 0) (rest := []) (As := []) S0 hC (c_X1_rewind l G c3 oP (Psg, Pln, r1.2.1, r1.2.2.1, r1.2.2.2.1, r1.2.2.2.2.1, r1.2.2.2.2.2.1, r1.2.2.2.2.2.2.1, r1.2.2.2.2.2.2.2.1, r1.2.2.2.2.2.2.2.2.1, r1.2.2.2.2.2.2.2.2.2.1, r1.2.2.2.2.2.2.2.2.2.2.1, r1.2.2.2.2.2.2.2.2.2.2.2.1, r1.2.2.2.2.2.2.2.2.2.2.2.2) hr6) [32, 33] (by decide) rfl gX5_play_X1_rewind rfl rfl rfl (by decide +kernel) ⟨Nat.le_of_ble_eq_true rfl, Nat.le_of_ble_eq_true rfl⟩ (ci := 1) (q0 := 32) rfl rfl rfl hl.1 rfl (Nat.le_of_ble_eq_true rfl) dX5_play_48) hC [32, 33] [0, 1, 2, 3, 4, 5, 6, 7, 8, 9, 10, 11, 12, 13, 14, 15, 16, 17, 18, 19, 20, 21, 22, 23, 24, 25, 26, 27, 28, 29, 30, 31] [0, 1, 2, 3, 4, 5, 6, 7, 8, 9, 10, 11, 12, 13, 14, 15, 16, 17, 18, 19, 20, 21, 22, 23, 24, 25, 26, 27, 28, 29, 30, 31, 32, 33] rfl (wr := (zwZ oZ oN oT oK oH oP oV Zss ++ zwS c3.1 oN ((Nzr, Nzf), (Nvr, Nvf), Nnm, Npd, Nnt) ++ zwH c3.1 oH r3)) rfl (by decide) (by decide) (ws2 := (zwZ oZ oN oT oK oH oP oV Zss ++ zwS c3.1 oN ((Nzr, Nzf), (Nvr, Nvf), Nnm, Npd, Nnt) ++ zwH c3.1 oH r3 ++ zwP c3.2.1 oP (Psg, Pln, r6, r1.2.2.1, r1.2.2.2.1, r1.2.2.2.2.1, r1.2.2.2.2.2.1, r1.2.2.2.2.2.2.1, r1.2.2.2.2.2.2.2.1, r1.2.2.2.2.2.2.2.2.1, r1.2.2.2.2.2.2.2.2.2.1, r1.2.2.2.2.2.2.2.2.2.2.1, r1.2.2.2.2.2.2.2.2.2.2.2.1, r1.2.2.2.2.2.2.2.2.2.2.2.2))) rfl (by decide) (fun H locs hC => ?_)
    refine lv_iconst (v := 0) hx hb dX5_play_51 (by decide) ?_
    refine lv_istore_n (lv' := [(3, .int 0), (2, .int r5), (1, .int r4), (0, .ref oZ)]) hx hb dX5_play_52 rfl hl (by decide) rfl (fun ls hl => ?_)
    have L53 : ∀ (fu : Nat) (y1 : Int32) (y2 : Int32) (y3 : Int32) (Zss : Int32) (Nzr : Int32) (Nzf : (Nat → Int32)) (Nvr : Int32) (Nvf : (Nat → Int32)) (Nnm : (Nat → Int32)) (Npd : Int32) (Nnt : Int32) (Hhs : zHs) (Psg : (Nat → Int32)) (Pln : Int32) (Pat : Int32) (Pvl : Int32) (Plo : Int32) (Phi : Int32) (Pso : Int32) (Pha : Int32) (Pla : Int32) (Pgr : Int32) (Pro : Int32) (Pde : Int32) (Pdk : Int32) (Pam : Int32) (tt : Int32 × Int32 × (Nat → Int32) × (Nat → Int32) × Int32 × Int32 × Int32 × Int32 × Int32 × Int32 × Int32), f_X5_play_53 y2 Nzr Nzf Psg Pln fu y3 Nvr Nvf Nnm Npd Nnt Pat Pvl Pde Pdk Pam = some tt → ∀ (H : Heap) (locs : List Loc) (ls : Array Slot), zC G c3 A s (zwZ oZ oN oT oK oH oP oV Zss ++ zwS c3.1 oN ((Nzr, Nzf), (Nvr, Nvf), Nnm, Npd, Nnt) ++ zwH c3.1 oH Hhs ++ zwP c3.2.1 oP (Psg, Pln, Pat, Pvl, Plo, Phi, Pso, Pha, Pla, Pgr, Pro, Pde, Pdk, Pam)) H locs → lv_has ls 4 [(0, .ref oZ), (1, .int y1), (2, .int y2), (3, .int y3)] → (∀ (H : Heap) (locs : List Loc) (ls : Array Slot), zC G c3 A s (zwZ oZ oN oT oK oH oP oV Zss ++ zwS c3.1 oN ((Nzr, Nzf), (tt.2.1, tt.2.2.1), tt.2.2.2.1, tt.2.2.2.2.1, tt.2.2.2.2.2.1) ++ zwH c3.1 oH Hhs ++ zwP c3.2.1 oP (Psg, Pln, tt.2.2.2.2.2.2.1, tt.2.2.2.2.2.2.2.1, Plo, Phi, Pso, Pha, Pla, Pgr, Pro, tt.2.2.2.2.2.2.2.2.1, tt.2.2.2.2.2.2.2.2.2.1, tt.2.2.2.2.2.2.2.2.2.2)) H locs → lv_has ls 4 [(0, .ref oZ), (1, .int y1), (2, .int y2), (3, .int tt.1)] → W p l e ⟨6, 0, 0, 136⟩ s m args below meth c H locs 0 0 (MQ below (zPost G (zwZ oZ oN oT oK oH oP oV Zss ++ zwS c3.1 oN ((Nzr, Nzf), (Nvr', Nvf'), Nnm', Npd', Nnt') ++ zwH c3.1 oH Hhs' ++ zwP c3.2.1 oP (Psg, Pln', Pat', Pvl', Plo', Phi', Pso', Pha', Pla', Pgr', Pro', Pde', Pdk', Pam')) (some (.int r)) A) args s 0 0 A) (F0 m 88 ls [])) → W p l e ⟨6, 0, 0, 136⟩ s m args below meth c H locs 0 0 (MQ below (zPost G (zwZ oZ oN oT oK oH oP oV Zss ++ zwS c3.1 oN ((Nzr, Nzf), (Nvr', Nvf'), Nnm', Npd', Nnt') ++ zwH c3.1 oH Hhs' ++ zwP c3.2.1 oP (Psg, Pln', Pat', Pvl', Plo', Phi', Pso', Pha', Pla', Pgr', Pro', Pde', Pdk', Pam')) (some (.int r)) A) args s 0 0 A) (F0 m 53 ls []) := by
      intro fu
      induction fu with
      | zero =>
        intro y1 y2 y3 Zss Nzr Nzf Nvr Nvf Nnm Npd Nnt Hhs Psg Pln Pat Pvl Plo Phi Pso Pha Pla Pgr Pro Pde Pdk Pam tt hf H locs ls hC hl hK
        exact (z_none hf).elim
      | succ fu ih53 =>
        intro y1 y2 y3 Zss Nzr Nzf Nvr Nvf Nnm Npd Nnt Hhs Psg Pln Pat Pvl Plo Phi Pso Pha Pla Pgr Pro Pde Pdk Pam tt hf H locs ls hC hl hK
        replace hf := (f_X5_play_53_s y2 Nzr Nzf Psg Pln y3 Nvr Nvf Nnm Npd Nnt Pat Pvl Pde Pdk Pam fu).symm.trans hf
        refine lv_iload_n hx hb dX5_play_53 rfl (lv_at hl 3 rfl) ?_
        refine lv_iload_n hx hb dX5_play_54 rfl (lv_at hl 2 rfl) ?_
        refine lv_icmp_ge (tgt := 88) hx hb dX5_play_55 (by decide) (fun cd8 => ?_) (fun cd8 => ?_)
        · replace hf := z_pos cd8 hf
          have e1 := z_s1 hf
          subst e1
          exact hK H locs ls hC (lv_sub hl [0, 1, 2, 3] rfl)
        · replace hf := z_neg cd8 hf
          refine lv_aload_n hx hb dX5_play_58 rfl (lv_at hl 0 rfl) ?_
          refine z_get S0 hC (ci := 5) (C := RX5) (T := TX5) (N := 7) (v := .ref oP.1) jX5_play_X5 0 rfl rfl 4 (by decide) kX5_play_32 rfl rfl dX5_play_59 ?_
          obtain ⟨r9, hr9, hf⟩ := z_bind hf
          refine z_calli (z_runV (n := 0) (rest := []) (As := []) S0 hC (c_X1_readDeed l G c3 oP (Psg, Pln, Pat, Pvl, Plo, Phi, Pso, Pha, Pla, Pgr, Pro, Pde, Pdk, Pam) hr9) [32, 33] (by decide) rfl gX5_play_X1_readDeed rfl rfl rfl (by decide +kernel) ⟨Nat.le_of_ble_eq_true rfl, Nat.le_of_ble_eq_true rfl⟩ (ci := 1) (q0 := 32) rfl rfl rfl hl.1 rfl (Nat.le_of_ble_eq_true rfl) dX5_play_62) hC [32, 33] [0, 1, 2, 3, 4, 5, 6, 7, 8, 9, 10, 11, 12, 13, 14, 15, 16, 17, 18, 19, 20, 21, 22, 23, 24, 25, 26, 27, 28, 29, 30, 31] [0, 1, 2, 3, 4, 5, 6, 7, 8, 9, 10, 11, 12, 13, 14, 15, 16, 17, 18, 19, 20, 21, 22, 23, 24, 25, 26, 27, 28, 29, 30, 31, 32, 33] rfl (wr := (zwZ oZ oN oT oK oH oP oV Zss ++ zwS c3.1 oN ((Nzr, Nzf), (Nvr, Nvf), Nnm, Npd, Nnt) ++ zwH c3.1 oH Hhs)) rfl (by decide) (by decide) (ws2 := (zwZ oZ oN oT oK oH oP oV Zss ++ zwS c3.1 oN ((Nzr, Nzf), (Nvr, Nvf), Nnm, Npd, Nnt) ++ zwH c3.1 oH Hhs ++ zwP c3.2.1 oP (Psg, Pln, r9.2.1, r9.2.2.1, Plo, Phi, Pso, Pha, Pla, Pgr, Pro, r9.2.2.2.1, r9.2.2.2.2.1, r9.2.2.2.2.2))) rfl (by decide) (fun H locs hC => ?_)
          obtain ⟨t11, ht11, hf⟩ := z_bind hf
          have Jt11 : ∀ (H : Heap) (locs : List Loc) (ls : Array Slot), zC G c3 A s (zwZ oZ oN oT oK oH oP oV Zss ++ zwS c3.1 oN ((Nzr, Nzf), (t11.1, t11.2.1), t11.2.2.1, t11.2.2.2.1, t11.2.2.2.2) ++ zwH c3.1 oH Hhs ++ zwP c3.2.1 oP (Psg, Pln, r9.2.1, r9.2.2.1, Plo, Phi, Pso, Pha, Pla, Pgr, Pro, r9.2.2.2.1, r9.2.2.2.2.1, r9.2.2.2.2.2)) H locs → lv_has ls 4 [(0, .ref oZ), (1, .int y1), (2, .int y2), (3, .int y3)] → W p l e ⟨6, 0, 0, 136⟩ s m args below meth c H locs 0 0 (MQ below (zPost G (zwZ oZ oN oT oK oH oP oV Zss ++ zwS c3.1 oN ((Nzr, Nzf), (Nvr', Nvf'), Nnm', Npd', Nnt') ++ zwH c3.1 oH Hhs' ++ zwP c3.2.1 oP (Psg, Pln', Pat', Pvl', Plo', Phi', Pso', Pha', Pla', Pgr', Pro', Pde', Pdk', Pam')) (some (.int r)) A) args s 0 0 A) (F0 m 72 ls []) := by
            intro H locs ls hC hl
            refine lv_aload_n hx hb dX5_play_72 rfl (lv_at hl 0 rfl) ?_
            refine z_get S0 hC (ci := 5) (C := RX5) (T := TX5) (N := 7) (v := .ref oP.1) jX5_play_X5 0 rfl rfl 4 (by decide) kX5_play_32 rfl rfl dX5_play_73 ?_
            refine lv_bipush (v := 59) hx hb dX5_play_76 (by decide) ?_
            obtain ⟨r12, hr12, hf⟩ := z_bind hf
            refine z_calli (z_runV (n := 1) (rest := []) (As := [.int 59]) S0 hC (c_X1_readSign l G c3 oP (Psg, Pln, r9.2.1, r9.2.2.1, Plo, Phi, Pso, Pha, Pla, Pgr, Pro, r9.2.2.2.1, r9.2.2.2.2.1, r9.2.2.2.2.2) 59 hr12) [32, 33] (by decide) rfl gX5_play_X1_readSign rfl rfl rfl (by decide +kernel) ⟨Nat.le_of_ble_eq_true rfl, Nat.le_of_ble_eq_true rfl⟩ (ci := 1) (q0 := 32) rfl rfl rfl hl.1 rfl (Nat.le_of_ble_eq_true rfl) dX5_play_78) hC [32, 33] [0, 1, 2, 3, 4, 5, 6, 7, 8, 9, 10, 11, 12, 13, 14, 15, 16, 17, 18, 19, 20, 21, 22, 23, 24, 25, 26, 27, 28, 29, 30, 31] [0, 1, 2, 3, 4, 5, 6, 7, 8, 9, 10, 11, 12, 13, 14, 15, 16, 17, 18, 19, 20, 21, 22, 23, 24, 25, 26, 27, 28, 29, 30, 31, 32, 33] rfl (wr := (zwZ oZ oN oT oK oH oP oV Zss ++ zwS c3.1 oN ((Nzr, Nzf), (t11.1, t11.2.1), t11.2.2.1, t11.2.2.2.1, t11.2.2.2.2) ++ zwH c3.1 oH Hhs)) rfl (by decide) (by decide) (ws2 := (zwZ oZ oN oT oK oH oP oV Zss ++ zwS c3.1 oN ((Nzr, Nzf), (t11.1, t11.2.1), t11.2.2.1, t11.2.2.2.1, t11.2.2.2.2) ++ zwH c3.1 oH Hhs ++ zwP c3.2.1 oP (Psg, Pln, r12.2, r9.2.2.1, Plo, Phi, Pso, Pha, Pla, Pgr, Pro, r9.2.2.2.1, r9.2.2.2.2.1, r9.2.2.2.2.2))) rfl (by decide) (fun H locs hC => ?_)
            refine lv_pop hx hb dX5_play_81 rfl ?_
            refine lv_iinc (v := (y3 + 1)) (lv' := [(3, .int (y3 + 1)), (0, .ref oZ), (1, .int y1), (2, .int y2)]) hx hb dX5_play_82 hl (k := 3) rfl rfl (by decide) rfl (fun ls hl => ?_)
            refine lv_goto (tgt := 53) hx hb dX5_play_85 (by decide) ?_
            exact ih53 y1 y2 (y3 + 1) Zss Nzr Nzf t11.1 t11.2.1 t11.2.2.1 t11.2.2.2.1 t11.2.2.2.2 Hhs Psg Pln r12.2 r9.2.2.1 Plo Phi Pso Pha Pla Pgr Pro r9.2.2.2.1 r9.2.2.2.2.1 r9.2.2.2.2.2 _ hf H locs ls hC (lv_sub hl [1, 2, 3, 0] rfl) hK
          refine lv_if_eq (tgt := 72) hx hb dX5_play_65 (by decide) (fun cd10 => ?_) (fun cd10 => ?_)
          · replace ht11 := z_pos cd10 ht11
            have e1 := z_s1 ht11
            subst e1
            exact Jt11 H locs ls hC (lv_sub hl [0, 1, 2, 3] rfl)
          · replace ht11 := z_neg cd10 ht11
            refine lv_aload_n hx hb dX5_play_68 rfl (lv_at hl 0 rfl) ?_
            obtain ⟨r13, hr13, ht11⟩ := z_bind ht11
            refine z_callv (z_runV (n := 0) (rest := []) (As := []) S0 hC (c_X5_doDeed l G c3 oZ oN oT oK oH oP oV Zss ((Nzr, Nzf), (Nvr, Nvf), Nnm, Npd, Nnt) (Psg, Pln, r9.2.1, r9.2.2.1, Plo, Phi, Pso, Pha, Pla, Pgr, Pro, r9.2.2.2.1, r9.2.2.2.2.1, r9.2.2.2.2.2) hr13) [0, 1, 2, 3, 4, 5, 6, 32, 33] (by decide) rfl gX5_play_X5_doDeed rfl rfl rfl (by decide +kernel) ⟨Nat.le_of_ble_eq_true rfl, Nat.le_of_ble_eq_true rfl⟩ (ci := 5) (q0 := 0) rfl rfl rfl hl.1 rfl (Nat.le_of_ble_eq_true rfl) dX5_play_69) hC [0, 1, 2, 3, 4, 5, 6, 32, 33] [7, 8, 9, 10, 11, 12, 13, 14, 15, 16, 17, 18, 19, 20, 21, 22, 23, 24, 25, 26, 27, 28, 29, 30, 31] [25, 26, 27, 28, 29, 30, 31, 0, 1, 2, 3, 4, 5, 6, 7, 8, 9, 10, 11, 12, 13, 14, 15, 16, 17, 18, 19, 20, 21, 22, 23, 24, 32, 33] rfl (wr := (zwH c3.1 oH Hhs)) rfl (by decide) (by decide) (ws2 := (zwZ oZ oN oT oK oH oP oV Zss ++ zwS c3.1 oN ((Nzr, Nzf), (r13.1, r13.2.1), r13.2.2.1, r13.2.2.2.1, r13.2.2.2.2) ++ zwH c3.1 oH Hhs ++ zwP c3.2.1 oP (Psg, Pln, r9.2.1, r9.2.2.1, Plo, Phi, Pso, Pha, Pla, Pgr, Pro, r9.2.2.2.1, r9.2.2.2.2.1, r9.2.2.2.2.2))) rfl (by decide) (fun H locs hC => ?_)
            have e1 := z_s1 ht11
            subst e1
            exact Jt11 H locs ls hC (lv_sub hl [0, 1, 2, 3] rfl)
    obtain ⟨t14, ht14, hf⟩ := z_bind hf
    refine L53 zF r4 r5 0 Zss Nzr Nzf Nvr Nvf Nnm Npd Nnt r3 Psg Pln r6 r1.2.2.1 r1.2.2.2.1 r1.2.2.2.2.1 r1.2.2.2.2.2.1 r1.2.2.2.2.2.2.1 r1.2.2.2.2.2.2.2.1 r1.2.2.2.2.2.2.2.2.1 r1.2.2.2.2.2.2.2.2.2.1 r1.2.2.2.2.2.2.2.2.2.2.1 r1.2.2.2.2.2.2.2.2.2.2.2.1 r1.2.2.2.2.2.2.2.2.2.2.2.2 t14 ht14 H locs ls hC (lv_sub hl [3, 2, 1, 0] rfl) (fun H locs ls hC hl => ?_)
    refine lv_aload_n hx hb dX5_play_88 rfl (lv_at hl 0 rfl) ?_
    refine z_get S0 hC (ci := 5) (C := RX5) (T := TX5) (N := 7) (v := .ref oP.1) jX5_play_X5 0 rfl rfl 4 (by decide) kX5_play_32 rfl rfl dX5_play_89 ?_
    obtain ⟨r15, hr15, hf⟩ := z_bind hf
    refine z_callv (z_runV (n := 0) (rest := []) (As := []) S0 hC (c_X1_empty l G c3 oP (Psg, Pln, t14.2.2.2.2.2.2.1, t14.2.2.2.2.2.2.2.1, r1.2.2.2.1, r1.2.2.2.2.1, r1.2.2.2.2.2.1, r1.2.2.2.2.2.2.1, r1.2.2.2.2.2.2.2.1, r1.2.2.2.2.2.2.2.2.1, r1.2.2.2.2.2.2.2.2.2.1, t14.2.2.2.2.2.2.2.2.1, t14.2.2.2.2.2.2.2.2.2.1, t14.2.2.2.2.2.2.2.2.2.2) hr15) [32, 33] (by decide) rfl gX5_play_X1_empty rfl rfl rfl (by decide +kernel) ⟨Nat.le_of_ble_eq_true rfl, Nat.le_of_ble_eq_true rfl⟩ (ci := 1) (q0 := 32) rfl rfl rfl hl.1 rfl (Nat.le_of_ble_eq_true rfl) dX5_play_92) hC [32, 33] [0, 1, 2, 3, 4, 5, 6, 7, 8, 9, 10, 11, 12, 13, 14, 15, 16, 17, 18, 19, 20, 21, 22, 23, 24, 25, 26, 27, 28, 29, 30, 31] [0, 1, 2, 3, 4, 5, 6, 7, 8, 9, 10, 11, 12, 13, 14, 15, 16, 17, 18, 19, 20, 21, 22, 23, 24, 25, 26, 27, 28, 29, 30, 31, 32, 33] rfl (wr := (zwZ oZ oN oT oK oH oP oV Zss ++ zwS c3.1 oN ((Nzr, Nzf), (t14.2.1, t14.2.2.1), t14.2.2.2.1, t14.2.2.2.2.1, t14.2.2.2.2.2.1) ++ zwH c3.1 oH r3)) rfl (by decide) (by decide) (ws2 := (zwZ oZ oN oT oK oH oP oV Zss ++ zwS c3.1 oN ((Nzr, Nzf), (t14.2.1, t14.2.2.1), t14.2.2.2.1, t14.2.2.2.2.1, t14.2.2.2.2.2.1) ++ zwH c3.1 oH r3 ++ zwP c3.2.1 oP (Psg, r15, t14.2.2.2.2.2.2.1, t14.2.2.2.2.2.2.2.1, r1.2.2.2.1, r1.2.2.2.2.1, r1.2.2.2.2.2.1, r1.2.2.2.2.2.2.1, r1.2.2.2.2.2.2.2.1, r1.2.2.2.2.2.2.2.2.1, r1.2.2.2.2.2.2.2.2.2.1, t14.2.2.2.2.2.2.2.2.1, t14.2.2.2.2.2.2.2.2.2.1, t14.2.2.2.2.2.2.2.2.2.2))) rfl (by decide) (fun H locs hC => ?_)
    refine lv_aload_n hx hb dX5_play_95 rfl (lv_at hl 0 rfl) ?_
    refine z_get S0 hC (ci := 5) (C := RX5) (T := TX5) (N := 7) (v := .ref oN.1) jX5_play_X5 0 rfl rfl 0 (by decide) kX5_play_10 rfl rfl dX5_play_96 ?_
    refine lv_iconst (v := 1) hx hb dX5_play_99 (by decide) ?_
    obtain ⟨r16, hr16, hf⟩ := z_bind hf
    refine z_callPi (z_runV (n := 1) (rest := []) (As := [.int 1]) S0 hC (c_X2_number l G c3 oN ((Nzr, Nzf), (t14.2.1, t14.2.2.1), t14.2.2.2.1, t14.2.2.2.2.1, t14.2.2.2.2.2.1) 1 hr16) [1, 2, 3, 4, 5, 6] (by decide) rfl gX5_play_X2_number rfl rfl rfl (by decide +kernel) ⟨Nat.le_of_ble_eq_true rfl, Nat.le_of_ble_eq_true rfl⟩ (ci := 2) (q0 := 1) rfl rfl rfl hl.1 rfl (Nat.le_of_ble_eq_true rfl) dX5_play_100) hC [1, 2, 3, 4, 5, 6] rfl (fun H locs hC => ?_)
    refine lv_iload_n hx hb dX5_play_103 rfl (lv_at hl 1 rfl) ?_
    refine lv_isub hx hb dX5_play_104 ?_
    obtain ⟨e1, e2, e3, e4, e5, e6, e7, e8, e9, e10, e11, e12, e13, e14, e15, e16, e17, e18, e19, e20⟩ := z_s20 hf
    subst e1
    subst e2
    subst e3
    subst e4
    subst e5
    subst e6
    subst e7
    subst e8
    subst e9
    subst e10
    subst e11
    subst e12
    subst e13
    subst e14
    subst e15
    subst e16
    subst e17
    subst e18
    subst e19
    subst e20
    exact z_iret S0 hr hlk hC dX5_play_105
  · replace hf := z_neg cd2 hf
    refine lv_bipush (v := (-2)) hx hb dX5_play_13 (by decide) ?_
    obtain ⟨e1, e2, e3, e4, e5, e6, e7, e8, e9, e10, e11, e12, e13, e14, e15, e16, e17, e18, e19, e20⟩ := z_s20 hf
    subst e1
    subst e2
    subst e3
    subst e4
    subst e5
    subst e6
    subst e7
    subst e8
    subst e9
    subst e10
    subst e11
    subst e12
    subst e13
    subst e14
    subst e15
    subst e16
    subst e17
    subst e18
    subst e19
    subst e20
    exact z_iret S0 hr hlk hC dX5_play_15

-- X5 zoneOf
def f_X5_zoneOf (Nzr : Int32) (Nzf : (Nat → Int32)) (Nvr : Int32) (Nvf : (Nat → Int32)) (Nnm : (Nat → Int32)) (p1 : Int32) (p2 : Int32) : Option (Int32) :=
  (f_X4_has 70 Nzr p1).bind fun r1 => if r1 = 0 then
    some ((-1))
  else
    (f_X5_within p2 0 8).bind fun r3 => if r3 = 0 then
      some ((-1))
    else
      if p2 = 7 then
        (f_X4_rowsWith 56 Nvr Nvf 0 p1).bind fun r10 => some (r10)
      else
        if p2 = 8 then
          (f_X2_canSound Nzr Nzf Nnm p1).bind fun r8 => if r8 = 0 then
            some (0)
          else
            some (1)
        else
          (f_X4_get 70 Nzr Nzf p1 p2).bind fun r7 => some (r7)

theorem kX5_zoneOf_10 : Cond.fieldLink RX5 10 "ZoneSampler" "now" "LZoneSampler$State;" ∈ wsX5_zoneOf := by decide +kernel
theorem jX5_zoneOf_X2 : ∀ w ∈ u_ws RX2 TX2 5, w ∈ wsX5_zoneOf := by decide +kernel
theorem jX5_zoneOf_X5 : ∀ w ∈ u_ws RX5 TX5 7, w ∈ wsX5_zoneOf := by decide +kernel
set_option maxHeartbeats 4000000 in
set_option maxRecDepth 100000 in
theorem c_X5_zoneOf (l : Launch) (G : va_G) (c3 : zT3) (oZ : Nat) (oN oT oK : zR6) (oH : Nat) (oP oV : zR2) (BZ : Int32) (BN : zSt) (p1 : Int32) (p2 : Int32) {r : Int32} (hf : f_X5_zoneOf BN.1.1 BN.1.2 BN.2.1.1 BN.2.1.2 BN.2.2.1 p1 p2 = some (r)) : zM l yX5_zoneOf wsX5_zoneOf ⟨4, 0, 0, 96⟩ G c3 (zwZ oZ oN oT oK oH oP oV BZ ++ zwS c3.1 oN ((BN.1.1, BN.1.2), (BN.2.1.1, BN.2.1.2), BN.2.2.1, BN.2.2.2.1, BN.2.2.2.2)) [.ref oZ, .int p1, .int p2] (some (.int r)) (zwZ oZ oN oT oK oH oP oV BZ ++ zwS c3.1 oN ((BN.1.1, BN.1.2), (BN.2.1.1, BN.2.1.2), BN.2.2.1, BN.2.2.2.1, BN.2.2.2.2)) := by
  obtain ⟨Zss, rfl⟩ : ∃ y, y = BZ := ⟨_, rfl⟩
  obtain ⟨⟨Nzr, Nzf⟩, ⟨Nvr, Nvf⟩, Nnm, Npd, Nnt⟩ := BN
  have hf : f_X5_zoneOf Nzr Nzf Nvr Nvf Nnm p1 p2 = some (r) := hf
  show zM l yX5_zoneOf wsX5_zoneOf ⟨4, 0, 0, 96⟩ G c3 (zwZ oZ oN oT oK oH oP oV Zss ++ zwS c3.1 oN ((Nzr, Nzf), (Nvr, Nvf), Nnm, Npd, Nnt)) [.ref oZ, .int p1, .int p2] (some (.int r)) (zwZ oZ oN oT oK oH oP oV Zss ++ zwS c3.1 oN ((Nzr, Nzf), (Nvr, Nvf), Nnm, Npd, Nnt))
  refine zM.of (cc := cX5_zoneOf) (maxL := 3) (ret := (some .int)) (by decide) rfl (Nat.le_of_ble_eq_true rfl) ?_
  intro p e s m args below meth c A ls S0 hr hlk hC hl
  have S0 : CallFix p m c cX5_zoneOf 3 s args wsX5_zoneOf RX5 := S0
  have hl : lv_has ls 3 [(0, .ref oZ), (1, .int p1), (2, .int p2)] := hl
  have hx := S0.1
  have hb := S0.2.1
  obtain ⟨H, hH⟩ : ∃ y, y = s.heap := ⟨_, rfl⟩
  rw [← hH] at hC ⊢
  obtain ⟨locs, hlo⟩ : ∃ y : List Loc, y = [] := ⟨_, rfl⟩
  rw [← hlo] at hC ⊢
  clear hH hlo
  unfold f_X5_zoneOf at hf
  refine lv_aload_n hx hb dX5_zoneOf_0 rfl (lv_at hl 0 rfl) ?_
  refine z_get S0 hC (ci := 5) (C := RX5) (T := TX5) (N := 7) (v := .ref oN.1) jX5_zoneOf_X5 0 rfl rfl 0 (by decide) kX5_zoneOf_10 rfl rfl dX5_zoneOf_1 ?_
  refine z_getN S0 hC (host := "ZoneSampler") (ci := 2) (C := RX2) (T := TX2) (N := 5) (v := .ref oN.2.2.1.1) jX5_zoneOf_X2 1 rfl rfl 0 (by decide) (by decide +kernel : Cond.fieldLinkNest RX5 47 "ZoneSampler$State" "zones" "LZoneSampler$Table;" "ZoneSampler" ∈ zNW) rfl rfl dX5_zoneOf_4 ?_
  refine lv_iload_n hx hb dX5_zoneOf_7 rfl (lv_at hl 1 rfl) ?_
  obtain ⟨r1, hr1, hf⟩ := z_bind hf
  refine z_callPi (z_runV (n := 1) (rest := []) (As := [.int p1]) S0 hC (c_X4_has l G c3 oN.2.2.1 70 (Nzr, Nzf) p1 hr1) [3, 4] (by decide) rfl gX5_zoneOf_X4_has rfl rfl rfl (by decide +kernel) ⟨Nat.le_of_ble_eq_true rfl, Nat.le_of_ble_eq_true rfl⟩ (ci := 4) (q0 := 3) rfl rfl rfl hl.1 rfl (Nat.le_of_ble_eq_true rfl) dX5_zoneOf_8) hC [3, 4] rfl (fun H locs hC => ?_)
  refine lv_if_eq (tgt := 24) hx hb dX5_zoneOf_11 (by decide) (fun cd2 => ?_) (fun cd2 => ?_)
  · replace hf := z_pos cd2 hf
    refine lv_iconst (v := (-1)) hx hb dX5_zoneOf_24 (by decide) ?_
    have e1 := z_s1 hf
    subst e1
    exact z_iret S0 hr hlk hC dX5_zoneOf_25
  · replace hf := z_neg cd2 hf
    refine lv_iload_n hx hb dX5_zoneOf_14 rfl (lv_at hl 2 rfl) ?_
    refine lv_iconst (v := 0) hx hb dX5_zoneOf_15 (by decide) ?_
    refine lv_bipush (v := 8) hx hb dX5_zoneOf_16 (by decide) ?_
    obtain ⟨r3, hr3, hf⟩ := z_bind hf
    refine z_callPi (z_runS (n := 3) (rest := []) (As := [.int p2, .int 0, .int 8]) S0 hC (c_X5_within l G c3 p2 0 8 hr3) [] (by decide) rfl gX5_zoneOf_X5_within rfl rfl rfl (by decide +kernel) ⟨Nat.le_of_ble_eq_true rfl, Nat.le_of_ble_eq_true rfl⟩ rfl hl.1 rfl (Nat.le_of_ble_eq_true rfl) dX5_zoneOf_18) hC [] rfl (fun H locs hC => ?_)
    refine lv_if_ne (tgt := 26) hx hb dX5_zoneOf_21 (by decide) (fun cd4 => ?_) (fun cd4 => ?_)
    · replace hf := z_neg cd4 hf
      refine lv_iload_n hx hb dX5_zoneOf_26 rfl (lv_at hl 2 rfl) ?_
      refine lv_bipush (v := 7) hx hb dX5_zoneOf_27 (by decide) ?_
      refine lv_icmp_ne (tgt := 45) hx hb dX5_zoneOf_29 (by decide) (fun cd5 => ?_) (fun cd5 => ?_)
      · replace hf := z_neg cd5 hf
        refine lv_iload_n hx hb dX5_zoneOf_45 rfl (lv_at hl 2 rfl) ?_
        refine lv_bipush (v := 8) hx hb dX5_zoneOf_46 (by decide) ?_
        refine lv_icmp_ne (tgt := 68) hx hb dX5_zoneOf_48 (by decide) (fun cd6 => ?_) (fun cd6 => ?_)
        · replace hf := z_neg cd6 hf
          refine lv_aload_n hx hb dX5_zoneOf_68 rfl (lv_at hl 0 rfl) ?_
          refine z_get S0 hC (ci := 5) (C := RX5) (T := TX5) (N := 7) (v := .ref oN.1) jX5_zoneOf_X5 0 rfl rfl 0 (by decide) kX5_zoneOf_10 rfl rfl dX5_zoneOf_69 ?_
          refine z_getN S0 hC (host := "ZoneSampler") (ci := 2) (C := RX2) (T := TX2) (N := 5) (v := .ref oN.2.2.1.1) jX5_zoneOf_X2 1 rfl rfl 0 (by decide) (by decide +kernel : Cond.fieldLinkNest RX5 47 "ZoneSampler$State" "zones" "LZoneSampler$Table;" "ZoneSampler" ∈ zNW) rfl rfl dX5_zoneOf_72 ?_
          refine lv_iload_n hx hb dX5_zoneOf_75 rfl (lv_at hl 1 rfl) ?_
          refine lv_iload_n hx hb dX5_zoneOf_76 rfl (lv_at hl 2 rfl) ?_
          obtain ⟨r7, hr7, hf⟩ := z_bind hf
          refine z_callPi (z_runV (n := 2) (rest := []) (As := [.int p1, .int p2]) S0 hC (c_X4_get l G c3 oN.2.2.1 70 (Nzr, Nzf) p1 p2 hr7) [3, 4] (by decide) rfl gX5_zoneOf_X4_get rfl rfl rfl (by decide +kernel) ⟨Nat.le_of_ble_eq_true rfl, Nat.le_of_ble_eq_true rfl⟩ (ci := 4) (q0 := 3) rfl rfl rfl hl.1 rfl (Nat.le_of_ble_eq_true rfl) dX5_zoneOf_77) hC [3, 4] rfl (fun H locs hC => ?_)
          have e1 := z_s1 hf
          subst e1
          exact z_iret S0 hr hlk hC dX5_zoneOf_80
        · replace hf := z_pos cd6 hf
          refine lv_aload_n hx hb dX5_zoneOf_51 rfl (lv_at hl 0 rfl) ?_
          refine z_get S0 hC (ci := 5) (C := RX5) (T := TX5) (N := 7) (v := .ref oN.1) jX5_zoneOf_X5 0 rfl rfl 0 (by decide) kX5_zoneOf_10 rfl rfl dX5_zoneOf_52 ?_
          refine lv_iload_n hx hb dX5_zoneOf_55 rfl (lv_at hl 1 rfl) ?_
          obtain ⟨r8, hr8, hf⟩ := z_bind hf
          refine z_callPi (z_runV (n := 1) (rest := []) (As := [.int p1]) S0 hC (c_X2_canSound l G c3 oN ((Nzr, Nzf), (Nvr, Nvf), Nnm, Npd, Nnt) p1 hr8) [1, 2, 3, 4, 5, 6] (by decide) rfl gX5_zoneOf_X2_canSound rfl rfl rfl (by decide +kernel) ⟨Nat.le_of_ble_eq_true rfl, Nat.le_of_ble_eq_true rfl⟩ (ci := 2) (q0 := 1) rfl rfl rfl hl.1 rfl (Nat.le_of_ble_eq_true rfl) dX5_zoneOf_56) hC [1, 2, 3, 4, 5, 6] rfl (fun H locs hC => ?_)
          refine lv_if_eq (tgt := 66) hx hb dX5_zoneOf_59 (by decide) (fun cd9 => ?_) (fun cd9 => ?_)
          · replace hf := z_pos cd9 hf
            refine lv_iconst (v := 0) hx hb dX5_zoneOf_66 (by decide) ?_
            have e1 := z_s1 hf
            subst e1
            exact z_iret S0 hr hlk hC dX5_zoneOf_67
          · replace hf := z_neg cd9 hf
            refine lv_iconst (v := 1) hx hb dX5_zoneOf_62 (by decide) ?_
            refine lv_goto (tgt := 67) hx hb dX5_zoneOf_63 (by decide) ?_
            have e1 := z_s1 hf
            subst e1
            exact z_iret S0 hr hlk hC dX5_zoneOf_67
      · replace hf := z_pos cd5 hf
        refine lv_aload_n hx hb dX5_zoneOf_32 rfl (lv_at hl 0 rfl) ?_
        refine z_get S0 hC (ci := 5) (C := RX5) (T := TX5) (N := 7) (v := .ref oN.1) jX5_zoneOf_X5 0 rfl rfl 0 (by decide) kX5_zoneOf_10 rfl rfl dX5_zoneOf_33 ?_
        refine z_getN S0 hC (host := "ZoneSampler") (ci := 2) (C := RX2) (T := TX2) (N := 5) (v := .ref oN.2.2.2.1) jX5_zoneOf_X2 1 rfl rfl 1 (by decide) (by decide +kernel : Cond.fieldLinkNest RX5 168 "ZoneSampler$State" "voices" "LZoneSampler$Table;" "ZoneSampler" ∈ zNW) rfl rfl dX5_zoneOf_36 ?_
        refine lv_iconst (v := 0) hx hb dX5_zoneOf_39 (by decide) ?_
        refine lv_iload_n hx hb dX5_zoneOf_40 rfl (lv_at hl 1 rfl) ?_
        obtain ⟨r10, hr10, hf⟩ := z_bind hf
        refine z_callPi (z_runV (n := 2) (rest := []) (As := [.int 0, .int p1]) S0 hC (c_X4_rowsWith l G c3 oN.2.2.2 56 (Nvr, Nvf) 0 p1 hr10) [5, 6] (by decide) rfl gX5_zoneOf_X4_rowsWith rfl rfl rfl (by decide +kernel) ⟨Nat.le_of_ble_eq_true rfl, Nat.le_of_ble_eq_true rfl⟩ (ci := 4) (q0 := 5) rfl rfl rfl hl.1 rfl (Nat.le_of_ble_eq_true rfl) dX5_zoneOf_41) hC [5, 6] rfl (fun H locs hC => ?_)
        have e1 := z_s1 hf
        subst e1
        exact z_iret S0 hr hlk hC dX5_zoneOf_44
    · replace hf := z_pos cd4 hf
      refine lv_iconst (v := (-1)) hx hb dX5_zoneOf_24 (by decide) ?_
      have e1 := z_s1 hf
      subst e1
      exact z_iret S0 hr hlk hC dX5_zoneOf_25

-- X5 voice
def f_X5_voice (Nvr : Int32) (Nvf : (Nat → Int32)) (Nnm : (Nat → Int32)) (p1 : Int32) (p2 : Int32) : Option (Int32) :=
  (f_X4_has 56 Nvr p1).bind fun r1 => if r1 = 0 then
    some ((-1))
  else
    (f_X5_within p2 0 6).bind fun r3 => if r3 = 0 then
      some ((-1))
    else
      if p2 = 6 then
        (f_X2_stealPlace Nvr Nvf Nnm p1).bind fun r7 => some (r7)
      else
        (f_X4_get 56 Nvr Nvf p1 p2).bind fun r6 => some (r6)

theorem kX5_voice_10 : Cond.fieldLink RX5 10 "ZoneSampler" "now" "LZoneSampler$State;" ∈ wsX5_voice := by decide +kernel
theorem jX5_voice_X2 : ∀ w ∈ u_ws RX2 TX2 5, w ∈ wsX5_voice := by decide +kernel
theorem jX5_voice_X5 : ∀ w ∈ u_ws RX5 TX5 7, w ∈ wsX5_voice := by decide +kernel
set_option maxHeartbeats 4000000 in
set_option maxRecDepth 100000 in
theorem c_X5_voice (l : Launch) (G : va_G) (c3 : zT3) (oZ : Nat) (oN oT oK : zR6) (oH : Nat) (oP oV : zR2) (BZ : Int32) (BN : zSt) (p1 : Int32) (p2 : Int32) {r : Int32} (hf : f_X5_voice BN.2.1.1 BN.2.1.2 BN.2.2.1 p1 p2 = some (r)) : zM l yX5_voice wsX5_voice ⟨3, 0, 0, 69⟩ G c3 (zwZ oZ oN oT oK oH oP oV BZ ++ zwS c3.1 oN ((BN.1.1, BN.1.2), (BN.2.1.1, BN.2.1.2), BN.2.2.1, BN.2.2.2.1, BN.2.2.2.2)) [.ref oZ, .int p1, .int p2] (some (.int r)) (zwZ oZ oN oT oK oH oP oV BZ ++ zwS c3.1 oN ((BN.1.1, BN.1.2), (BN.2.1.1, BN.2.1.2), BN.2.2.1, BN.2.2.2.1, BN.2.2.2.2)) := by
  obtain ⟨Zss, rfl⟩ : ∃ y, y = BZ := ⟨_, rfl⟩
  obtain ⟨⟨Nzr, Nzf⟩, ⟨Nvr, Nvf⟩, Nnm, Npd, Nnt⟩ := BN
  have hf : f_X5_voice Nvr Nvf Nnm p1 p2 = some (r) := hf
  show zM l yX5_voice wsX5_voice ⟨3, 0, 0, 69⟩ G c3 (zwZ oZ oN oT oK oH oP oV Zss ++ zwS c3.1 oN ((Nzr, Nzf), (Nvr, Nvf), Nnm, Npd, Nnt)) [.ref oZ, .int p1, .int p2] (some (.int r)) (zwZ oZ oN oT oK oH oP oV Zss ++ zwS c3.1 oN ((Nzr, Nzf), (Nvr, Nvf), Nnm, Npd, Nnt))
  refine zM.of (cc := cX5_voice) (maxL := 3) (ret := (some .int)) (by decide) rfl (Nat.le_of_ble_eq_true rfl) ?_
  intro p e s m args below meth c A ls S0 hr hlk hC hl
  have S0 : CallFix p m c cX5_voice 3 s args wsX5_voice RX5 := S0
  have hl : lv_has ls 3 [(0, .ref oZ), (1, .int p1), (2, .int p2)] := hl
  have hx := S0.1
  have hb := S0.2.1
  obtain ⟨H, hH⟩ : ∃ y, y = s.heap := ⟨_, rfl⟩
  rw [← hH] at hC ⊢
  obtain ⟨locs, hlo⟩ : ∃ y : List Loc, y = [] := ⟨_, rfl⟩
  rw [← hlo] at hC ⊢
  clear hH hlo
  unfold f_X5_voice at hf
  refine lv_aload_n hx hb dX5_voice_0 rfl (lv_at hl 0 rfl) ?_
  refine z_get S0 hC (ci := 5) (C := RX5) (T := TX5) (N := 7) (v := .ref oN.1) jX5_voice_X5 0 rfl rfl 0 (by decide) kX5_voice_10 rfl rfl dX5_voice_1 ?_
  refine z_getN S0 hC (host := "ZoneSampler") (ci := 2) (C := RX2) (T := TX2) (N := 5) (v := .ref oN.2.2.2.1) jX5_voice_X2 1 rfl rfl 1 (by decide) (by decide +kernel : Cond.fieldLinkNest RX5 168 "ZoneSampler$State" "voices" "LZoneSampler$Table;" "ZoneSampler" ∈ zNW) rfl rfl dX5_voice_4 ?_
  refine lv_iload_n hx hb dX5_voice_7 rfl (lv_at hl 1 rfl) ?_
  obtain ⟨r1, hr1, hf⟩ := z_bind hf
  refine z_callPi (z_runV (n := 1) (rest := []) (As := [.int p1]) S0 hC (c_X4_has l G c3 oN.2.2.2 56 (Nvr, Nvf) p1 hr1) [5, 6] (by decide) rfl gX5_voice_X4_has rfl rfl rfl (by decide +kernel) ⟨Nat.le_of_ble_eq_true rfl, Nat.le_of_ble_eq_true rfl⟩ (ci := 4) (q0 := 5) rfl rfl rfl hl.1 rfl (Nat.le_of_ble_eq_true rfl) dX5_voice_8) hC [5, 6] rfl (fun H locs hC => ?_)
  refine lv_if_eq (tgt := 24) hx hb dX5_voice_11 (by decide) (fun cd2 => ?_) (fun cd2 => ?_)
  · replace hf := z_pos cd2 hf
    refine lv_iconst (v := (-1)) hx hb dX5_voice_24 (by decide) ?_
    have e1 := z_s1 hf
    subst e1
    exact z_iret S0 hr hlk hC dX5_voice_25
  · replace hf := z_neg cd2 hf
    refine lv_iload_n hx hb dX5_voice_14 rfl (lv_at hl 2 rfl) ?_
    refine lv_iconst (v := 0) hx hb dX5_voice_15 (by decide) ?_
    refine lv_bipush (v := 6) hx hb dX5_voice_16 (by decide) ?_
    obtain ⟨r3, hr3, hf⟩ := z_bind hf
    refine z_callPi (z_runS (n := 3) (rest := []) (As := [.int p2, .int 0, .int 6]) S0 hC (c_X5_within l G c3 p2 0 6 hr3) [] (by decide) rfl gX5_voice_X5_within rfl rfl rfl (by decide +kernel) ⟨Nat.le_of_ble_eq_true rfl, Nat.le_of_ble_eq_true rfl⟩ rfl hl.1 rfl (Nat.le_of_ble_eq_true rfl) dX5_voice_18) hC [] rfl (fun H locs hC => ?_)
    refine lv_if_ne (tgt := 26) hx hb dX5_voice_21 (by decide) (fun cd4 => ?_) (fun cd4 => ?_)
    · replace hf := z_neg cd4 hf
      refine lv_iload_n hx hb dX5_voice_26 rfl (lv_at hl 2 rfl) ?_
      refine lv_bipush (v := 6) hx hb dX5_voice_27 (by decide) ?_
      refine lv_icmp_ne (tgt := 43) hx hb dX5_voice_29 (by decide) (fun cd5 => ?_) (fun cd5 => ?_)
      · replace hf := z_neg cd5 hf
        refine lv_aload_n hx hb dX5_voice_43 rfl (lv_at hl 0 rfl) ?_
        refine z_get S0 hC (ci := 5) (C := RX5) (T := TX5) (N := 7) (v := .ref oN.1) jX5_voice_X5 0 rfl rfl 0 (by decide) kX5_voice_10 rfl rfl dX5_voice_44 ?_
        refine z_getN S0 hC (host := "ZoneSampler") (ci := 2) (C := RX2) (T := TX2) (N := 5) (v := .ref oN.2.2.2.1) jX5_voice_X2 1 rfl rfl 1 (by decide) (by decide +kernel : Cond.fieldLinkNest RX5 168 "ZoneSampler$State" "voices" "LZoneSampler$Table;" "ZoneSampler" ∈ zNW) rfl rfl dX5_voice_47 ?_
        refine lv_iload_n hx hb dX5_voice_50 rfl (lv_at hl 1 rfl) ?_
        refine lv_iload_n hx hb dX5_voice_51 rfl (lv_at hl 2 rfl) ?_
        obtain ⟨r6, hr6, hf⟩ := z_bind hf
        refine z_callPi (z_runV (n := 2) (rest := []) (As := [.int p1, .int p2]) S0 hC (c_X4_get l G c3 oN.2.2.2 56 (Nvr, Nvf) p1 p2 hr6) [5, 6] (by decide) rfl gX5_voice_X4_get rfl rfl rfl (by decide +kernel) ⟨Nat.le_of_ble_eq_true rfl, Nat.le_of_ble_eq_true rfl⟩ (ci := 4) (q0 := 5) rfl rfl rfl hl.1 rfl (Nat.le_of_ble_eq_true rfl) dX5_voice_52) hC [5, 6] rfl (fun H locs hC => ?_)
        have e1 := z_s1 hf
        subst e1
        exact z_iret S0 hr hlk hC dX5_voice_55
      · replace hf := z_pos cd5 hf
        refine lv_aload_n hx hb dX5_voice_32 rfl (lv_at hl 0 rfl) ?_
        refine z_get S0 hC (ci := 5) (C := RX5) (T := TX5) (N := 7) (v := .ref oN.1) jX5_voice_X5 0 rfl rfl 0 (by decide) kX5_voice_10 rfl rfl dX5_voice_33 ?_
        refine lv_iload_n hx hb dX5_voice_36 rfl (lv_at hl 1 rfl) ?_
        obtain ⟨r7, hr7, hf⟩ := z_bind hf
        refine z_callPi (z_runV (n := 1) (rest := []) (As := [.int p1]) S0 hC (c_X2_stealPlace l G c3 oN ((Nzr, Nzf), (Nvr, Nvf), Nnm, Npd, Nnt) p1 hr7) [1, 2, 3, 4, 5, 6] (by decide) rfl gX5_voice_X2_stealPlace rfl rfl rfl (by decide +kernel) ⟨Nat.le_of_ble_eq_true rfl, Nat.le_of_ble_eq_true rfl⟩ (ci := 2) (q0 := 1) rfl rfl rfl hl.1 rfl (Nat.le_of_ble_eq_true rfl) dX5_voice_37) hC [1, 2, 3, 4, 5, 6] rfl (fun H locs hC => ?_)
        refine lv_goto (tgt := 55) hx hb dX5_voice_40 (by decide) ?_
        have e1 := z_s1 hf
        subst e1
        exact z_iret S0 hr hlk hC dX5_voice_55
    · replace hf := z_pos cd4 hf
      refine lv_iconst (v := (-1)) hx hb dX5_voice_24 (by decide) ?_
      have e1 := z_s1 hf
      subst e1
      exact z_iret S0 hr hlk hC dX5_voice_25

-- X5 answers
def f_X5_answers (Nzr : Int32) (Nzf : (Nat → Int32)) (p1 : Int32) (p2 : Int32) : Option (Int32) :=
  (f_X5_isNote p1 p2).bind fun r1 => if r1 = 0 then
    some ((-1))
  else
    (f_X2_matching Nzr Nzf p1 p2).bind fun r3 => some (r3)

theorem kX5_answers_10 : Cond.fieldLink RX5 10 "ZoneSampler" "now" "LZoneSampler$State;" ∈ wsX5_answers := by decide +kernel
theorem jX5_answers_X5 : ∀ w ∈ u_ws RX5 TX5 7, w ∈ wsX5_answers := by decide +kernel
set_option maxHeartbeats 4000000 in
set_option maxRecDepth 100000 in
theorem c_X5_answers (l : Launch) (G : va_G) (c3 : zT3) (oZ : Nat) (oN oT oK : zR6) (oH : Nat) (oP oV : zR2) (BZ : Int32) (BN : zSt) (p1 : Int32) (p2 : Int32) {r : Int32} (hf : f_X5_answers BN.1.1 BN.1.2 p1 p2 = some (r)) : zM l yX5_answers wsX5_answers ⟨3, 0, 0, 70⟩ G c3 (zwZ oZ oN oT oK oH oP oV BZ ++ zwS c3.1 oN ((BN.1.1, BN.1.2), (BN.2.1.1, BN.2.1.2), BN.2.2.1, BN.2.2.2.1, BN.2.2.2.2)) [.ref oZ, .int p1, .int p2] (some (.int r)) (zwZ oZ oN oT oK oH oP oV BZ ++ zwS c3.1 oN ((BN.1.1, BN.1.2), (BN.2.1.1, BN.2.1.2), BN.2.2.1, BN.2.2.2.1, BN.2.2.2.2)) := by
  obtain ⟨Zss, rfl⟩ : ∃ y, y = BZ := ⟨_, rfl⟩
  obtain ⟨⟨Nzr, Nzf⟩, ⟨Nvr, Nvf⟩, Nnm, Npd, Nnt⟩ := BN
  have hf : f_X5_answers Nzr Nzf p1 p2 = some (r) := hf
  show zM l yX5_answers wsX5_answers ⟨3, 0, 0, 70⟩ G c3 (zwZ oZ oN oT oK oH oP oV Zss ++ zwS c3.1 oN ((Nzr, Nzf), (Nvr, Nvf), Nnm, Npd, Nnt)) [.ref oZ, .int p1, .int p2] (some (.int r)) (zwZ oZ oN oT oK oH oP oV Zss ++ zwS c3.1 oN ((Nzr, Nzf), (Nvr, Nvf), Nnm, Npd, Nnt))
  refine zM.of (cc := cX5_answers) (maxL := 3) (ret := (some .int)) (by decide) rfl (Nat.le_of_ble_eq_true rfl) ?_
  intro p e s m args below meth c A ls S0 hr hlk hC hl
  have S0 : CallFix p m c cX5_answers 3 s args wsX5_answers RX5 := S0
  have hl : lv_has ls 3 [(0, .ref oZ), (1, .int p1), (2, .int p2)] := hl
  have hx := S0.1
  have hb := S0.2.1
  obtain ⟨H, hH⟩ : ∃ y, y = s.heap := ⟨_, rfl⟩
  rw [← hH] at hC ⊢
  obtain ⟨locs, hlo⟩ : ∃ y : List Loc, y = [] := ⟨_, rfl⟩
  rw [← hlo] at hC ⊢
  clear hH hlo
  unfold f_X5_answers at hf
  refine lv_iload_n hx hb dX5_answers_0 rfl (lv_at hl 1 rfl) ?_
  refine lv_iload_n hx hb dX5_answers_1 rfl (lv_at hl 2 rfl) ?_
  obtain ⟨r1, hr1, hf⟩ := z_bind hf
  refine z_callPi (z_runS (n := 2) (rest := []) (As := [.int p1, .int p2]) S0 hC (c_X5_isNote l G c3 p1 p2 hr1) [] (by decide) rfl gX5_answers_X5_isNote rfl rfl rfl (by decide +kernel) ⟨Nat.le_of_ble_eq_true rfl, Nat.le_of_ble_eq_true rfl⟩ rfl hl.1 rfl (Nat.le_of_ble_eq_true rfl) dX5_answers_2) hC [] rfl (fun H locs hC => ?_)
  refine lv_if_eq (tgt := 20) hx hb dX5_answers_5 (by decide) (fun cd2 => ?_) (fun cd2 => ?_)
  · replace hf := z_pos cd2 hf
    refine lv_iconst (v := (-1)) hx hb dX5_answers_20 (by decide) ?_
    have e1 := z_s1 hf
    subst e1
    exact z_iret S0 hr hlk hC dX5_answers_21
  · replace hf := z_neg cd2 hf
    refine lv_aload_n hx hb dX5_answers_8 rfl (lv_at hl 0 rfl) ?_
    refine z_get S0 hC (ci := 5) (C := RX5) (T := TX5) (N := 7) (v := .ref oN.1) jX5_answers_X5 0 rfl rfl 0 (by decide) kX5_answers_10 rfl rfl dX5_answers_9 ?_
    refine lv_iload_n hx hb dX5_answers_12 rfl (lv_at hl 1 rfl) ?_
    refine lv_iload_n hx hb dX5_answers_13 rfl (lv_at hl 2 rfl) ?_
    obtain ⟨r3, hr3, hf⟩ := z_bind hf
    refine z_callPi (z_runV (n := 2) (rest := []) (As := [.int p1, .int p2]) S0 hC (c_X2_matching l G c3 oN ((Nzr, Nzf), (Nvr, Nvf), Nnm, Npd, Nnt) p1 p2 hr3) [1, 2, 3, 4, 5, 6] (by decide) rfl gX5_answers_X2_matching rfl rfl rfl (by decide +kernel) ⟨Nat.le_of_ble_eq_true rfl, Nat.le_of_ble_eq_true rfl⟩ (ci := 2) (q0 := 1) rfl rfl rfl hl.1 rfl (Nat.le_of_ble_eq_true rfl) dX5_answers_14) hC [1, 2, 3, 4, 5, 6] rfl (fun H locs hC => ?_)
    refine lv_goto (tgt := 21) hx hb dX5_answers_17 (by decide) ?_
    have e1 := z_s1 hf
    subst e1
    exact z_iret S0 hr hlk hC dX5_answers_21

-- X5 map
def f_X5_map (Nzr : Int32) (Nzf : (Nat → Int32)) (Vdp : (Nat → Int32)) (Vho : Int32) (Vov : Int32) (Vdd : Int32) (Vfh : Int32) (p1 : Int32) (p2 : Int32) : Option (Int32 × (Nat → Int32) × Int32 × Int32 × Int32 × Int32) :=
  (f_X5_within p1 0 3).bind fun r1 => if r1 = 0 then
    some ((-1), Vdp, Vho, Vov, Vdd, Vfh)
  else
    (f_X5_within p2 0 1).bind fun r3 => if r3 = 0 then
      some ((-1), Vdp, Vho, Vov, Vdd, Vfh)
    else
      Option.bind (α := (Nat → Int32) × Int32 × Int32 × Int32 × Int32) (
        if p2 = 0 then
          (f_X3_goByPlaces Vdp Vho Vov Vdd Vfh Nzr Nzf).bind fun r9 => some (r9.1, r9.2.1, r9.2.2.1, r9.2.2.2.1, r9.2.2.2.2)
        else
          (f_X3_goByEdges Vdp Vho Vov Vdd Vfh Nzr Nzf).bind fun r8 => some (r8.1, r8.2.1, r8.2.2.1, r8.2.2.2.1, r8.2.2.2.2)
      ) fun t6 =>
        (f_X3_finding t6.2.1 t6.2.2.1 t6.2.2.2.1 t6.2.2.2.2 p1).bind fun r7 => some (r7, t6.1, t6.2.1, t6.2.2.1, t6.2.2.2.1, t6.2.2.2.2)

theorem kX5_map_39 : Cond.fieldLink RX5 39 "ZoneSampler" "survey" "LZoneSampler$Survey;" ∈ wsX5_map := by decide +kernel
theorem kX5_map_10 : Cond.fieldLink RX5 10 "ZoneSampler" "now" "LZoneSampler$State;" ∈ wsX5_map := by decide +kernel
theorem jX5_map_X5 : ∀ w ∈ u_ws RX5 TX5 7, w ∈ wsX5_map := by decide +kernel
set_option maxHeartbeats 4000000 in
set_option maxRecDepth 100000 in
theorem c_X5_map (l : Launch) (G : va_G) (c3 : zT3) (oZ : Nat) (oN oT oK : zR6) (oH : Nat) (oP oV : zR2) (BZ : Int32) (BN : zSt) (BV : zSv) (p1 : Int32) (p2 : Int32) {r : Int32} {Vdp' : (Nat → Int32)} {Vho' : Int32} {Vov' : Int32} {Vdd' : Int32} {Vfh' : Int32} (hf : f_X5_map BN.1.1 BN.1.2 BV.1 BV.2.1 BV.2.2.1 BV.2.2.2.1 BV.2.2.2.2 p1 p2 = some (r, Vdp', Vho', Vov', Vdd', Vfh')) : zM l yX5_map wsX5_map ⟨4, 0, 0, 93⟩ G c3 (zwZ oZ oN oT oK oH oP oV BZ ++ zwS c3.1 oN ((BN.1.1, BN.1.2), (BN.2.1.1, BN.2.1.2), BN.2.2.1, BN.2.2.2.1, BN.2.2.2.2) ++ zwV c3.1 oV (BV.1, BV.2.1, BV.2.2.1, BV.2.2.2.1, BV.2.2.2.2)) [.ref oZ, .int p1, .int p2] (some (.int r)) (zwZ oZ oN oT oK oH oP oV BZ ++ zwS c3.1 oN ((BN.1.1, BN.1.2), (BN.2.1.1, BN.2.1.2), BN.2.2.1, BN.2.2.2.1, BN.2.2.2.2) ++ zwV c3.1 oV (Vdp', Vho', Vov', Vdd', Vfh')) := by
  obtain ⟨Zss, rfl⟩ : ∃ y, y = BZ := ⟨_, rfl⟩
  obtain ⟨⟨Nzr, Nzf⟩, ⟨Nvr, Nvf⟩, Nnm, Npd, Nnt⟩ := BN
  obtain ⟨Vdp, Vho, Vov, Vdd, Vfh⟩ := BV
  have hf : f_X5_map Nzr Nzf Vdp Vho Vov Vdd Vfh p1 p2 = some (r, Vdp', Vho', Vov', Vdd', Vfh') := hf
  show zM l yX5_map wsX5_map ⟨4, 0, 0, 93⟩ G c3 (zwZ oZ oN oT oK oH oP oV Zss ++ zwS c3.1 oN ((Nzr, Nzf), (Nvr, Nvf), Nnm, Npd, Nnt) ++ zwV c3.1 oV (Vdp, Vho, Vov, Vdd, Vfh)) [.ref oZ, .int p1, .int p2] (some (.int r)) (zwZ oZ oN oT oK oH oP oV Zss ++ zwS c3.1 oN ((Nzr, Nzf), (Nvr, Nvf), Nnm, Npd, Nnt) ++ zwV c3.1 oV (Vdp', Vho', Vov', Vdd', Vfh'))
  refine zM.of (cc := cX5_map) (maxL := 3) (ret := (some .int)) (by decide) rfl (Nat.le_of_ble_eq_true rfl) ?_
  intro p e s m args below meth c A ls S0 hr hlk hC hl
  have S0 : CallFix p m c cX5_map 3 s args wsX5_map RX5 := S0
  have hl : lv_has ls 3 [(0, .ref oZ), (1, .int p1), (2, .int p2)] := hl
  have hx := S0.1
  have hb := S0.2.1
  obtain ⟨H, hH⟩ : ∃ y, y = s.heap := ⟨_, rfl⟩
  rw [← hH] at hC ⊢
  obtain ⟨locs, hlo⟩ : ∃ y : List Loc, y = [] := ⟨_, rfl⟩
  rw [← hlo] at hC ⊢
  clear hH hlo
  unfold f_X5_map at hf
  refine lv_iload_n hx hb dX5_map_0 rfl (lv_at hl 1 rfl) ?_
  refine lv_iconst (v := 0) hx hb dX5_map_1 (by decide) ?_
  refine lv_iconst (v := 3) hx hb dX5_map_2 (by decide) ?_
  obtain ⟨r1, hr1, hf⟩ := z_bind hf
  refine z_callPi (z_runS (n := 3) (rest := []) (As := [.int p1, .int 0, .int 3]) S0 hC (c_X5_within l G c3 p1 0 3 hr1) [] (by decide) rfl gX5_map_X5_within rfl rfl rfl (by decide +kernel) ⟨Nat.le_of_ble_eq_true rfl, Nat.le_of_ble_eq_true rfl⟩ rfl hl.1 rfl (Nat.le_of_ble_eq_true rfl) dX5_map_3) hC [] rfl (fun H locs hC => ?_)
  refine lv_if_eq (tgt := 18) hx hb dX5_map_6 (by decide) (fun cd2 => ?_) (fun cd2 => ?_)
  · replace hf := z_pos cd2 hf
    refine lv_iconst (v := (-1)) hx hb dX5_map_18 (by decide) ?_
    obtain ⟨e1, e2, e3, e4, e5, e6⟩ := z_s6 hf
    subst e1
    subst e2
    subst e3
    subst e4
    subst e5
    subst e6
    exact z_iret S0 hr hlk hC dX5_map_19
  · replace hf := z_neg cd2 hf
    refine lv_iload_n hx hb dX5_map_9 rfl (lv_at hl 2 rfl) ?_
    refine lv_iconst (v := 0) hx hb dX5_map_10 (by decide) ?_
    refine lv_iconst (v := 1) hx hb dX5_map_11 (by decide) ?_
    obtain ⟨r3, hr3, hf⟩ := z_bind hf
    refine z_callPi (z_runS (n := 3) (rest := []) (As := [.int p2, .int 0, .int 1]) S0 hC (c_X5_within l G c3 p2 0 1 hr3) [] (by decide) rfl gX5_map_X5_within rfl rfl rfl (by decide +kernel) ⟨Nat.le_of_ble_eq_true rfl, Nat.le_of_ble_eq_true rfl⟩ rfl hl.1 rfl (Nat.le_of_ble_eq_true rfl) dX5_map_12) hC [] rfl (fun H locs hC => ?_)
    refine lv_if_ne (tgt := 20) hx hb dX5_map_15 (by decide) (fun cd4 => ?_) (fun cd4 => ?_)
    · replace hf := z_neg cd4 hf
      refine lv_iload_n hx hb dX5_map_20 rfl (lv_at hl 2 rfl) ?_
      obtain ⟨t6, ht6, hf⟩ := z_bind hf
      have Jt6 : ∀ (H : Heap) (locs : List Loc) (ls : Array Slot), zC G c3 A s (zwZ oZ oN oT oK oH oP oV Zss ++ zwS c3.1 oN ((Nzr, Nzf), (Nvr, Nvf), Nnm, Npd, Nnt) ++ zwV c3.1 oV (t6.1, t6.2.1, t6.2.2.1, t6.2.2.2.1, t6.2.2.2.2)) H locs → lv_has ls 3 [(0, .ref oZ), (1, .int p1), (2, .int p2)] → W p l e ⟨4, 0, 0, 93⟩ s m args below meth c H locs 0 0 (MQ below (zPost G (zwZ oZ oN oT oK oH oP oV Zss ++ zwS c3.1 oN ((Nzr, Nzf), (Nvr, Nvf), Nnm, Npd, Nnt) ++ zwV c3.1 oV (Vdp', Vho', Vov', Vdd', Vfh')) (some (.int r)) A) args s 0 0 A) (F0 m 49 ls []) := by
        intro H locs ls hC hl
        refine lv_aload_n hx hb dX5_map_49 rfl (lv_at hl 0 rfl) ?_
        refine z_get S0 hC (ci := 5) (C := RX5) (T := TX5) (N := 7) (v := .ref oV.1) jX5_map_X5 0 rfl rfl 5 (by decide) kX5_map_39 rfl rfl dX5_map_50 ?_
        refine lv_iload_n hx hb dX5_map_53 rfl (lv_at hl 1 rfl) ?_
        obtain ⟨r7, hr7, hf⟩ := z_bind hf
        refine z_callPi (z_runV (n := 1) (rest := []) (As := [.int p1]) S0 hC (c_X3_finding l G c3 oV (t6.1, t6.2.1, t6.2.2.1, t6.2.2.2.1, t6.2.2.2.2) p1 hr7) [7, 8] (by decide) rfl gX5_map_X3_finding rfl rfl rfl (by decide +kernel) ⟨Nat.le_of_ble_eq_true rfl, Nat.le_of_ble_eq_true rfl⟩ (ci := 3) (q0 := 7) rfl rfl rfl hl.1 rfl (Nat.le_of_ble_eq_true rfl) dX5_map_54) hC [7, 8] rfl (fun H locs hC => ?_)
        obtain ⟨e1, e2, e3, e4, e5, e6⟩ := z_s6 hf
        subst e1
        subst e2
        subst e3
        subst e4
        subst e5
        subst e6
        exact z_iret S0 hr hlk hC dX5_map_57
      refine lv_if_ne (tgt := 38) hx hb dX5_map_21 (by decide) (fun cd5 => ?_) (fun cd5 => ?_)
      · replace ht6 := z_neg cd5 ht6
        refine lv_aload_n hx hb dX5_map_38 rfl (lv_at hl 0 rfl) ?_
        refine z_get S0 hC (ci := 5) (C := RX5) (T := TX5) (N := 7) (v := .ref oV.1) jX5_map_X5 0 rfl rfl 5 (by decide) kX5_map_39 rfl rfl dX5_map_39 ?_
        refine lv_aload_n hx hb dX5_map_42 rfl (lv_at hl 0 rfl) ?_
        refine z_get S0 hC (ci := 5) (C := RX5) (T := TX5) (N := 7) (v := .ref oN.1) jX5_map_X5 0 rfl rfl 0 (by decide) kX5_map_10 rfl rfl dX5_map_43 ?_
        obtain ⟨r8, hr8, ht6⟩ := z_bind ht6
        refine z_callv (z_runV (n := 1) (rest := []) (As := [.ref oN.1]) S0 hC (c_X3_goByEdges l G c3 oV (Vdp, Vho, Vov, Vdd, Vfh) oN ((Nzr, Nzf), (Nvr, Nvf), Nnm, Npd, Nnt) hr8) [7, 8, 1, 2, 3, 4, 5, 6] (by decide) rfl gX5_map_X3_goByEdges rfl rfl rfl (by decide +kernel) ⟨Nat.le_of_ble_eq_true rfl, Nat.le_of_ble_eq_true rfl⟩ (ci := 3) (q0 := 7) rfl rfl rfl hl.1 rfl (Nat.le_of_ble_eq_true rfl) dX5_map_46) hC [7, 8, 1, 2, 3, 4, 5, 6] [0] [0, 3, 4, 5, 6, 7, 8, 1, 2] rfl (wr := (zwZ oZ oN oT oK oH oP oV Zss)) rfl (by decide) (by decide) (ws2 := (zwZ oZ oN oT oK oH oP oV Zss ++ zwS c3.1 oN ((Nzr, Nzf), (Nvr, Nvf), Nnm, Npd, Nnt) ++ zwV c3.1 oV (r8.1, r8.2.1, r8.2.2.1, r8.2.2.2.1, r8.2.2.2.2))) rfl (by decide) (fun H locs hC => ?_)
        have e1 := z_s1 ht6
        subst e1
        exact Jt6 H locs ls hC (lv_sub hl [0, 1, 2] rfl)
      · replace ht6 := z_pos cd5 ht6
        refine lv_aload_n hx hb dX5_map_24 rfl (lv_at hl 0 rfl) ?_
        refine z_get S0 hC (ci := 5) (C := RX5) (T := TX5) (N := 7) (v := .ref oV.1) jX5_map_X5 0 rfl rfl 5 (by decide) kX5_map_39 rfl rfl dX5_map_25 ?_
        refine lv_aload_n hx hb dX5_map_28 rfl (lv_at hl 0 rfl) ?_
        refine z_get S0 hC (ci := 5) (C := RX5) (T := TX5) (N := 7) (v := .ref oN.1) jX5_map_X5 0 rfl rfl 0 (by decide) kX5_map_10 rfl rfl dX5_map_29 ?_
        obtain ⟨r9, hr9, ht6⟩ := z_bind ht6
        refine z_callv (z_runV (n := 1) (rest := []) (As := [.ref oN.1]) S0 hC (c_X3_goByPlaces l G c3 oV (Vdp, Vho, Vov, Vdd, Vfh) oN ((Nzr, Nzf), (Nvr, Nvf), Nnm, Npd, Nnt) hr9) [7, 8, 1, 2, 3, 4, 5, 6] (by decide) rfl gX5_map_X3_goByPlaces rfl rfl rfl (by decide +kernel) ⟨Nat.le_of_ble_eq_true rfl, Nat.le_of_ble_eq_true rfl⟩ (ci := 3) (q0 := 7) rfl rfl rfl hl.1 rfl (Nat.le_of_ble_eq_true rfl) dX5_map_32) hC [7, 8, 1, 2, 3, 4, 5, 6] [0] [0, 3, 4, 5, 6, 7, 8, 1, 2] rfl (wr := (zwZ oZ oN oT oK oH oP oV Zss)) rfl (by decide) (by decide) (ws2 := (zwZ oZ oN oT oK oH oP oV Zss ++ zwS c3.1 oN ((Nzr, Nzf), (Nvr, Nvf), Nnm, Npd, Nnt) ++ zwV c3.1 oV (r9.1, r9.2.1, r9.2.2.1, r9.2.2.2.1, r9.2.2.2.2))) rfl (by decide) (fun H locs hC => ?_)
        refine lv_goto (tgt := 49) hx hb dX5_map_35 (by decide) ?_
        have e1 := z_s1 ht6
        subst e1
        exact Jt6 H locs ls hC (lv_sub hl [0, 1, 2] rfl)
    · replace hf := z_pos cd4 hf
      refine lv_iconst (v := (-1)) hx hb dX5_map_18 (by decide) ?_
      obtain ⟨e1, e2, e3, e4, e5, e6⟩ := z_s6 hf
      subst e1
      subst e2
      subst e3
      subst e4
      subst e5
      subst e6
      exact z_iret S0 hr hlk hC dX5_map_19

-- X5 count
def f_X5_count (Nzr : Int32) (Nvr : Int32) (Nvf : (Nat → Int32)) (Nnm : (Nat → Int32)) (Npd : Int32) (Hhs : zHs) (Pln : Int32) (p1 : Int32) : Option (Int32) :=
  (f_X5_within p1 0 21).bind fun r1 => if r1 = 0 then
    some ((-1))
  else
    if p1 < 7 then
      if p1 = 0 then
        (f_X4_rows 70 Nzr).bind fun r5 => some (r5)
      else
        if p1 = 1 then
          (f_X4_rows 56 Nvr).bind fun r7 => some (r7)
        else
          if p1 = 2 then
            (f_X4_rowsWith 56 Nvr Nvf 5 0).bind fun r9 => some (r9)
          else
            if p1 = 3 then
              (f_X4_rowsWith 56 Nvr Nvf 5 1).bind fun r11 => some (r11)
            else
              if p1 = 4 then
                (f_X4_rowsWith 56 Nvr Nvf 5 2).bind fun r13 => some (r13)
              else
                if p1 = 5 then
                  (f_X4_sumOf 56 Nvr Nvf 3).bind fun r15 => some (r15)
                else
                  if p1 = 6 then
                    if Npd = 0 then
                      some (0)
                    else
                      some (1)
                  else
                    if p1 = 20 then
                      (f_X1_length Pln).bind fun r19 => some (r19)
                    else
                      (f_X0_size Hhs).bind fun r20 => some (r20)
    else
      if 20 ≤ p1 then
        if p1 = 0 then
          (f_X4_rows 70 Nzr).bind fun r36 => some (r36)
        else
          if p1 = 1 then
            (f_X4_rows 56 Nvr).bind fun r38 => some (r38)
          else
            if p1 = 2 then
              (f_X4_rowsWith 56 Nvr Nvf 5 0).bind fun r40 => some (r40)
            else
              if p1 = 3 then
                (f_X4_rowsWith 56 Nvr Nvf 5 1).bind fun r42 => some (r42)
              else
                if p1 = 4 then
                  (f_X4_rowsWith 56 Nvr Nvf 5 2).bind fun r44 => some (r44)
                else
                  if p1 = 5 then
                    (f_X4_sumOf 56 Nvr Nvf 3).bind fun r46 => some (r46)
                  else
                    if p1 = 6 then
                      if Npd = 0 then
                        some (0)
                      else
                        some (1)
                    else
                      if p1 = 20 then
                        (f_X1_length Pln).bind fun r50 => some (r50)
                      else
                        (f_X0_size Hhs).bind fun r51 => some (r51)
      else
        (f_X2_number Nnm (p1 - 7)).bind fun r65 => some (r65)

theorem kX5_count_10 : Cond.fieldLink RX5 10 "ZoneSampler" "now" "LZoneSampler$State;" ∈ wsX5_count := by decide +kernel
theorem kX5_count_32 : Cond.fieldLink RX5 32 "ZoneSampler" "pad" "LZoneSampler$Pad;" ∈ wsX5_count := by decide +kernel
theorem kX5_count_25 : Cond.fieldLink RX5 25 "ZoneSampler" "history" "LZoneSampler$History;" ∈ wsX5_count := by decide +kernel
theorem jX5_count_X2 : ∀ w ∈ u_ws RX2 TX2 5, w ∈ wsX5_count := by decide +kernel
theorem jX5_count_X5 : ∀ w ∈ u_ws RX5 TX5 7, w ∈ wsX5_count := by decide +kernel
set_option maxHeartbeats 4000000 in
set_option maxRecDepth 100000 in
theorem c_X5_count (l : Launch) (G : va_G) (c3 : zT3) (oZ : Nat) (oN oT oK : zR6) (oH : Nat) (oP oV : zR2) (BZ : Int32) (BN : zSt) (BH : zHs) (BP : zPd) (p1 : Int32) {r : Int32} (hf : f_X5_count BN.1.1 BN.2.1.1 BN.2.1.2 BN.2.2.1 BN.2.2.2.1 BH BP.2.1 p1 = some (r)) : zM l yX5_count wsX5_count ⟨2, 0, 0, 47⟩ G c3 (zwZ oZ oN oT oK oH oP oV BZ ++ zwS c3.1 oN ((BN.1.1, BN.1.2), (BN.2.1.1, BN.2.1.2), BN.2.2.1, BN.2.2.2.1, BN.2.2.2.2) ++ zwH c3.1 oH BH ++ zwP c3.2.1 oP (BP.1, BP.2.1, BP.2.2.1, BP.2.2.2.1, BP.2.2.2.2.1, BP.2.2.2.2.2.1, BP.2.2.2.2.2.2.1, BP.2.2.2.2.2.2.2.1, BP.2.2.2.2.2.2.2.2.1, BP.2.2.2.2.2.2.2.2.2.1, BP.2.2.2.2.2.2.2.2.2.2.1, BP.2.2.2.2.2.2.2.2.2.2.2.1, BP.2.2.2.2.2.2.2.2.2.2.2.2.1, BP.2.2.2.2.2.2.2.2.2.2.2.2.2)) [.ref oZ, .int p1] (some (.int r)) (zwZ oZ oN oT oK oH oP oV BZ ++ zwS c3.1 oN ((BN.1.1, BN.1.2), (BN.2.1.1, BN.2.1.2), BN.2.2.1, BN.2.2.2.1, BN.2.2.2.2) ++ zwH c3.1 oH BH ++ zwP c3.2.1 oP (BP.1, BP.2.1, BP.2.2.1, BP.2.2.2.1, BP.2.2.2.2.1, BP.2.2.2.2.2.1, BP.2.2.2.2.2.2.1, BP.2.2.2.2.2.2.2.1, BP.2.2.2.2.2.2.2.2.1, BP.2.2.2.2.2.2.2.2.2.1, BP.2.2.2.2.2.2.2.2.2.2.1, BP.2.2.2.2.2.2.2.2.2.2.2.1, BP.2.2.2.2.2.2.2.2.2.2.2.2.1, BP.2.2.2.2.2.2.2.2.2.2.2.2.2)) := by
  obtain ⟨Zss, rfl⟩ : ∃ y, y = BZ := ⟨_, rfl⟩
  obtain ⟨⟨Nzr, Nzf⟩, ⟨Nvr, Nvf⟩, Nnm, Npd, Nnt⟩ := BN
  obtain ⟨Hhs, rfl⟩ : ∃ y, y = BH := ⟨_, rfl⟩
  obtain ⟨Psg, Pln, Pat, Pvl, Plo, Phi, Pso, Pha, Pla, Pgr, Pro, Pde, Pdk, Pam⟩ := BP
  have hf : f_X5_count Nzr Nvr Nvf Nnm Npd Hhs Pln p1 = some (r) := hf
  show zM l yX5_count wsX5_count ⟨2, 0, 0, 47⟩ G c3 (zwZ oZ oN oT oK oH oP oV Zss ++ zwS c3.1 oN ((Nzr, Nzf), (Nvr, Nvf), Nnm, Npd, Nnt) ++ zwH c3.1 oH Hhs ++ zwP c3.2.1 oP (Psg, Pln, Pat, Pvl, Plo, Phi, Pso, Pha, Pla, Pgr, Pro, Pde, Pdk, Pam)) [.ref oZ, .int p1] (some (.int r)) (zwZ oZ oN oT oK oH oP oV Zss ++ zwS c3.1 oN ((Nzr, Nzf), (Nvr, Nvf), Nnm, Npd, Nnt) ++ zwH c3.1 oH Hhs ++ zwP c3.2.1 oP (Psg, Pln, Pat, Pvl, Plo, Phi, Pso, Pha, Pla, Pgr, Pro, Pde, Pdk, Pam))
  refine zM.of (cc := cX5_count) (maxL := 2) (ret := (some .int)) (by decide) rfl (Nat.le_of_ble_eq_true rfl) ?_
  intro p e s m args below meth c A ls S0 hr hlk hC hl
  have S0 : CallFix p m c cX5_count 2 s args wsX5_count RX5 := S0
  have hl : lv_has ls 2 [(0, .ref oZ), (1, .int p1)] := hl
  have hx := S0.1
  have hb := S0.2.1
  obtain ⟨H, hH⟩ : ∃ y, y = s.heap := ⟨_, rfl⟩
  rw [← hH] at hC ⊢
  obtain ⟨locs, hlo⟩ : ∃ y : List Loc, y = [] := ⟨_, rfl⟩
  rw [← hlo] at hC ⊢
  clear hH hlo
  unfold f_X5_count at hf
  refine lv_iload_n hx hb dX5_count_0 rfl (lv_at hl 1 rfl) ?_
  refine lv_iconst (v := 0) hx hb dX5_count_1 (by decide) ?_
  refine lv_bipush (v := 21) hx hb dX5_count_2 (by decide) ?_
  obtain ⟨r1, hr1, hf⟩ := z_bind hf
  refine z_callPi (z_runS (n := 3) (rest := []) (As := [.int p1, .int 0, .int 21]) S0 hC (c_X5_within l G c3 p1 0 21 hr1) [] (by decide) rfl gX5_count_X5_within rfl rfl rfl (by decide +kernel) ⟨Nat.le_of_ble_eq_true rfl, Nat.le_of_ble_eq_true rfl⟩ rfl hl.1 rfl (Nat.le_of_ble_eq_true rfl) dX5_count_4) hC [] rfl (fun H locs hC => ?_)
  refine lv_if_ne (tgt := 12) hx hb dX5_count_7 (by decide) (fun cd2 => ?_) (fun cd2 => ?_)
  · replace hf := z_neg cd2 hf
    refine lv_iload_n hx hb dX5_count_12 rfl (lv_at hl 1 rfl) ?_
    refine lv_bipush (v := 7) hx hb dX5_count_13 (by decide) ?_
    refine lv_icmp_lt (tgt := 36) hx hb dX5_count_15 (by decide) (fun cd3 => ?_) (fun cd3 => ?_)
    · replace hf := z_pos cd3 hf
      refine lv_iload_n hx hb dX5_count_36 rfl (lv_at hl 1 rfl) ?_
      by_cases cd4 : p1 = 0
      · replace hf := z_pos cd4 hf
        refine lv_tableIn (off := 99) (tgt := 136) hx hb dX5_count_37 (by rw [cd4]; decide) (by rw [cd4]; decide) (by rw [cd4]; rfl) (by decide) ?_
        refine lv_aload_n hx hb dX5_count_136 rfl (lv_at hl 0 rfl) ?_
        refine z_get S0 hC (ci := 5) (C := RX5) (T := TX5) (N := 7) (v := .ref oN.1) jX5_count_X5 0 rfl rfl 0 (by decide) kX5_count_10 rfl rfl dX5_count_137 ?_
        refine z_getN S0 hC (host := "ZoneSampler") (ci := 2) (C := RX2) (T := TX2) (N := 5) (v := .ref oN.2.2.1.1) jX5_count_X2 1 rfl rfl 0 (by decide) (by decide +kernel : Cond.fieldLinkNest RX5 47 "ZoneSampler$State" "zones" "LZoneSampler$Table;" "ZoneSampler" ∈ zNW) rfl rfl dX5_count_140 ?_
        obtain ⟨r5, hr5, hf⟩ := z_bind hf
        refine z_callPi (z_runV (n := 0) (rest := []) (As := []) S0 hC (c_X4_rows l G c3 oN.2.2.1 70 (Nzr, Nzf) hr5) [3, 4] (by decide) rfl gX5_count_X4_rows rfl rfl rfl (by decide +kernel) ⟨Nat.le_of_ble_eq_true rfl, Nat.le_of_ble_eq_true rfl⟩ (ci := 4) (q0 := 3) rfl rfl rfl hl.1 rfl (Nat.le_of_ble_eq_true rfl) dX5_count_143) hC [3, 4] rfl (fun H locs hC => ?_)
        have e1 := z_s1 hf
        subst e1
        exact z_iret S0 hr hlk hC dX5_count_146
      replace hf := z_neg cd4 hf
      by_cases cd6 : p1 = 1
      · replace hf := z_pos cd6 hf
        refine lv_tableIn (off := 110) (tgt := 147) hx hb dX5_count_37 (by rw [cd6]; decide) (by rw [cd6]; decide) (by rw [cd6]; rfl) (by decide) ?_
        refine lv_aload_n hx hb dX5_count_147 rfl (lv_at hl 0 rfl) ?_
        refine z_get S0 hC (ci := 5) (C := RX5) (T := TX5) (N := 7) (v := .ref oN.1) jX5_count_X5 0 rfl rfl 0 (by decide) kX5_count_10 rfl rfl dX5_count_148 ?_
        refine z_getN S0 hC (host := "ZoneSampler") (ci := 2) (C := RX2) (T := TX2) (N := 5) (v := .ref oN.2.2.2.1) jX5_count_X2 1 rfl rfl 1 (by decide) (by decide +kernel : Cond.fieldLinkNest RX5 168 "ZoneSampler$State" "voices" "LZoneSampler$Table;" "ZoneSampler" ∈ zNW) rfl rfl dX5_count_151 ?_
        obtain ⟨r7, hr7, hf⟩ := z_bind hf
        refine z_callPi (z_runV (n := 0) (rest := []) (As := []) S0 hC (c_X4_rows l G c3 oN.2.2.2 56 (Nvr, Nvf) hr7) [5, 6] (by decide) rfl gX5_count_X4_rows rfl rfl rfl (by decide +kernel) ⟨Nat.le_of_ble_eq_true rfl, Nat.le_of_ble_eq_true rfl⟩ (ci := 4) (q0 := 5) rfl rfl rfl hl.1 rfl (Nat.le_of_ble_eq_true rfl) dX5_count_154) hC [5, 6] rfl (fun H locs hC => ?_)
        have e1 := z_s1 hf
        subst e1
        exact z_iret S0 hr hlk hC dX5_count_157
      replace hf := z_neg cd6 hf
      by_cases cd8 : p1 = 2
      · replace hf := z_pos cd8 hf
        refine lv_tableIn (off := 121) (tgt := 158) hx hb dX5_count_37 (by rw [cd8]; decide) (by rw [cd8]; decide) (by rw [cd8]; rfl) (by decide) ?_
        refine lv_aload_n hx hb dX5_count_158 rfl (lv_at hl 0 rfl) ?_
        refine z_get S0 hC (ci := 5) (C := RX5) (T := TX5) (N := 7) (v := .ref oN.1) jX5_count_X5 0 rfl rfl 0 (by decide) kX5_count_10 rfl rfl dX5_count_159 ?_
        refine z_getN S0 hC (host := "ZoneSampler") (ci := 2) (C := RX2) (T := TX2) (N := 5) (v := .ref oN.2.2.2.1) jX5_count_X2 1 rfl rfl 1 (by decide) (by decide +kernel : Cond.fieldLinkNest RX5 168 "ZoneSampler$State" "voices" "LZoneSampler$Table;" "ZoneSampler" ∈ zNW) rfl rfl dX5_count_162 ?_
        refine lv_iconst (v := 5) hx hb dX5_count_165 (by decide) ?_
        refine lv_iconst (v := 0) hx hb dX5_count_166 (by decide) ?_
        obtain ⟨r9, hr9, hf⟩ := z_bind hf
        refine z_callPi (z_runV (n := 2) (rest := []) (As := [.int 5, .int 0]) S0 hC (c_X4_rowsWith l G c3 oN.2.2.2 56 (Nvr, Nvf) 5 0 hr9) [5, 6] (by decide) rfl gX5_count_X4_rowsWith rfl rfl rfl (by decide +kernel) ⟨Nat.le_of_ble_eq_true rfl, Nat.le_of_ble_eq_true rfl⟩ (ci := 4) (q0 := 5) rfl rfl rfl hl.1 rfl (Nat.le_of_ble_eq_true rfl) dX5_count_167) hC [5, 6] rfl (fun H locs hC => ?_)
        have e1 := z_s1 hf
        subst e1
        exact z_iret S0 hr hlk hC dX5_count_170
      replace hf := z_neg cd8 hf
      by_cases cd10 : p1 = 3
      · replace hf := z_pos cd10 hf
        refine lv_tableIn (off := 134) (tgt := 171) hx hb dX5_count_37 (by rw [cd10]; decide) (by rw [cd10]; decide) (by rw [cd10]; rfl) (by decide) ?_
        refine lv_aload_n hx hb dX5_count_171 rfl (lv_at hl 0 rfl) ?_
        refine z_get S0 hC (ci := 5) (C := RX5) (T := TX5) (N := 7) (v := .ref oN.1) jX5_count_X5 0 rfl rfl 0 (by decide) kX5_count_10 rfl rfl dX5_count_172 ?_
        refine z_getN S0 hC (host := "ZoneSampler") (ci := 2) (C := RX2) (T := TX2) (N := 5) (v := .ref oN.2.2.2.1) jX5_count_X2 1 rfl rfl 1 (by decide) (by decide +kernel : Cond.fieldLinkNest RX5 168 "ZoneSampler$State" "voices" "LZoneSampler$Table;" "ZoneSampler" ∈ zNW) rfl rfl dX5_count_175 ?_
        refine lv_iconst (v := 5) hx hb dX5_count_178 (by decide) ?_
        refine lv_iconst (v := 1) hx hb dX5_count_179 (by decide) ?_
        obtain ⟨r11, hr11, hf⟩ := z_bind hf
        refine z_callPi (z_runV (n := 2) (rest := []) (As := [.int 5, .int 1]) S0 hC (c_X4_rowsWith l G c3 oN.2.2.2 56 (Nvr, Nvf) 5 1 hr11) [5, 6] (by decide) rfl gX5_count_X4_rowsWith rfl rfl rfl (by decide +kernel) ⟨Nat.le_of_ble_eq_true rfl, Nat.le_of_ble_eq_true rfl⟩ (ci := 4) (q0 := 5) rfl rfl rfl hl.1 rfl (Nat.le_of_ble_eq_true rfl) dX5_count_180) hC [5, 6] rfl (fun H locs hC => ?_)
        have e1 := z_s1 hf
        subst e1
        exact z_iret S0 hr hlk hC dX5_count_183
      replace hf := z_neg cd10 hf
      by_cases cd12 : p1 = 4
      · replace hf := z_pos cd12 hf
        refine lv_tableIn (off := 147) (tgt := 184) hx hb dX5_count_37 (by rw [cd12]; decide) (by rw [cd12]; decide) (by rw [cd12]; rfl) (by decide) ?_
        refine lv_aload_n hx hb dX5_count_184 rfl (lv_at hl 0 rfl) ?_
        refine z_get S0 hC (ci := 5) (C := RX5) (T := TX5) (N := 7) (v := .ref oN.1) jX5_count_X5 0 rfl rfl 0 (by decide) kX5_count_10 rfl rfl dX5_count_185 ?_
        refine z_getN S0 hC (host := "ZoneSampler") (ci := 2) (C := RX2) (T := TX2) (N := 5) (v := .ref oN.2.2.2.1) jX5_count_X2 1 rfl rfl 1 (by decide) (by decide +kernel : Cond.fieldLinkNest RX5 168 "ZoneSampler$State" "voices" "LZoneSampler$Table;" "ZoneSampler" ∈ zNW) rfl rfl dX5_count_188 ?_
        refine lv_iconst (v := 5) hx hb dX5_count_191 (by decide) ?_
        refine lv_iconst (v := 2) hx hb dX5_count_192 (by decide) ?_
        obtain ⟨r13, hr13, hf⟩ := z_bind hf
        refine z_callPi (z_runV (n := 2) (rest := []) (As := [.int 5, .int 2]) S0 hC (c_X4_rowsWith l G c3 oN.2.2.2 56 (Nvr, Nvf) 5 2 hr13) [5, 6] (by decide) rfl gX5_count_X4_rowsWith rfl rfl rfl (by decide +kernel) ⟨Nat.le_of_ble_eq_true rfl, Nat.le_of_ble_eq_true rfl⟩ (ci := 4) (q0 := 5) rfl rfl rfl hl.1 rfl (Nat.le_of_ble_eq_true rfl) dX5_count_193) hC [5, 6] rfl (fun H locs hC => ?_)
        have e1 := z_s1 hf
        subst e1
        exact z_iret S0 hr hlk hC dX5_count_196
      replace hf := z_neg cd12 hf
      by_cases cd14 : p1 = 5
      · replace hf := z_pos cd14 hf
        refine lv_tableIn (off := 160) (tgt := 197) hx hb dX5_count_37 (by rw [cd14]; decide) (by rw [cd14]; decide) (by rw [cd14]; rfl) (by decide) ?_
        refine lv_aload_n hx hb dX5_count_197 rfl (lv_at hl 0 rfl) ?_
        refine z_get S0 hC (ci := 5) (C := RX5) (T := TX5) (N := 7) (v := .ref oN.1) jX5_count_X5 0 rfl rfl 0 (by decide) kX5_count_10 rfl rfl dX5_count_198 ?_
        refine z_getN S0 hC (host := "ZoneSampler") (ci := 2) (C := RX2) (T := TX2) (N := 5) (v := .ref oN.2.2.2.1) jX5_count_X2 1 rfl rfl 1 (by decide) (by decide +kernel : Cond.fieldLinkNest RX5 168 "ZoneSampler$State" "voices" "LZoneSampler$Table;" "ZoneSampler" ∈ zNW) rfl rfl dX5_count_201 ?_
        refine lv_iconst (v := 3) hx hb dX5_count_204 (by decide) ?_
        obtain ⟨r15, hr15, hf⟩ := z_bind hf
        refine z_callPi (z_runV (n := 1) (rest := []) (As := [.int 3]) S0 hC (c_X4_sumOf l G c3 oN.2.2.2 56 (Nvr, Nvf) 3 hr15) [5, 6] (by decide) rfl gX5_count_X4_sumOf rfl rfl rfl (by decide +kernel) ⟨Nat.le_of_ble_eq_true rfl, Nat.le_of_ble_eq_true rfl⟩ (ci := 4) (q0 := 5) rfl rfl rfl hl.1 rfl (Nat.le_of_ble_eq_true rfl) dX5_count_205) hC [5, 6] rfl (fun H locs hC => ?_)
        have e1 := z_s1 hf
        subst e1
        exact z_iret S0 hr hlk hC dX5_count_208
      replace hf := z_neg cd14 hf
      by_cases cd16 : p1 = 6
      · replace hf := z_pos cd16 hf
        refine lv_tableIn (off := 172) (tgt := 209) hx hb dX5_count_37 (by rw [cd16]; decide) (by rw [cd16]; decide) (by rw [cd16]; rfl) (by decide) ?_
        refine lv_aload_n hx hb dX5_count_209 rfl (lv_at hl 0 rfl) ?_
        refine z_get S0 hC (ci := 5) (C := RX5) (T := TX5) (N := 7) (v := .ref oN.1) jX5_count_X5 0 rfl rfl 0 (by decide) kX5_count_10 rfl rfl dX5_count_210 ?_
        refine z_getN S0 hC (host := "ZoneSampler") (ci := 2) (C := RX2) (T := TX2) (N := 5) (v := .int Npd) jX5_count_X2 1 rfl rfl 3 (by decide) (by decide +kernel : Cond.fieldLinkNest RX5 195 "ZoneSampler$State" "pedalDown" "Z" "ZoneSampler" ∈ zNW) rfl rfl dX5_count_213 ?_
        refine lv_if_eq (tgt := 223) hx hb dX5_count_216 (by decide) (fun cd17 => ?_) (fun cd17 => ?_)
        · replace hf := z_pos cd17 hf
          refine lv_iconst (v := 0) hx hb dX5_count_223 (by decide) ?_
          have e1 := z_s1 hf
          subst e1
          exact z_iret S0 hr hlk hC dX5_count_224
        · replace hf := z_neg cd17 hf
          refine lv_iconst (v := 1) hx hb dX5_count_219 (by decide) ?_
          refine lv_goto (tgt := 224) hx hb dX5_count_220 (by decide) ?_
          have e1 := z_s1 hf
          subst e1
          exact z_iret S0 hr hlk hC dX5_count_224
      replace hf := z_neg cd16 hf
      by_cases cd18 : p1 = 20
      · replace hf := z_pos cd18 hf
        refine lv_tableIn (off := 188) (tgt := 225) hx hb dX5_count_37 (by rw [cd18]; decide) (by rw [cd18]; decide) (by rw [cd18]; rfl) (by decide) ?_
        refine lv_aload_n hx hb dX5_count_225 rfl (lv_at hl 0 rfl) ?_
        refine z_get S0 hC (ci := 5) (C := RX5) (T := TX5) (N := 7) (v := .ref oP.1) jX5_count_X5 0 rfl rfl 4 (by decide) kX5_count_32 rfl rfl dX5_count_226 ?_
        obtain ⟨r19, hr19, hf⟩ := z_bind hf
        refine z_callPi (z_runV (n := 0) (rest := []) (As := []) S0 hC (c_X1_length l G c3 oP (Psg, Pln, Pat, Pvl, Plo, Phi, Pso, Pha, Pla, Pgr, Pro, Pde, Pdk, Pam) hr19) [32, 33] (by decide) rfl gX5_count_X1_length rfl rfl rfl (by decide +kernel) ⟨Nat.le_of_ble_eq_true rfl, Nat.le_of_ble_eq_true rfl⟩ (ci := 1) (q0 := 32) rfl rfl rfl hl.1 rfl (Nat.le_of_ble_eq_true rfl) dX5_count_229) hC [32, 33] rfl (fun H locs hC => ?_)
        have e1 := z_s1 hf
        subst e1
        exact z_iret S0 hr hlk hC dX5_count_232
      replace hf := z_neg cd18 hf
      have D37 : W p l e ⟨2, 0, 0, 47⟩ s m args below meth c H locs 0 0 (MQ below (zPost G (zwZ oZ oN oT oK oH oP oV Zss ++ zwS c3.1 oN ((Nzr, Nzf), (Nvr, Nvf), Nnm, Npd, Nnt) ++ zwH c3.1 oH Hhs ++ zwP c3.2.1 oP (Psg, Pln, Pat, Pvl, Plo, Phi, Pso, Pha, Pla, Pgr, Pro, Pde, Pdk, Pam)) (some (.int r)) A) args s 0 0 A) (F0 m 233 ls []) := by
        refine lv_aload_n hx hb dX5_count_233 rfl (lv_at hl 0 rfl) ?_
        refine z_get S0 hC (ci := 5) (C := RX5) (T := TX5) (N := 7) (v := .ref oH) jX5_count_X5 0 rfl rfl 3 (by decide) kX5_count_25 rfl rfl dX5_count_234 ?_
        obtain ⟨r20, hr20, hf⟩ := z_bind hf
        refine z_callPi (z_runV (n := 0) (rest := []) (As := []) S0 hC (c_X0_size l G c3 oH Hhs hr20) [7, 8, 9, 10, 11, 12, 13, 14, 15, 16, 17, 18, 19, 20, 21, 22, 23, 24, 25, 26, 27, 28, 29, 30, 31] (by decide) rfl gX5_count_X0_size rfl rfl rfl (by decide +kernel) ⟨Nat.le_of_ble_eq_true rfl, Nat.le_of_ble_eq_true rfl⟩ (ci := 0) (q0 := 7) rfl rfl rfl hl.1 rfl (Nat.le_of_ble_eq_true rfl) dX5_count_237) hC [7, 8, 9, 10, 11, 12, 13, 14, 15, 16, 17, 18, 19, 20, 21, 22, 23, 24, 25, 26, 27, 28, 29, 30, 31] rfl (fun H locs hC => ?_)
        have e1 := z_s1 hf
        subst e1
        exact z_iret S0 hr hlk hC dX5_count_240
      by_cases cd21 : p1 = 7
      · exact lv_tableIn (off := 196) (tgt := 233) hx hb dX5_count_37 (by rw [cd21]; decide) (by rw [cd21]; decide) (by rw [cd21]; rfl) (by decide) D37
      by_cases cd22 : p1 = 8
      · exact lv_tableIn (off := 196) (tgt := 233) hx hb dX5_count_37 (by rw [cd22]; decide) (by rw [cd22]; decide) (by rw [cd22]; rfl) (by decide) D37
      by_cases cd23 : p1 = 9
      · exact lv_tableIn (off := 196) (tgt := 233) hx hb dX5_count_37 (by rw [cd23]; decide) (by rw [cd23]; decide) (by rw [cd23]; rfl) (by decide) D37
      by_cases cd24 : p1 = 10
      · exact lv_tableIn (off := 196) (tgt := 233) hx hb dX5_count_37 (by rw [cd24]; decide) (by rw [cd24]; decide) (by rw [cd24]; rfl) (by decide) D37
      by_cases cd25 : p1 = 11
      · exact lv_tableIn (off := 196) (tgt := 233) hx hb dX5_count_37 (by rw [cd25]; decide) (by rw [cd25]; decide) (by rw [cd25]; rfl) (by decide) D37
      by_cases cd26 : p1 = 12
      · exact lv_tableIn (off := 196) (tgt := 233) hx hb dX5_count_37 (by rw [cd26]; decide) (by rw [cd26]; decide) (by rw [cd26]; rfl) (by decide) D37
      by_cases cd27 : p1 = 13
      · exact lv_tableIn (off := 196) (tgt := 233) hx hb dX5_count_37 (by rw [cd27]; decide) (by rw [cd27]; decide) (by rw [cd27]; rfl) (by decide) D37
      by_cases cd28 : p1 = 14
      · exact lv_tableIn (off := 196) (tgt := 233) hx hb dX5_count_37 (by rw [cd28]; decide) (by rw [cd28]; decide) (by rw [cd28]; rfl) (by decide) D37
      by_cases cd29 : p1 = 15
      · exact lv_tableIn (off := 196) (tgt := 233) hx hb dX5_count_37 (by rw [cd29]; decide) (by rw [cd29]; decide) (by rw [cd29]; rfl) (by decide) D37
      by_cases cd30 : p1 = 16
      · exact lv_tableIn (off := 196) (tgt := 233) hx hb dX5_count_37 (by rw [cd30]; decide) (by rw [cd30]; decide) (by rw [cd30]; rfl) (by decide) D37
      by_cases cd31 : p1 = 17
      · exact lv_tableIn (off := 196) (tgt := 233) hx hb dX5_count_37 (by rw [cd31]; decide) (by rw [cd31]; decide) (by rw [cd31]; rfl) (by decide) D37
      by_cases cd32 : p1 = 18
      · exact lv_tableIn (off := 196) (tgt := 233) hx hb dX5_count_37 (by rw [cd32]; decide) (by rw [cd32]; decide) (by rw [cd32]; rfl) (by decide) D37
      by_cases cd33 : p1 = 19
      · exact lv_tableIn (off := 196) (tgt := 233) hx hb dX5_count_37 (by rw [cd33]; decide) (by rw [cd33]; decide) (by rw [cd33]; rfl) (by decide) D37
      have e0_37 : (p1).toInt ≠ 0 := fun h => cd4 (Int32.toInt_inj.mp (h.trans (by decide)))
      have e1_37 : (p1).toInt ≠ 1 := fun h => cd6 (Int32.toInt_inj.mp (h.trans (by decide)))
      have e2_37 : (p1).toInt ≠ 2 := fun h => cd8 (Int32.toInt_inj.mp (h.trans (by decide)))
      have e3_37 : (p1).toInt ≠ 3 := fun h => cd10 (Int32.toInt_inj.mp (h.trans (by decide)))
      have e4_37 : (p1).toInt ≠ 4 := fun h => cd12 (Int32.toInt_inj.mp (h.trans (by decide)))
      have e5_37 : (p1).toInt ≠ 5 := fun h => cd14 (Int32.toInt_inj.mp (h.trans (by decide)))
      have e6_37 : (p1).toInt ≠ 6 := fun h => cd16 (Int32.toInt_inj.mp (h.trans (by decide)))
      have e20_37 : (p1).toInt ≠ 20 := fun h => cd18 (Int32.toInt_inj.mp (h.trans (by decide)))
      have e7_37 : (p1).toInt ≠ 7 := fun h => cd21 (Int32.toInt_inj.mp (h.trans (by decide)))
      have e8_37 : (p1).toInt ≠ 8 := fun h => cd22 (Int32.toInt_inj.mp (h.trans (by decide)))
      have e9_37 : (p1).toInt ≠ 9 := fun h => cd23 (Int32.toInt_inj.mp (h.trans (by decide)))
      have e10_37 : (p1).toInt ≠ 10 := fun h => cd24 (Int32.toInt_inj.mp (h.trans (by decide)))
      have e11_37 : (p1).toInt ≠ 11 := fun h => cd25 (Int32.toInt_inj.mp (h.trans (by decide)))
      have e12_37 : (p1).toInt ≠ 12 := fun h => cd26 (Int32.toInt_inj.mp (h.trans (by decide)))
      have e13_37 : (p1).toInt ≠ 13 := fun h => cd27 (Int32.toInt_inj.mp (h.trans (by decide)))
      have e14_37 : (p1).toInt ≠ 14 := fun h => cd28 (Int32.toInt_inj.mp (h.trans (by decide)))
      have e15_37 : (p1).toInt ≠ 15 := fun h => cd29 (Int32.toInt_inj.mp (h.trans (by decide)))
      have e16_37 : (p1).toInt ≠ 16 := fun h => cd30 (Int32.toInt_inj.mp (h.trans (by decide)))
      have e17_37 : (p1).toInt ≠ 17 := fun h => cd31 (Int32.toInt_inj.mp (h.trans (by decide)))
      have e18_37 : (p1).toInt ≠ 18 := fun h => cd32 (Int32.toInt_inj.mp (h.trans (by decide)))
      have e19_37 : (p1).toInt ≠ 19 := fun h => cd33 (Int32.toInt_inj.mp (h.trans (by decide)))
      exact lv_tableOut (tgt := 233) hx hb dX5_count_37 (by omega) (by decide) D37
    · replace hf := z_neg cd3 hf
      refine lv_iload_n hx hb dX5_count_18 rfl (lv_at hl 1 rfl) ?_
      refine lv_bipush (v := 20) hx hb dX5_count_19 (by decide) ?_
      refine lv_icmp_ge (tgt := 36) hx hb dX5_count_21 (by decide) (fun cd34 => ?_) (fun cd34 => ?_)
      · replace hf := z_pos cd34 hf
        refine lv_iload_n hx hb dX5_count_36 rfl (lv_at hl 1 rfl) ?_
        by_cases cd35 : p1 = 0
        · replace hf := z_pos cd35 hf
          refine lv_tableIn (off := 99) (tgt := 136) hx hb dX5_count_37 (by rw [cd35]; decide) (by rw [cd35]; decide) (by rw [cd35]; rfl) (by decide) ?_
          refine lv_aload_n hx hb dX5_count_136 rfl (lv_at hl 0 rfl) ?_
          refine z_get S0 hC (ci := 5) (C := RX5) (T := TX5) (N := 7) (v := .ref oN.1) jX5_count_X5 0 rfl rfl 0 (by decide) kX5_count_10 rfl rfl dX5_count_137 ?_
          refine z_getN S0 hC (host := "ZoneSampler") (ci := 2) (C := RX2) (T := TX2) (N := 5) (v := .ref oN.2.2.1.1) jX5_count_X2 1 rfl rfl 0 (by decide) (by decide +kernel : Cond.fieldLinkNest RX5 47 "ZoneSampler$State" "zones" "LZoneSampler$Table;" "ZoneSampler" ∈ zNW) rfl rfl dX5_count_140 ?_
          obtain ⟨r36, hr36, hf⟩ := z_bind hf
          refine z_callPi (z_runV (n := 0) (rest := []) (As := []) S0 hC (c_X4_rows l G c3 oN.2.2.1 70 (Nzr, Nzf) hr36) [3, 4] (by decide) rfl gX5_count_X4_rows rfl rfl rfl (by decide +kernel) ⟨Nat.le_of_ble_eq_true rfl, Nat.le_of_ble_eq_true rfl⟩ (ci := 4) (q0 := 3) rfl rfl rfl hl.1 rfl (Nat.le_of_ble_eq_true rfl) dX5_count_143) hC [3, 4] rfl (fun H locs hC => ?_)
          have e1 := z_s1 hf
          subst e1
          exact z_iret S0 hr hlk hC dX5_count_146
        replace hf := z_neg cd35 hf
        by_cases cd37 : p1 = 1
        · replace hf := z_pos cd37 hf
          refine lv_tableIn (off := 110) (tgt := 147) hx hb dX5_count_37 (by rw [cd37]; decide) (by rw [cd37]; decide) (by rw [cd37]; rfl) (by decide) ?_
          refine lv_aload_n hx hb dX5_count_147 rfl (lv_at hl 0 rfl) ?_
          refine z_get S0 hC (ci := 5) (C := RX5) (T := TX5) (N := 7) (v := .ref oN.1) jX5_count_X5 0 rfl rfl 0 (by decide) kX5_count_10 rfl rfl dX5_count_148 ?_
          refine z_getN S0 hC (host := "ZoneSampler") (ci := 2) (C := RX2) (T := TX2) (N := 5) (v := .ref oN.2.2.2.1) jX5_count_X2 1 rfl rfl 1 (by decide) (by decide +kernel : Cond.fieldLinkNest RX5 168 "ZoneSampler$State" "voices" "LZoneSampler$Table;" "ZoneSampler" ∈ zNW) rfl rfl dX5_count_151 ?_
          obtain ⟨r38, hr38, hf⟩ := z_bind hf
          refine z_callPi (z_runV (n := 0) (rest := []) (As := []) S0 hC (c_X4_rows l G c3 oN.2.2.2 56 (Nvr, Nvf) hr38) [5, 6] (by decide) rfl gX5_count_X4_rows rfl rfl rfl (by decide +kernel) ⟨Nat.le_of_ble_eq_true rfl, Nat.le_of_ble_eq_true rfl⟩ (ci := 4) (q0 := 5) rfl rfl rfl hl.1 rfl (Nat.le_of_ble_eq_true rfl) dX5_count_154) hC [5, 6] rfl (fun H locs hC => ?_)
          have e1 := z_s1 hf
          subst e1
          exact z_iret S0 hr hlk hC dX5_count_157
        replace hf := z_neg cd37 hf
        by_cases cd39 : p1 = 2
        · replace hf := z_pos cd39 hf
          refine lv_tableIn (off := 121) (tgt := 158) hx hb dX5_count_37 (by rw [cd39]; decide) (by rw [cd39]; decide) (by rw [cd39]; rfl) (by decide) ?_
          refine lv_aload_n hx hb dX5_count_158 rfl (lv_at hl 0 rfl) ?_
          refine z_get S0 hC (ci := 5) (C := RX5) (T := TX5) (N := 7) (v := .ref oN.1) jX5_count_X5 0 rfl rfl 0 (by decide) kX5_count_10 rfl rfl dX5_count_159 ?_
          refine z_getN S0 hC (host := "ZoneSampler") (ci := 2) (C := RX2) (T := TX2) (N := 5) (v := .ref oN.2.2.2.1) jX5_count_X2 1 rfl rfl 1 (by decide) (by decide +kernel : Cond.fieldLinkNest RX5 168 "ZoneSampler$State" "voices" "LZoneSampler$Table;" "ZoneSampler" ∈ zNW) rfl rfl dX5_count_162 ?_
          refine lv_iconst (v := 5) hx hb dX5_count_165 (by decide) ?_
          refine lv_iconst (v := 0) hx hb dX5_count_166 (by decide) ?_
          obtain ⟨r40, hr40, hf⟩ := z_bind hf
          refine z_callPi (z_runV (n := 2) (rest := []) (As := [.int 5, .int 0]) S0 hC (c_X4_rowsWith l G c3 oN.2.2.2 56 (Nvr, Nvf) 5 0 hr40) [5, 6] (by decide) rfl gX5_count_X4_rowsWith rfl rfl rfl (by decide +kernel) ⟨Nat.le_of_ble_eq_true rfl, Nat.le_of_ble_eq_true rfl⟩ (ci := 4) (q0 := 5) rfl rfl rfl hl.1 rfl (Nat.le_of_ble_eq_true rfl) dX5_count_167) hC [5, 6] rfl (fun H locs hC => ?_)
          have e1 := z_s1 hf
          subst e1
          exact z_iret S0 hr hlk hC dX5_count_170
        replace hf := z_neg cd39 hf
        by_cases cd41 : p1 = 3
        · replace hf := z_pos cd41 hf
          refine lv_tableIn (off := 134) (tgt := 171) hx hb dX5_count_37 (by rw [cd41]; decide) (by rw [cd41]; decide) (by rw [cd41]; rfl) (by decide) ?_
          refine lv_aload_n hx hb dX5_count_171 rfl (lv_at hl 0 rfl) ?_
          refine z_get S0 hC (ci := 5) (C := RX5) (T := TX5) (N := 7) (v := .ref oN.1) jX5_count_X5 0 rfl rfl 0 (by decide) kX5_count_10 rfl rfl dX5_count_172 ?_
          refine z_getN S0 hC (host := "ZoneSampler") (ci := 2) (C := RX2) (T := TX2) (N := 5) (v := .ref oN.2.2.2.1) jX5_count_X2 1 rfl rfl 1 (by decide) (by decide +kernel : Cond.fieldLinkNest RX5 168 "ZoneSampler$State" "voices" "LZoneSampler$Table;" "ZoneSampler" ∈ zNW) rfl rfl dX5_count_175 ?_
          refine lv_iconst (v := 5) hx hb dX5_count_178 (by decide) ?_
          refine lv_iconst (v := 1) hx hb dX5_count_179 (by decide) ?_
          obtain ⟨r42, hr42, hf⟩ := z_bind hf
          refine z_callPi (z_runV (n := 2) (rest := []) (As := [.int 5, .int 1]) S0 hC (c_X4_rowsWith l G c3 oN.2.2.2 56 (Nvr, Nvf) 5 1 hr42) [5, 6] (by decide) rfl gX5_count_X4_rowsWith rfl rfl rfl (by decide +kernel) ⟨Nat.le_of_ble_eq_true rfl, Nat.le_of_ble_eq_true rfl⟩ (ci := 4) (q0 := 5) rfl rfl rfl hl.1 rfl (Nat.le_of_ble_eq_true rfl) dX5_count_180) hC [5, 6] rfl (fun H locs hC => ?_)
          have e1 := z_s1 hf
          subst e1
          exact z_iret S0 hr hlk hC dX5_count_183
        replace hf := z_neg cd41 hf
        by_cases cd43 : p1 = 4
        · replace hf := z_pos cd43 hf
          refine lv_tableIn (off := 147) (tgt := 184) hx hb dX5_count_37 (by rw [cd43]; decide) (by rw [cd43]; decide) (by rw [cd43]; rfl) (by decide) ?_
          refine lv_aload_n hx hb dX5_count_184 rfl (lv_at hl 0 rfl) ?_
          refine z_get S0 hC (ci := 5) (C := RX5) (T := TX5) (N := 7) (v := .ref oN.1) jX5_count_X5 0 rfl rfl 0 (by decide) kX5_count_10 rfl rfl dX5_count_185 ?_
          refine z_getN S0 hC (host := "ZoneSampler") (ci := 2) (C := RX2) (T := TX2) (N := 5) (v := .ref oN.2.2.2.1) jX5_count_X2 1 rfl rfl 1 (by decide) (by decide +kernel : Cond.fieldLinkNest RX5 168 "ZoneSampler$State" "voices" "LZoneSampler$Table;" "ZoneSampler" ∈ zNW) rfl rfl dX5_count_188 ?_
          refine lv_iconst (v := 5) hx hb dX5_count_191 (by decide) ?_
          refine lv_iconst (v := 2) hx hb dX5_count_192 (by decide) ?_
          obtain ⟨r44, hr44, hf⟩ := z_bind hf
          refine z_callPi (z_runV (n := 2) (rest := []) (As := [.int 5, .int 2]) S0 hC (c_X4_rowsWith l G c3 oN.2.2.2 56 (Nvr, Nvf) 5 2 hr44) [5, 6] (by decide) rfl gX5_count_X4_rowsWith rfl rfl rfl (by decide +kernel) ⟨Nat.le_of_ble_eq_true rfl, Nat.le_of_ble_eq_true rfl⟩ (ci := 4) (q0 := 5) rfl rfl rfl hl.1 rfl (Nat.le_of_ble_eq_true rfl) dX5_count_193) hC [5, 6] rfl (fun H locs hC => ?_)
          have e1 := z_s1 hf
          subst e1
          exact z_iret S0 hr hlk hC dX5_count_196
        replace hf := z_neg cd43 hf
        by_cases cd45 : p1 = 5
        · replace hf := z_pos cd45 hf
          refine lv_tableIn (off := 160) (tgt := 197) hx hb dX5_count_37 (by rw [cd45]; decide) (by rw [cd45]; decide) (by rw [cd45]; rfl) (by decide) ?_
          refine lv_aload_n hx hb dX5_count_197 rfl (lv_at hl 0 rfl) ?_
          refine z_get S0 hC (ci := 5) (C := RX5) (T := TX5) (N := 7) (v := .ref oN.1) jX5_count_X5 0 rfl rfl 0 (by decide) kX5_count_10 rfl rfl dX5_count_198 ?_
          refine z_getN S0 hC (host := "ZoneSampler") (ci := 2) (C := RX2) (T := TX2) (N := 5) (v := .ref oN.2.2.2.1) jX5_count_X2 1 rfl rfl 1 (by decide) (by decide +kernel : Cond.fieldLinkNest RX5 168 "ZoneSampler$State" "voices" "LZoneSampler$Table;" "ZoneSampler" ∈ zNW) rfl rfl dX5_count_201 ?_
          refine lv_iconst (v := 3) hx hb dX5_count_204 (by decide) ?_
          obtain ⟨r46, hr46, hf⟩ := z_bind hf
          refine z_callPi (z_runV (n := 1) (rest := []) (As := [.int 3]) S0 hC (c_X4_sumOf l G c3 oN.2.2.2 56 (Nvr, Nvf) 3 hr46) [5, 6] (by decide) rfl gX5_count_X4_sumOf rfl rfl rfl (by decide +kernel) ⟨Nat.le_of_ble_eq_true rfl, Nat.le_of_ble_eq_true rfl⟩ (ci := 4) (q0 := 5) rfl rfl rfl hl.1 rfl (Nat.le_of_ble_eq_true rfl) dX5_count_205) hC [5, 6] rfl (fun H locs hC => ?_)
          have e1 := z_s1 hf
          subst e1
          exact z_iret S0 hr hlk hC dX5_count_208
        replace hf := z_neg cd45 hf
        by_cases cd47 : p1 = 6
        · replace hf := z_pos cd47 hf
          refine lv_tableIn (off := 172) (tgt := 209) hx hb dX5_count_37 (by rw [cd47]; decide) (by rw [cd47]; decide) (by rw [cd47]; rfl) (by decide) ?_
          refine lv_aload_n hx hb dX5_count_209 rfl (lv_at hl 0 rfl) ?_
          refine z_get S0 hC (ci := 5) (C := RX5) (T := TX5) (N := 7) (v := .ref oN.1) jX5_count_X5 0 rfl rfl 0 (by decide) kX5_count_10 rfl rfl dX5_count_210 ?_
          refine z_getN S0 hC (host := "ZoneSampler") (ci := 2) (C := RX2) (T := TX2) (N := 5) (v := .int Npd) jX5_count_X2 1 rfl rfl 3 (by decide) (by decide +kernel : Cond.fieldLinkNest RX5 195 "ZoneSampler$State" "pedalDown" "Z" "ZoneSampler" ∈ zNW) rfl rfl dX5_count_213 ?_
          refine lv_if_eq (tgt := 223) hx hb dX5_count_216 (by decide) (fun cd48 => ?_) (fun cd48 => ?_)
          · replace hf := z_pos cd48 hf
            refine lv_iconst (v := 0) hx hb dX5_count_223 (by decide) ?_
            have e1 := z_s1 hf
            subst e1
            exact z_iret S0 hr hlk hC dX5_count_224
          · replace hf := z_neg cd48 hf
            refine lv_iconst (v := 1) hx hb dX5_count_219 (by decide) ?_
            refine lv_goto (tgt := 224) hx hb dX5_count_220 (by decide) ?_
            have e1 := z_s1 hf
            subst e1
            exact z_iret S0 hr hlk hC dX5_count_224
        replace hf := z_neg cd47 hf
        by_cases cd49 : p1 = 20
        · replace hf := z_pos cd49 hf
          refine lv_tableIn (off := 188) (tgt := 225) hx hb dX5_count_37 (by rw [cd49]; decide) (by rw [cd49]; decide) (by rw [cd49]; rfl) (by decide) ?_
          refine lv_aload_n hx hb dX5_count_225 rfl (lv_at hl 0 rfl) ?_
          refine z_get S0 hC (ci := 5) (C := RX5) (T := TX5) (N := 7) (v := .ref oP.1) jX5_count_X5 0 rfl rfl 4 (by decide) kX5_count_32 rfl rfl dX5_count_226 ?_
          obtain ⟨r50, hr50, hf⟩ := z_bind hf
          refine z_callPi (z_runV (n := 0) (rest := []) (As := []) S0 hC (c_X1_length l G c3 oP (Psg, Pln, Pat, Pvl, Plo, Phi, Pso, Pha, Pla, Pgr, Pro, Pde, Pdk, Pam) hr50) [32, 33] (by decide) rfl gX5_count_X1_length rfl rfl rfl (by decide +kernel) ⟨Nat.le_of_ble_eq_true rfl, Nat.le_of_ble_eq_true rfl⟩ (ci := 1) (q0 := 32) rfl rfl rfl hl.1 rfl (Nat.le_of_ble_eq_true rfl) dX5_count_229) hC [32, 33] rfl (fun H locs hC => ?_)
          have e1 := z_s1 hf
          subst e1
          exact z_iret S0 hr hlk hC dX5_count_232
        replace hf := z_neg cd49 hf
        have D37 : W p l e ⟨2, 0, 0, 47⟩ s m args below meth c H locs 0 0 (MQ below (zPost G (zwZ oZ oN oT oK oH oP oV Zss ++ zwS c3.1 oN ((Nzr, Nzf), (Nvr, Nvf), Nnm, Npd, Nnt) ++ zwH c3.1 oH Hhs ++ zwP c3.2.1 oP (Psg, Pln, Pat, Pvl, Plo, Phi, Pso, Pha, Pla, Pgr, Pro, Pde, Pdk, Pam)) (some (.int r)) A) args s 0 0 A) (F0 m 233 ls []) := by
          refine lv_aload_n hx hb dX5_count_233 rfl (lv_at hl 0 rfl) ?_
          refine z_get S0 hC (ci := 5) (C := RX5) (T := TX5) (N := 7) (v := .ref oH) jX5_count_X5 0 rfl rfl 3 (by decide) kX5_count_25 rfl rfl dX5_count_234 ?_
          obtain ⟨r51, hr51, hf⟩ := z_bind hf
          refine z_callPi (z_runV (n := 0) (rest := []) (As := []) S0 hC (c_X0_size l G c3 oH Hhs hr51) [7, 8, 9, 10, 11, 12, 13, 14, 15, 16, 17, 18, 19, 20, 21, 22, 23, 24, 25, 26, 27, 28, 29, 30, 31] (by decide) rfl gX5_count_X0_size rfl rfl rfl (by decide +kernel) ⟨Nat.le_of_ble_eq_true rfl, Nat.le_of_ble_eq_true rfl⟩ (ci := 0) (q0 := 7) rfl rfl rfl hl.1 rfl (Nat.le_of_ble_eq_true rfl) dX5_count_237) hC [7, 8, 9, 10, 11, 12, 13, 14, 15, 16, 17, 18, 19, 20, 21, 22, 23, 24, 25, 26, 27, 28, 29, 30, 31] rfl (fun H locs hC => ?_)
          have e1 := z_s1 hf
          subst e1
          exact z_iret S0 hr hlk hC dX5_count_240
        by_cases cd52 : p1 = 7
        · exact lv_tableIn (off := 196) (tgt := 233) hx hb dX5_count_37 (by rw [cd52]; decide) (by rw [cd52]; decide) (by rw [cd52]; rfl) (by decide) D37
        by_cases cd53 : p1 = 8
        · exact lv_tableIn (off := 196) (tgt := 233) hx hb dX5_count_37 (by rw [cd53]; decide) (by rw [cd53]; decide) (by rw [cd53]; rfl) (by decide) D37
        by_cases cd54 : p1 = 9
        · exact lv_tableIn (off := 196) (tgt := 233) hx hb dX5_count_37 (by rw [cd54]; decide) (by rw [cd54]; decide) (by rw [cd54]; rfl) (by decide) D37
        by_cases cd55 : p1 = 10
        · exact lv_tableIn (off := 196) (tgt := 233) hx hb dX5_count_37 (by rw [cd55]; decide) (by rw [cd55]; decide) (by rw [cd55]; rfl) (by decide) D37
        by_cases cd56 : p1 = 11
        · exact lv_tableIn (off := 196) (tgt := 233) hx hb dX5_count_37 (by rw [cd56]; decide) (by rw [cd56]; decide) (by rw [cd56]; rfl) (by decide) D37
        by_cases cd57 : p1 = 12
        · exact lv_tableIn (off := 196) (tgt := 233) hx hb dX5_count_37 (by rw [cd57]; decide) (by rw [cd57]; decide) (by rw [cd57]; rfl) (by decide) D37
        by_cases cd58 : p1 = 13
        · exact lv_tableIn (off := 196) (tgt := 233) hx hb dX5_count_37 (by rw [cd58]; decide) (by rw [cd58]; decide) (by rw [cd58]; rfl) (by decide) D37
        by_cases cd59 : p1 = 14
        · exact lv_tableIn (off := 196) (tgt := 233) hx hb dX5_count_37 (by rw [cd59]; decide) (by rw [cd59]; decide) (by rw [cd59]; rfl) (by decide) D37
        by_cases cd60 : p1 = 15
        · exact lv_tableIn (off := 196) (tgt := 233) hx hb dX5_count_37 (by rw [cd60]; decide) (by rw [cd60]; decide) (by rw [cd60]; rfl) (by decide) D37
        by_cases cd61 : p1 = 16
        · exact lv_tableIn (off := 196) (tgt := 233) hx hb dX5_count_37 (by rw [cd61]; decide) (by rw [cd61]; decide) (by rw [cd61]; rfl) (by decide) D37
        by_cases cd62 : p1 = 17
        · exact lv_tableIn (off := 196) (tgt := 233) hx hb dX5_count_37 (by rw [cd62]; decide) (by rw [cd62]; decide) (by rw [cd62]; rfl) (by decide) D37
        by_cases cd63 : p1 = 18
        · exact lv_tableIn (off := 196) (tgt := 233) hx hb dX5_count_37 (by rw [cd63]; decide) (by rw [cd63]; decide) (by rw [cd63]; rfl) (by decide) D37
        by_cases cd64 : p1 = 19
        · exact lv_tableIn (off := 196) (tgt := 233) hx hb dX5_count_37 (by rw [cd64]; decide) (by rw [cd64]; decide) (by rw [cd64]; rfl) (by decide) D37
        have e0_37 : (p1).toInt ≠ 0 := fun h => cd35 (Int32.toInt_inj.mp (h.trans (by decide)))
        have e1_37 : (p1).toInt ≠ 1 := fun h => cd37 (Int32.toInt_inj.mp (h.trans (by decide)))
        have e2_37 : (p1).toInt ≠ 2 := fun h => cd39 (Int32.toInt_inj.mp (h.trans (by decide)))
        have e3_37 : (p1).toInt ≠ 3 := fun h => cd41 (Int32.toInt_inj.mp (h.trans (by decide)))
        have e4_37 : (p1).toInt ≠ 4 := fun h => cd43 (Int32.toInt_inj.mp (h.trans (by decide)))
        have e5_37 : (p1).toInt ≠ 5 := fun h => cd45 (Int32.toInt_inj.mp (h.trans (by decide)))
        have e6_37 : (p1).toInt ≠ 6 := fun h => cd47 (Int32.toInt_inj.mp (h.trans (by decide)))
        have e20_37 : (p1).toInt ≠ 20 := fun h => cd49 (Int32.toInt_inj.mp (h.trans (by decide)))
        have e7_37 : (p1).toInt ≠ 7 := fun h => cd52 (Int32.toInt_inj.mp (h.trans (by decide)))
        have e8_37 : (p1).toInt ≠ 8 := fun h => cd53 (Int32.toInt_inj.mp (h.trans (by decide)))
        have e9_37 : (p1).toInt ≠ 9 := fun h => cd54 (Int32.toInt_inj.mp (h.trans (by decide)))
        have e10_37 : (p1).toInt ≠ 10 := fun h => cd55 (Int32.toInt_inj.mp (h.trans (by decide)))
        have e11_37 : (p1).toInt ≠ 11 := fun h => cd56 (Int32.toInt_inj.mp (h.trans (by decide)))
        have e12_37 : (p1).toInt ≠ 12 := fun h => cd57 (Int32.toInt_inj.mp (h.trans (by decide)))
        have e13_37 : (p1).toInt ≠ 13 := fun h => cd58 (Int32.toInt_inj.mp (h.trans (by decide)))
        have e14_37 : (p1).toInt ≠ 14 := fun h => cd59 (Int32.toInt_inj.mp (h.trans (by decide)))
        have e15_37 : (p1).toInt ≠ 15 := fun h => cd60 (Int32.toInt_inj.mp (h.trans (by decide)))
        have e16_37 : (p1).toInt ≠ 16 := fun h => cd61 (Int32.toInt_inj.mp (h.trans (by decide)))
        have e17_37 : (p1).toInt ≠ 17 := fun h => cd62 (Int32.toInt_inj.mp (h.trans (by decide)))
        have e18_37 : (p1).toInt ≠ 18 := fun h => cd63 (Int32.toInt_inj.mp (h.trans (by decide)))
        have e19_37 : (p1).toInt ≠ 19 := fun h => cd64 (Int32.toInt_inj.mp (h.trans (by decide)))
        exact lv_tableOut (tgt := 233) hx hb dX5_count_37 (by omega) (by decide) D37
      · replace hf := z_neg cd34 hf
        refine lv_aload_n hx hb dX5_count_24 rfl (lv_at hl 0 rfl) ?_
        refine z_get S0 hC (ci := 5) (C := RX5) (T := TX5) (N := 7) (v := .ref oN.1) jX5_count_X5 0 rfl rfl 0 (by decide) kX5_count_10 rfl rfl dX5_count_25 ?_
        refine lv_iload_n hx hb dX5_count_28 rfl (lv_at hl 1 rfl) ?_
        refine lv_bipush (v := 7) hx hb dX5_count_29 (by decide) ?_
        refine lv_isub hx hb dX5_count_31 ?_
        obtain ⟨r65, hr65, hf⟩ := z_bind hf
        refine z_callPi (z_runV (n := 1) (rest := []) (As := [.int (p1 - 7)]) S0 hC (c_X2_number l G c3 oN ((Nzr, Nzf), (Nvr, Nvf), Nnm, Npd, Nnt) (p1 - 7) hr65) [1, 2, 3, 4, 5, 6] (by decide) rfl gX5_count_X2_number rfl rfl rfl (by decide +kernel) ⟨Nat.le_of_ble_eq_true rfl, Nat.le_of_ble_eq_true rfl⟩ (ci := 2) (q0 := 1) rfl rfl rfl hl.1 rfl (Nat.le_of_ble_eq_true rfl) dX5_count_32) hC [1, 2, 3, 4, 5, 6] rfl (fun H locs hC => ?_)
        have e1 := z_s1 hf
        subst e1
        exact z_iret S0 hr hlk hC dX5_count_35
  · replace hf := z_pos cd2 hf
    refine lv_iconst (v := (-1)) hx hb dX5_count_10 (by decide) ?_
    have e1 := z_s1 hf
    subst e1
    exact z_iret S0 hr hlk hC dX5_count_11

-- X5 ifHit
def f_X5_ifHit (Nzr : Int32) (Nzf : (Nat → Int32)) (Nvr : Int32) (Nvf : (Nat → Int32)) (Nnm : (Nat → Int32)) (Npd : Int32) (Nnt : Int32) (Tzr : Int32) (Tzf : (Nat → Int32)) (Tvr : Int32) (Tvf : (Nat → Int32)) (Tnm : (Nat → Int32)) (Tpd : Int32) (Tnt : Int32) (p1 : Int32) (p2 : Int32) (p3 : Int32) : Option (Int32 × Int32 × (Nat → Int32) × Int32 × (Nat → Int32) × (Nat → Int32) × Int32 × Int32) :=
  (f_X5_isNote p1 p2).bind fun r1 => if r1 = 0 then
    some ((-1), Tzr, Tzf, Tvr, Tvf, Tnm, Tpd, Tnt)
  else
    (f_X5_within p3 0 4).bind fun r3 => if r3 = 0 then
      some ((-1), Tzr, Tzf, Tvr, Tvf, Tnm, Tpd, Tnt)
    else
      if p3 = 3 then
        (f_X2_firstSounding Nzr Nzf Nnm p1 p2).bind fun r16 => some (r16, Tzr, Tzf, Tvr, Tvf, Tnm, Tpd, Tnt)
      else
        (f_X2_copyFrom Tzr Tzf Tvr Tvf Tnm Tpd Tnt Nzr Nzf Nvr Nvf Nnm Npd Nnt).bind fun r6 => (f_X2_strike r6.1 r6.2.1 r6.2.2.1 r6.2.2.2.1 r6.2.2.2.2.1 r6.2.2.2.2.2.2 p1 p2).bind fun r7 => if p3 = 0 then
          some (r7.1, r6.1, r6.2.1, r7.2.1, r7.2.2.1, r7.2.2.2.1, r6.2.2.2.2.2.1, r7.2.2.2.2)
        else
          if p3 = 1 then
            (f_X2_number r7.2.2.2.1 3).bind fun r10 => (f_X2_number Nnm 3).bind fun r11 => some ((r10 - r11), r6.1, r6.2.1, r7.2.1, r7.2.2.1, r7.2.2.2.1, r6.2.2.2.2.2.1, r7.2.2.2.2)
          else
            if p3 = 2 then
              (f_X2_number r7.2.2.2.1 4).bind fun r13 => (f_X2_number Nnm 4).bind fun r14 => some ((r13 - r14), r6.1, r6.2.1, r7.2.1, r7.2.2.1, r7.2.2.2.1, r6.2.2.2.2.2.1, r7.2.2.2.2)
            else
              (f_X4_rows 56 r7.2.1).bind fun r15 => some (r15, r6.1, r6.2.1, r7.2.1, r7.2.2.1, r7.2.2.2.1, r6.2.2.2.2.2.1, r7.2.2.2.2)

theorem kX5_ifHit_16 : Cond.fieldLink RX5 16 "ZoneSampler" "trial" "LZoneSampler$State;" ∈ wsX5_ifHit := by decide +kernel
theorem kX5_ifHit_10 : Cond.fieldLink RX5 10 "ZoneSampler" "now" "LZoneSampler$State;" ∈ wsX5_ifHit := by decide +kernel
theorem jX5_ifHit_X2 : ∀ w ∈ u_ws RX2 TX2 5, w ∈ wsX5_ifHit := by decide +kernel
theorem jX5_ifHit_X5 : ∀ w ∈ u_ws RX5 TX5 7, w ∈ wsX5_ifHit := by decide +kernel
set_option maxHeartbeats 4000000 in
set_option maxRecDepth 100000 in
theorem c_X5_ifHit (l : Launch) (G : va_G) (c3 : zT3) (oZ : Nat) (oN oT oK : zR6) (oH : Nat) (oP oV : zR2) (BZ : Int32) (BN : zSt) (BT : zSt) (p1 : Int32) (p2 : Int32) (p3 : Int32) {r : Int32} {Tzr' : Int32} {Tzf' : (Nat → Int32)} {Tvr' : Int32} {Tvf' : (Nat → Int32)} {Tnm' : (Nat → Int32)} {Tpd' : Int32} {Tnt' : Int32} (hf : f_X5_ifHit BN.1.1 BN.1.2 BN.2.1.1 BN.2.1.2 BN.2.2.1 BN.2.2.2.1 BN.2.2.2.2 BT.1.1 BT.1.2 BT.2.1.1 BT.2.1.2 BT.2.2.1 BT.2.2.2.1 BT.2.2.2.2 p1 p2 p3 = some (r, Tzr', Tzf', Tvr', Tvf', Tnm', Tpd', Tnt')) : zM l yX5_ifHit wsX5_ifHit ⟨5, 0, 0, 116⟩ G c3 (zwZ oZ oN oT oK oH oP oV BZ ++ zwS c3.1 oN ((BN.1.1, BN.1.2), (BN.2.1.1, BN.2.1.2), BN.2.2.1, BN.2.2.2.1, BN.2.2.2.2) ++ zwS c3.1 oT ((BT.1.1, BT.1.2), (BT.2.1.1, BT.2.1.2), BT.2.2.1, BT.2.2.2.1, BT.2.2.2.2)) [.ref oZ, .int p1, .int p2, .int p3] (some (.int r)) (zwZ oZ oN oT oK oH oP oV BZ ++ zwS c3.1 oN ((BN.1.1, BN.1.2), (BN.2.1.1, BN.2.1.2), BN.2.2.1, BN.2.2.2.1, BN.2.2.2.2) ++ zwS c3.1 oT ((Tzr', Tzf'), (Tvr', Tvf'), Tnm', Tpd', Tnt')) := by
  obtain ⟨Zss, rfl⟩ : ∃ y, y = BZ := ⟨_, rfl⟩
  obtain ⟨⟨Nzr, Nzf⟩, ⟨Nvr, Nvf⟩, Nnm, Npd, Nnt⟩ := BN
  obtain ⟨⟨Tzr, Tzf⟩, ⟨Tvr, Tvf⟩, Tnm, Tpd, Tnt⟩ := BT
  have hf : f_X5_ifHit Nzr Nzf Nvr Nvf Nnm Npd Nnt Tzr Tzf Tvr Tvf Tnm Tpd Tnt p1 p2 p3 = some (r, Tzr', Tzf', Tvr', Tvf', Tnm', Tpd', Tnt') := hf
  show zM l yX5_ifHit wsX5_ifHit ⟨5, 0, 0, 116⟩ G c3 (zwZ oZ oN oT oK oH oP oV Zss ++ zwS c3.1 oN ((Nzr, Nzf), (Nvr, Nvf), Nnm, Npd, Nnt) ++ zwS c3.1 oT ((Tzr, Tzf), (Tvr, Tvf), Tnm, Tpd, Tnt)) [.ref oZ, .int p1, .int p2, .int p3] (some (.int r)) (zwZ oZ oN oT oK oH oP oV Zss ++ zwS c3.1 oN ((Nzr, Nzf), (Nvr, Nvf), Nnm, Npd, Nnt) ++ zwS c3.1 oT ((Tzr', Tzf'), (Tvr', Tvf'), Tnm', Tpd', Tnt'))
  refine zM.of (cc := cX5_ifHit) (maxL := 5) (ret := (some .int)) (by decide) rfl (Nat.le_of_ble_eq_true rfl) ?_
  intro p e s m args below meth c A ls S0 hr hlk hC hl
  have S0 : CallFix p m c cX5_ifHit 5 s args wsX5_ifHit RX5 := S0
  have hl : lv_has ls 5 [(0, .ref oZ), (1, .int p1), (2, .int p2), (3, .int p3)] := hl
  have hx := S0.1
  have hb := S0.2.1
  obtain ⟨H, hH⟩ : ∃ y, y = s.heap := ⟨_, rfl⟩
  rw [← hH] at hC ⊢
  obtain ⟨locs, hlo⟩ : ∃ y : List Loc, y = [] := ⟨_, rfl⟩
  rw [← hlo] at hC ⊢
  clear hH hlo
  unfold f_X5_ifHit at hf
  refine lv_iload_n hx hb dX5_ifHit_0 rfl (lv_at hl 1 rfl) ?_
  refine lv_iload_n hx hb dX5_ifHit_1 rfl (lv_at hl 2 rfl) ?_
  obtain ⟨r1, hr1, hf⟩ := z_bind hf
  refine z_callPi (z_runS (n := 2) (rest := []) (As := [.int p1, .int p2]) S0 hC (c_X5_isNote l G c3 p1 p2 hr1) [] (by decide) rfl gX5_ifHit_X5_isNote rfl rfl rfl (by decide +kernel) ⟨Nat.le_of_ble_eq_true rfl, Nat.le_of_ble_eq_true rfl⟩ rfl hl.1 rfl (Nat.le_of_ble_eq_true rfl) dX5_ifHit_2) hC [] rfl (fun H locs hC => ?_)
  refine lv_if_eq (tgt := 17) hx hb dX5_ifHit_5 (by decide) (fun cd2 => ?_) (fun cd2 => ?_)
  · replace hf := z_pos cd2 hf
    refine lv_iconst (v := (-1)) hx hb dX5_ifHit_17 (by decide) ?_
    obtain ⟨e1, e2, e3, e4, e5, e6, e7, e8⟩ := z_s8 hf
    subst e1
    subst e2
    subst e3
    subst e4
    subst e5
    subst e6
    subst e7
    subst e8
    exact z_iret S0 hr hlk hC dX5_ifHit_18
  · replace hf := z_neg cd2 hf
    refine lv_iload_n hx hb dX5_ifHit_8 rfl (lv_at hl 3 rfl) ?_
    refine lv_iconst (v := 0) hx hb dX5_ifHit_9 (by decide) ?_
    refine lv_iconst (v := 4) hx hb dX5_ifHit_10 (by decide) ?_
    obtain ⟨r3, hr3, hf⟩ := z_bind hf
    refine z_callPi (z_runS (n := 3) (rest := []) (As := [.int p3, .int 0, .int 4]) S0 hC (c_X5_within l G c3 p3 0 4 hr3) [] (by decide) rfl gX5_ifHit_X5_within rfl rfl rfl (by decide +kernel) ⟨Nat.le_of_ble_eq_true rfl, Nat.le_of_ble_eq_true rfl⟩ rfl hl.1 rfl (Nat.le_of_ble_eq_true rfl) dX5_ifHit_11) hC [] rfl (fun H locs hC => ?_)
    refine lv_if_ne (tgt := 19) hx hb dX5_ifHit_14 (by decide) (fun cd4 => ?_) (fun cd4 => ?_)
    · replace hf := z_neg cd4 hf
      refine lv_iload_n hx hb dX5_ifHit_19 rfl (lv_at hl 3 rfl) ?_
      refine lv_iconst (v := 3) hx hb dX5_ifHit_20 (by decide) ?_
      refine lv_icmp_ne (tgt := 34) hx hb dX5_ifHit_21 (by decide) (fun cd5 => ?_) (fun cd5 => ?_)
      · replace hf := z_neg cd5 hf
        refine lv_aload_n hx hb dX5_ifHit_34 rfl (lv_at hl 0 rfl) ?_
        refine z_get S0 hC (ci := 5) (C := RX5) (T := TX5) (N := 7) (v := .ref oT.1) jX5_ifHit_X5 0 rfl rfl 1 (by decide) kX5_ifHit_16 rfl rfl dX5_ifHit_35 ?_
        refine lv_aload_n hx hb dX5_ifHit_38 rfl (lv_at hl 0 rfl) ?_
        refine z_get S0 hC (ci := 5) (C := RX5) (T := TX5) (N := 7) (v := .ref oN.1) jX5_ifHit_X5 0 rfl rfl 0 (by decide) kX5_ifHit_10 rfl rfl dX5_ifHit_39 ?_
        obtain ⟨r6, hr6, hf⟩ := z_bind hf
        refine z_callv (z_runV (n := 1) (rest := []) (As := [.ref oN.1]) S0 hC (c_X2_copyFrom l G c3 oT ((Tzr, Tzf), (Tvr, Tvf), Tnm, Tpd, Tnt) oN ((Nzr, Nzf), (Nvr, Nvf), Nnm, Npd, Nnt) hr6) [7, 8, 9, 10, 11, 12, 1, 2, 3, 4, 5, 6] (by decide) rfl gX5_ifHit_X2_copyFrom rfl rfl rfl (by decide +kernel) ⟨Nat.le_of_ble_eq_true rfl, Nat.le_of_ble_eq_true rfl⟩ (ci := 2) (q0 := 7) rfl rfl rfl hl.1 rfl (Nat.le_of_ble_eq_true rfl) dX5_ifHit_42) hC [7, 8, 9, 10, 11, 12, 1, 2, 3, 4, 5, 6] [0] [0, 7, 8, 9, 10, 11, 12, 1, 2, 3, 4, 5, 6] rfl (wr := (zwZ oZ oN oT oK oH oP oV Zss)) rfl (by decide) (by decide) (ws2 := (zwZ oZ oN oT oK oH oP oV Zss ++ zwS c3.1 oN ((Nzr, Nzf), (Nvr, Nvf), Nnm, Npd, Nnt) ++ zwS c3.1 oT ((r6.1, r6.2.1), (r6.2.2.1, r6.2.2.2.1), r6.2.2.2.2.1, r6.2.2.2.2.2.1, r6.2.2.2.2.2.2))) rfl (by decide) (fun H locs hC => ?_)
        refine lv_aload_n hx hb dX5_ifHit_45 rfl (lv_at hl 0 rfl) ?_
        refine z_get S0 hC (ci := 5) (C := RX5) (T := TX5) (N := 7) (v := .ref oT.1) jX5_ifHit_X5 0 rfl rfl 1 (by decide) kX5_ifHit_16 rfl rfl dX5_ifHit_46 ?_
        refine lv_iload_n hx hb dX5_ifHit_49 rfl (lv_at hl 1 rfl) ?_
        refine lv_iload_n hx hb dX5_ifHit_50 rfl (lv_at hl 2 rfl) ?_
        obtain ⟨r7, hr7, hf⟩ := z_bind hf
        refine z_calli (z_runV (n := 2) (rest := []) (As := [.int p1, .int p2]) S0 hC (c_X2_strike l G c3 oT ((r6.1, r6.2.1), (r6.2.2.1, r6.2.2.2.1), r6.2.2.2.2.1, r6.2.2.2.2.2.1, r6.2.2.2.2.2.2) p1 p2 hr7) [7, 8, 9, 10, 11, 12] (by decide) rfl gX5_ifHit_X2_strike rfl rfl rfl (by decide +kernel) ⟨Nat.le_of_ble_eq_true rfl, Nat.le_of_ble_eq_true rfl⟩ (ci := 2) (q0 := 7) rfl rfl rfl hl.1 rfl (Nat.le_of_ble_eq_true rfl) dX5_ifHit_51) hC [7, 8, 9, 10, 11, 12] [0, 1, 2, 3, 4, 5, 6] [0, 1, 2, 3, 4, 5, 6, 7, 8, 9, 10, 11, 12] rfl (wr := (zwZ oZ oN oT oK oH oP oV Zss ++ zwS c3.1 oN ((Nzr, Nzf), (Nvr, Nvf), Nnm, Npd, Nnt))) rfl (by decide) (by decide) (ws2 := (zwZ oZ oN oT oK oH oP oV Zss ++ zwS c3.1 oN ((Nzr, Nzf), (Nvr, Nvf), Nnm, Npd, Nnt) ++ zwS c3.1 oT ((r6.1, r6.2.1), (r7.2.1, r7.2.2.1), r7.2.2.2.1, r6.2.2.2.2.2.1, r7.2.2.2.2))) rfl (by decide) (fun H locs hC => ?_)
        refine lv_istore (lv' := [(4, .int r7.1), (0, .ref oZ), (1, .int p1), (2, .int p2), (3, .int p3)]) hx hb dX5_ifHit_54 hl (by decide) rfl (fun ls hl => ?_)
        refine lv_iload_n hx hb dX5_ifHit_56 rfl (lv_at hl 4 rfl) ?_
        by_cases cd8 : p3 = 0
        · replace hf := z_pos cd8 hf
          refine lv_tableIn (off := 27) (tgt := 84) hx hb dX5_ifHit_57 (by rw [cd8]; decide) (by rw [cd8]; decide) (by rw [cd8]; rfl) (by decide) ?_
          refine lv_iload hx hb dX5_ifHit_84 (lv_at hl 0 rfl) ?_
          obtain ⟨e1, e2, e3, e4, e5, e6, e7, e8⟩ := z_s8 hf
          subst e1
          subst e2
          subst e3
          subst e4
          subst e5
          subst e6
          subst e7
          subst e8
          exact z_iret S0 hr hlk hC dX5_ifHit_86
        replace hf := z_neg cd8 hf
        by_cases cd9 : p3 = 1
        · replace hf := z_pos cd9 hf
          refine lv_tableIn (off := 30) (tgt := 87) hx hb dX5_ifHit_57 (by rw [cd9]; decide) (by rw [cd9]; decide) (by rw [cd9]; rfl) (by decide) ?_
          refine lv_aload_n hx hb dX5_ifHit_87 rfl (lv_at hl 1 rfl) ?_
          refine z_get S0 hC (ci := 5) (C := RX5) (T := TX5) (N := 7) (v := .ref oT.1) jX5_ifHit_X5 0 rfl rfl 1 (by decide) kX5_ifHit_16 rfl rfl dX5_ifHit_88 ?_
          refine lv_iconst (v := 3) hx hb dX5_ifHit_91 (by decide) ?_
          obtain ⟨r10, hr10, hf⟩ := z_bind hf
          refine z_callPi (z_runV (n := 1) (rest := []) (As := [.int 3]) S0 hC (c_X2_number l G c3 oT ((r6.1, r6.2.1), (r7.2.1, r7.2.2.1), r7.2.2.2.1, r6.2.2.2.2.2.1, r7.2.2.2.2) 3 hr10) [7, 8, 9, 10, 11, 12] (by decide) rfl gX5_ifHit_X2_number rfl rfl rfl (by decide +kernel) ⟨Nat.le_of_ble_eq_true rfl, Nat.le_of_ble_eq_true rfl⟩ (ci := 2) (q0 := 7) rfl rfl rfl hl.1 rfl (Nat.le_of_ble_eq_true rfl) dX5_ifHit_92) hC [7, 8, 9, 10, 11, 12] rfl (fun H locs hC => ?_)
          refine lv_aload_n hx hb dX5_ifHit_95 rfl (lv_at hl 1 rfl) ?_
          refine z_get S0 hC (ci := 5) (C := RX5) (T := TX5) (N := 7) (v := .ref oN.1) jX5_ifHit_X5 0 rfl rfl 0 (by decide) kX5_ifHit_10 rfl rfl dX5_ifHit_96 ?_
          refine lv_iconst (v := 3) hx hb dX5_ifHit_99 (by decide) ?_
          obtain ⟨r11, hr11, hf⟩ := z_bind hf
          refine z_callPi (z_runV (n := 1) (rest := [.int r10]) (As := [.int 3]) S0 hC (c_X2_number l G c3 oN ((Nzr, Nzf), (Nvr, Nvf), Nnm, Npd, Nnt) 3 hr11) [1, 2, 3, 4, 5, 6] (by decide) rfl gX5_ifHit_X2_number rfl rfl rfl (by decide +kernel) ⟨Nat.le_of_ble_eq_true rfl, Nat.le_of_ble_eq_true rfl⟩ (ci := 2) (q0 := 1) rfl rfl rfl hl.1 rfl (Nat.le_of_ble_eq_true rfl) dX5_ifHit_100) hC [1, 2, 3, 4, 5, 6] rfl (fun H locs hC => ?_)
          refine lv_isub hx hb dX5_ifHit_103 ?_
          obtain ⟨e1, e2, e3, e4, e5, e6, e7, e8⟩ := z_s8 hf
          subst e1
          subst e2
          subst e3
          subst e4
          subst e5
          subst e6
          subst e7
          subst e8
          exact z_iret S0 hr hlk hC dX5_ifHit_104
        replace hf := z_neg cd9 hf
        by_cases cd12 : p3 = 2
        · replace hf := z_pos cd12 hf
          refine lv_tableIn (off := 48) (tgt := 105) hx hb dX5_ifHit_57 (by rw [cd12]; decide) (by rw [cd12]; decide) (by rw [cd12]; rfl) (by decide) ?_
          refine lv_aload_n hx hb dX5_ifHit_105 rfl (lv_at hl 1 rfl) ?_
          refine z_get S0 hC (ci := 5) (C := RX5) (T := TX5) (N := 7) (v := .ref oT.1) jX5_ifHit_X5 0 rfl rfl 1 (by decide) kX5_ifHit_16 rfl rfl dX5_ifHit_106 ?_
          refine lv_iconst (v := 4) hx hb dX5_ifHit_109 (by decide) ?_
          obtain ⟨r13, hr13, hf⟩ := z_bind hf
          refine z_callPi (z_runV (n := 1) (rest := []) (As := [.int 4]) S0 hC (c_X2_number l G c3 oT ((r6.1, r6.2.1), (r7.2.1, r7.2.2.1), r7.2.2.2.1, r6.2.2.2.2.2.1, r7.2.2.2.2) 4 hr13) [7, 8, 9, 10, 11, 12] (by decide) rfl gX5_ifHit_X2_number rfl rfl rfl (by decide +kernel) ⟨Nat.le_of_ble_eq_true rfl, Nat.le_of_ble_eq_true rfl⟩ (ci := 2) (q0 := 7) rfl rfl rfl hl.1 rfl (Nat.le_of_ble_eq_true rfl) dX5_ifHit_110) hC [7, 8, 9, 10, 11, 12] rfl (fun H locs hC => ?_)
          refine lv_aload_n hx hb dX5_ifHit_113 rfl (lv_at hl 1 rfl) ?_
          refine z_get S0 hC (ci := 5) (C := RX5) (T := TX5) (N := 7) (v := .ref oN.1) jX5_ifHit_X5 0 rfl rfl 0 (by decide) kX5_ifHit_10 rfl rfl dX5_ifHit_114 ?_
          refine lv_iconst (v := 4) hx hb dX5_ifHit_117 (by decide) ?_
          obtain ⟨r14, hr14, hf⟩ := z_bind hf
          refine z_callPi (z_runV (n := 1) (rest := [.int r13]) (As := [.int 4]) S0 hC (c_X2_number l G c3 oN ((Nzr, Nzf), (Nvr, Nvf), Nnm, Npd, Nnt) 4 hr14) [1, 2, 3, 4, 5, 6] (by decide) rfl gX5_ifHit_X2_number rfl rfl rfl (by decide +kernel) ⟨Nat.le_of_ble_eq_true rfl, Nat.le_of_ble_eq_true rfl⟩ (ci := 2) (q0 := 1) rfl rfl rfl hl.1 rfl (Nat.le_of_ble_eq_true rfl) dX5_ifHit_118) hC [1, 2, 3, 4, 5, 6] rfl (fun H locs hC => ?_)
          refine lv_isub hx hb dX5_ifHit_121 ?_
          obtain ⟨e1, e2, e3, e4, e5, e6, e7, e8⟩ := z_s8 hf
          subst e1
          subst e2
          subst e3
          subst e4
          subst e5
          subst e6
          subst e7
          subst e8
          exact z_iret S0 hr hlk hC dX5_ifHit_122
        replace hf := z_neg cd12 hf
        have D57 : W p l e ⟨5, 0, 0, 116⟩ s m args below meth c H locs 0 0 (MQ below (zPost G (zwZ oZ oN oT oK oH oP oV Zss ++ zwS c3.1 oN ((Nzr, Nzf), (Nvr, Nvf), Nnm, Npd, Nnt) ++ zwS c3.1 oT ((Tzr', Tzf'), (Tvr', Tvf'), Tnm', Tpd', Tnt')) (some (.int r)) A) args s 0 0 A) (F0 m 123 ls []) := by
          refine lv_aload_n hx hb dX5_ifHit_123 rfl (lv_at hl 1 rfl) ?_
          refine z_get S0 hC (ci := 5) (C := RX5) (T := TX5) (N := 7) (v := .ref oT.1) jX5_ifHit_X5 0 rfl rfl 1 (by decide) kX5_ifHit_16 rfl rfl dX5_ifHit_124 ?_
          refine z_getN S0 hC (host := "ZoneSampler") (ci := 2) (C := RX2) (T := TX2) (N := 5) (v := .ref oT.2.2.2.1) jX5_ifHit_X2 7 rfl rfl 1 (by decide) (by decide +kernel : Cond.fieldLinkNest RX5 168 "ZoneSampler$State" "voices" "LZoneSampler$Table;" "ZoneSampler" ∈ zNW) rfl rfl dX5_ifHit_127 ?_
          obtain ⟨r15, hr15, hf⟩ := z_bind hf
          refine z_callPi (z_runV (n := 0) (rest := []) (As := []) S0 hC (c_X4_rows l G c3 oT.2.2.2 56 (r7.2.1, r7.2.2.1) hr15) [11, 12] (by decide) rfl gX5_ifHit_X4_rows rfl rfl rfl (by decide +kernel) ⟨Nat.le_of_ble_eq_true rfl, Nat.le_of_ble_eq_true rfl⟩ (ci := 4) (q0 := 11) rfl rfl rfl hl.1 rfl (Nat.le_of_ble_eq_true rfl) dX5_ifHit_130) hC [11, 12] rfl (fun H locs hC => ?_)
          obtain ⟨e1, e2, e3, e4, e5, e6, e7, e8⟩ := z_s8 hf
          subst e1
          subst e2
          subst e3
          subst e4
          subst e5
          subst e6
          subst e7
          subst e8
          exact z_iret S0 hr hlk hC dX5_ifHit_133
        have e0_57 : (p3).toInt ≠ 0 := fun h => cd8 (Int32.toInt_inj.mp (h.trans (by decide)))
        have e1_57 : (p3).toInt ≠ 1 := fun h => cd9 (Int32.toInt_inj.mp (h.trans (by decide)))
        have e2_57 : (p3).toInt ≠ 2 := fun h => cd12 (Int32.toInt_inj.mp (h.trans (by decide)))
        exact lv_tableOut (tgt := 123) hx hb dX5_ifHit_57 (by omega) (by decide) D57
      · replace hf := z_pos cd5 hf
        refine lv_aload_n hx hb dX5_ifHit_24 rfl (lv_at hl 0 rfl) ?_
        refine z_get S0 hC (ci := 5) (C := RX5) (T := TX5) (N := 7) (v := .ref oN.1) jX5_ifHit_X5 0 rfl rfl 0 (by decide) kX5_ifHit_10 rfl rfl dX5_ifHit_25 ?_
        refine lv_iload_n hx hb dX5_ifHit_28 rfl (lv_at hl 1 rfl) ?_
        refine lv_iload_n hx hb dX5_ifHit_29 rfl (lv_at hl 2 rfl) ?_
        obtain ⟨r16, hr16, hf⟩ := z_bind hf
        refine z_callPi (z_runV (n := 2) (rest := []) (As := [.int p1, .int p2]) S0 hC (c_X2_firstSounding l G c3 oN ((Nzr, Nzf), (Nvr, Nvf), Nnm, Npd, Nnt) p1 p2 hr16) [1, 2, 3, 4, 5, 6] (by decide) rfl gX5_ifHit_X2_firstSounding rfl rfl rfl (by decide +kernel) ⟨Nat.le_of_ble_eq_true rfl, Nat.le_of_ble_eq_true rfl⟩ (ci := 2) (q0 := 1) rfl rfl rfl hl.1 rfl (Nat.le_of_ble_eq_true rfl) dX5_ifHit_30) hC [1, 2, 3, 4, 5, 6] rfl (fun H locs hC => ?_)
        obtain ⟨e1, e2, e3, e4, e5, e6, e7, e8⟩ := z_s8 hf
        subst e1
        subst e2
        subst e3
        subst e4
        subst e5
        subst e6
        subst e7
        subst e8
        exact z_iret S0 hr hlk hC dX5_ifHit_33
    · replace hf := z_pos cd4 hf
      refine lv_iconst (v := (-1)) hx hb dX5_ifHit_17 (by decide) ?_
      obtain ⟨e1, e2, e3, e4, e5, e6, e7, e8⟩ := z_s8 hf
      subst e1
      subst e2
      subst e3
      subst e4
      subst e5
      subst e6
      subst e7
      subst e8
      exact z_iret S0 hr hlk hC dX5_ifHit_18

-- X5 silentIn
def f_X5_silentIn_4 (Nzr : Int32) (Nzf : (Nat → Int32)) (Nvr : Int32) (Nvf : (Nat → Int32)) (Nnm : (Nat → Int32)) : Nat → Int32 → Int32 → Option (Int32 × Int32)
  | 0, _, _ => none
  | fu + 1, y1, y2 =>
    (f_X4_rows 56 Nvr).bind fun r2 => if r2 ≤ y2 then
      some (y1, y2)
    else
      (f_X2_ticksLeft Nzr Nzf Nvr Nvf Nnm y2).bind fun r4 => f_X5_silentIn_4 Nzr Nzf Nvr Nvf Nnm fu (if y1 < r4 then r4 else y1) (y2 + 1)

theorem f_X5_silentIn_4_s (Nzr : Int32) (Nzf : (Nat → Int32)) (Nvr : Int32) (Nvf : (Nat → Int32)) (Nnm : (Nat → Int32)) (y1 : Int32) (y2 : Int32) (fu : Nat) : f_X5_silentIn_4 Nzr Nzf Nvr Nvf Nnm (fu + 1) y1 y2 = (
    (f_X4_rows 56 Nvr).bind fun r2 => if r2 ≤ y2 then
      some (y1, y2)
    else
      (f_X2_ticksLeft Nzr Nzf Nvr Nvf Nnm y2).bind fun r4 => f_X5_silentIn_4 Nzr Nzf Nvr Nvf Nnm fu (if y1 < r4 then r4 else y1) (y2 + 1)
    ) := rfl

def f_X5_silentIn (Nzr : Int32) (Nzf : (Nat → Int32)) (Nvr : Int32) (Nvf : (Nat → Int32)) (Nnm : (Nat → Int32)) : Option (Int32) :=
  (f_X5_silentIn_4 Nzr Nzf Nvr Nvf Nnm zF 0 0).bind fun t5 =>
    some (t5.1)

theorem kX5_silentIn_10 : Cond.fieldLink RX5 10 "ZoneSampler" "now" "LZoneSampler$State;" ∈ wsX5_silentIn := by decide +kernel
theorem kX5_silentIn_211 : Cond.methodLink RX5 211 Lib.Math.max.name ∈ wsX5_silentIn := by decide +kernel
theorem kX5_silentIn_211st : Cond.static Lib.Math.max.name ∈ wsX5_silentIn := by decide +kernel
theorem kX5_silentIn_211in : Cond.initialized "java/lang/Math" ∈ wsX5_silentIn := by decide +kernel
theorem kX5_silentIn_211co : Cond.code Lib.Math.max.name Lib.Math.max.code 2 (some .int) ∈ wsX5_silentIn := by decide +kernel
theorem jX5_silentIn_X2 : ∀ w ∈ u_ws RX2 TX2 5, w ∈ wsX5_silentIn := by decide +kernel
theorem jX5_silentIn_X5 : ∀ w ∈ u_ws RX5 TX5 7, w ∈ wsX5_silentIn := by decide +kernel
set_option maxHeartbeats 4000000 in
set_option maxRecDepth 100000 in
theorem c_X5_silentIn (l : Launch) (G : va_G) (c3 : zT3) (oZ : Nat) (oN oT oK : zR6) (oH : Nat) (oP oV : zR2) (BZ : Int32) (BN : zSt) {r : Int32} (hf : f_X5_silentIn BN.1.1 BN.1.2 BN.2.1.1 BN.2.1.2 BN.2.2.1 = some (r)) : zM l yX5_silentIn wsX5_silentIn ⟨3, 0, 0, 68⟩ G c3 (zwZ oZ oN oT oK oH oP oV BZ ++ zwS c3.1 oN ((BN.1.1, BN.1.2), (BN.2.1.1, BN.2.1.2), BN.2.2.1, BN.2.2.2.1, BN.2.2.2.2)) [.ref oZ] (some (.int r)) (zwZ oZ oN oT oK oH oP oV BZ ++ zwS c3.1 oN ((BN.1.1, BN.1.2), (BN.2.1.1, BN.2.1.2), BN.2.2.1, BN.2.2.2.1, BN.2.2.2.2)) := by
  obtain ⟨Zss, rfl⟩ : ∃ y, y = BZ := ⟨_, rfl⟩
  obtain ⟨⟨Nzr, Nzf⟩, ⟨Nvr, Nvf⟩, Nnm, Npd, Nnt⟩ := BN
  have hf : f_X5_silentIn Nzr Nzf Nvr Nvf Nnm = some (r) := hf
  show zM l yX5_silentIn wsX5_silentIn ⟨3, 0, 0, 68⟩ G c3 (zwZ oZ oN oT oK oH oP oV Zss ++ zwS c3.1 oN ((Nzr, Nzf), (Nvr, Nvf), Nnm, Npd, Nnt)) [.ref oZ] (some (.int r)) (zwZ oZ oN oT oK oH oP oV Zss ++ zwS c3.1 oN ((Nzr, Nzf), (Nvr, Nvf), Nnm, Npd, Nnt))
  refine zM.of (cc := cX5_silentIn) (maxL := 3) (ret := (some .int)) (by decide) rfl (Nat.le_of_ble_eq_true rfl) ?_
  intro p e s m args below meth c A ls S0 hr hlk hC hl
  have S0 : CallFix p m c cX5_silentIn 3 s args wsX5_silentIn RX5 := S0
  have hl : lv_has ls 3 [(0, .ref oZ)] := hl
  have hx := S0.1
  have hb := S0.2.1
  obtain ⟨H, hH⟩ : ∃ y, y = s.heap := ⟨_, rfl⟩
  rw [← hH] at hC ⊢
  obtain ⟨locs, hlo⟩ : ∃ y : List Loc, y = [] := ⟨_, rfl⟩
  rw [← hlo] at hC ⊢
  clear hH hlo
  unfold f_X5_silentIn at hf
  refine lv_iconst (v := 0) hx hb dX5_silentIn_0 (by decide) ?_
  refine lv_istore_n (lv' := [(1, .int 0), (0, .ref oZ)]) hx hb dX5_silentIn_1 rfl hl (by decide) rfl (fun ls hl => ?_)
  refine lv_iconst (v := 0) hx hb dX5_silentIn_2 (by decide) ?_
  refine lv_istore_n (lv' := [(2, .int 0), (1, .int 0), (0, .ref oZ)]) hx hb dX5_silentIn_3 rfl hl (by decide) rfl (fun ls hl => ?_)
  have L4 : ∀ (fu : Nat) (y1 : Int32) (y2 : Int32) (Zss : Int32) (Nzr : Int32) (Nzf : (Nat → Int32)) (Nvr : Int32) (Nvf : (Nat → Int32)) (Nnm : (Nat → Int32)) (Npd : Int32) (Nnt : Int32) (tt : Int32 × Int32), f_X5_silentIn_4 Nzr Nzf Nvr Nvf Nnm fu y1 y2 = some tt → ∀ (H : Heap) (locs : List Loc) (ls : Array Slot), zC G c3 A s (zwZ oZ oN oT oK oH oP oV Zss ++ zwS c3.1 oN ((Nzr, Nzf), (Nvr, Nvf), Nnm, Npd, Nnt)) H locs → lv_has ls 3 [(0, .ref oZ), (1, .int y1), (2, .int y2)] → (∀ (H : Heap) (locs : List Loc) (ls : Array Slot), zC G c3 A s (zwZ oZ oN oT oK oH oP oV Zss ++ zwS c3.1 oN ((Nzr, Nzf), (Nvr, Nvf), Nnm, Npd, Nnt)) H locs → lv_has ls 3 [(0, .ref oZ), (1, .int tt.1), (2, .int tt.2)] → W p l e ⟨3, 0, 0, 68⟩ s m args below meth c H locs 0 0 (MQ below (zPost G (zwZ oZ oN oT oK oH oP oV Zss ++ zwS c3.1 oN ((Nzr, Nzf), (Nvr, Nvf), Nnm, Npd, Nnt)) (some (.int r)) A) args s 0 0 A) (F0 m 37 ls [])) → W p l e ⟨3, 0, 0, 68⟩ s m args below meth c H locs 0 0 (MQ below (zPost G (zwZ oZ oN oT oK oH oP oV Zss ++ zwS c3.1 oN ((Nzr, Nzf), (Nvr, Nvf), Nnm, Npd, Nnt)) (some (.int r)) A) args s 0 0 A) (F0 m 4 ls []) := by
    intro fu
    induction fu with
    | zero =>
      intro y1 y2 Zss Nzr Nzf Nvr Nvf Nnm Npd Nnt tt hf H locs ls hC hl hK
      exact (z_none hf).elim
    | succ fu ih4 =>
      intro y1 y2 Zss Nzr Nzf Nvr Nvf Nnm Npd Nnt tt hf H locs ls hC hl hK
      replace hf := (f_X5_silentIn_4_s Nzr Nzf Nvr Nvf Nnm y1 y2 fu).symm.trans hf
      refine lv_iload_n hx hb dX5_silentIn_4 rfl (lv_at hl 2 rfl) ?_
      refine lv_aload_n hx hb dX5_silentIn_5 rfl (lv_at hl 0 rfl) ?_
      refine z_get S0 hC (ci := 5) (C := RX5) (T := TX5) (N := 7) (v := .ref oN.1) jX5_silentIn_X5 0 rfl rfl 0 (by decide) kX5_silentIn_10 rfl rfl dX5_silentIn_6 ?_
      refine z_getN S0 hC (host := "ZoneSampler") (ci := 2) (C := RX2) (T := TX2) (N := 5) (v := .ref oN.2.2.2.1) jX5_silentIn_X2 1 rfl rfl 1 (by decide) (by decide +kernel : Cond.fieldLinkNest RX5 168 "ZoneSampler$State" "voices" "LZoneSampler$Table;" "ZoneSampler" ∈ zNW) rfl rfl dX5_silentIn_9 ?_
      obtain ⟨r2, hr2, hf⟩ := z_bind hf
      refine z_callPi (z_runV (n := 0) (rest := [.int y2]) (As := []) S0 hC (c_X4_rows l G c3 oN.2.2.2 56 (Nvr, Nvf) hr2) [5, 6] (by decide) rfl gX5_silentIn_X4_rows rfl rfl rfl (by decide +kernel) ⟨Nat.le_of_ble_eq_true rfl, Nat.le_of_ble_eq_true rfl⟩ (ci := 4) (q0 := 5) rfl rfl rfl hl.1 rfl (Nat.le_of_ble_eq_true rfl) dX5_silentIn_12) hC [5, 6] rfl (fun H locs hC => ?_)
      refine lv_icmp_ge (tgt := 37) hx hb dX5_silentIn_15 (by decide) (fun cd3 => ?_) (fun cd3 => ?_)
      · replace hf := z_pos cd3 hf
        have e1 := z_s1 hf
        subst e1
        exact hK H locs ls hC (lv_sub hl [0, 1, 2] rfl)
      · replace hf := z_neg cd3 hf
        refine lv_iload_n hx hb dX5_silentIn_18 rfl (lv_at hl 1 rfl) ?_
        refine lv_aload_n hx hb dX5_silentIn_19 rfl (lv_at hl 0 rfl) ?_
        refine z_get S0 hC (ci := 5) (C := RX5) (T := TX5) (N := 7) (v := .ref oN.1) jX5_silentIn_X5 0 rfl rfl 0 (by decide) kX5_silentIn_10 rfl rfl dX5_silentIn_20 ?_
        refine lv_iload_n hx hb dX5_silentIn_23 rfl (lv_at hl 2 rfl) ?_
        obtain ⟨r4, hr4, hf⟩ := z_bind hf
        refine z_callPi (z_runV (n := 1) (rest := [.int y1]) (As := [.int y2]) S0 hC (c_X2_ticksLeft l G c3 oN ((Nzr, Nzf), (Nvr, Nvf), Nnm, Npd, Nnt) y2 hr4) [1, 2, 3, 4, 5, 6] (by decide) rfl gX5_silentIn_X2_ticksLeft rfl rfl rfl (by decide +kernel) ⟨Nat.le_of_ble_eq_true rfl, Nat.le_of_ble_eq_true rfl⟩ (ci := 2) (q0 := 1) rfl rfl rfl hl.1 rfl (Nat.le_of_ble_eq_true rfl) dX5_silentIn_24) hC [1, 2, 3, 4, 5, 6] rfl (fun H locs hC => ?_)
        refine z_mmax S0 hl.1 kX5_silentIn_211 kX5_silentIn_211st kX5_silentIn_211in kX5_silentIn_211co (Nat.le_of_ble_eq_true rfl) (Nat.le_of_ble_eq_true rfl) dX5_silentIn_27 ?_
        refine lv_istore_n (lv' := [(1, .int (if y1 < r4 then r4 else y1)), (0, .ref oZ), (2, .int y2)]) hx hb dX5_silentIn_30 rfl hl (by decide) rfl (fun ls hl => ?_)
        refine lv_iinc (v := (y2 + 1)) (lv' := [(2, .int (y2 + 1)), (1, .int (if y1 < r4 then r4 else y1)), (0, .ref oZ)]) hx hb dX5_silentIn_31 hl (k := 2) rfl rfl (by decide) rfl (fun ls hl => ?_)
        refine lv_goto (tgt := 4) hx hb dX5_silentIn_34 (by decide) ?_
        exact ih4 (if y1 < r4 then r4 else y1) (y2 + 1) Zss Nzr Nzf Nvr Nvf Nnm Npd Nnt _ hf H locs ls hC (lv_sub hl [2, 1, 0] rfl) hK
  obtain ⟨t5, ht5, hf⟩ := z_bind hf
  refine L4 zF 0 0 Zss Nzr Nzf Nvr Nvf Nnm Npd Nnt t5 ht5 H locs ls hC (lv_sub hl [2, 1, 0] rfl) (fun H locs ls hC hl => ?_)
  refine lv_iload_n hx hb dX5_silentIn_37 rfl (lv_at hl 1 rfl) ?_
  have e1 := z_s1 hf
  subst e1
  exact z_iret S0 hr hlk hC dX5_silentIn_38

-- X5 chord
def f_X5_chord_37 (y1 : Int32) (y2 : Int32) (y3 : Int32) (Nzr : Int32) (Nzf : (Nat → Int32)) (Nnm : (Nat → Int32)) : Nat → Int32 → Int32 → Option (Int32 × Int32)
  | 0, _, _ => none
  | fu + 1, y4, y5 =>
    if 6 ≤ y5 then
      some (y4, y5)
    else
      Option.bind (α := Int32) (
        if ((y1 >>> (y5 &&& 31)) &&& 1) = 1 then
          (f_X2_sounding Nzr Nzf Nnm ((6 * y2) + y5) y3).bind fun r11 => some ((y4 + r11))
        else
          some (y4)
      ) fun t10 =>
        f_X5_chord_37 y1 y2 y3 Nzr Nzf Nnm fu t10 (y5 + 1)

theorem f_X5_chord_37_s (y1 : Int32) (y2 : Int32) (y3 : Int32) (Nzr : Int32) (Nzf : (Nat → Int32)) (Nnm : (Nat → Int32)) (y4 : Int32) (y5 : Int32) (fu : Nat) : f_X5_chord_37 y1 y2 y3 Nzr Nzf Nnm (fu + 1) y4 y5 = (
    if 6 ≤ y5 then
      some (y4, y5)
    else
      Option.bind (α := Int32) (
        if ((y1 >>> (y5 &&& 31)) &&& 1) = 1 then
          (f_X2_sounding Nzr Nzf Nnm ((6 * y2) + y5) y3).bind fun r11 => some ((y4 + r11))
        else
          some (y4)
      ) fun t10 =>
        f_X5_chord_37 y1 y2 y3 Nzr Nzf Nnm fu t10 (y5 + 1)
    ) := rfl

def f_X5_chord (Nzr : Int32) (Nzf : (Nat → Int32)) (Nnm : (Nat → Int32)) (p1 : Int32) (p2 : Int32) (p3 : Int32) : Option (Int32) :=
  (f_X5_within p1 1 63).bind fun r1 => if r1 = 0 then
    some ((-1))
  else
    (f_X5_within p2 0 5).bind fun r3 => if r3 = 0 then
      some ((-1))
    else
      (f_X5_within p3 1 9).bind fun r5 => if r5 = 0 then
        some ((-1))
      else
        (f_X5_chord_37 p1 p2 p3 Nzr Nzf Nnm zF 0 0).bind fun t12 =>
          some (t12.1)

theorem kX5_chord_10 : Cond.fieldLink RX5 10 "ZoneSampler" "now" "LZoneSampler$State;" ∈ wsX5_chord := by decide +kernel
theorem jX5_chord_X5 : ∀ w ∈ u_ws RX5 TX5 7, w ∈ wsX5_chord := by decide +kernel
set_option maxHeartbeats 4000000 in
set_option maxRecDepth 100000 in
theorem c_X5_chord (l : Launch) (G : va_G) (c3 : zT3) (oZ : Nat) (oN oT oK : zR6) (oH : Nat) (oP oV : zR2) (BZ : Int32) (BN : zSt) (p1 : Int32) (p2 : Int32) (p3 : Int32) {r : Int32} (hf : f_X5_chord BN.1.1 BN.1.2 BN.2.2.1 p1 p2 p3 = some (r)) : zM l yX5_chord wsX5_chord ⟨4, 0, 0, 97⟩ G c3 (zwZ oZ oN oT oK oH oP oV BZ ++ zwS c3.1 oN ((BN.1.1, BN.1.2), (BN.2.1.1, BN.2.1.2), BN.2.2.1, BN.2.2.2.1, BN.2.2.2.2)) [.ref oZ, .int p1, .int p2, .int p3] (some (.int r)) (zwZ oZ oN oT oK oH oP oV BZ ++ zwS c3.1 oN ((BN.1.1, BN.1.2), (BN.2.1.1, BN.2.1.2), BN.2.2.1, BN.2.2.2.1, BN.2.2.2.2)) := by
  obtain ⟨Zss, rfl⟩ : ∃ y, y = BZ := ⟨_, rfl⟩
  obtain ⟨⟨Nzr, Nzf⟩, ⟨Nvr, Nvf⟩, Nnm, Npd, Nnt⟩ := BN
  have hf : f_X5_chord Nzr Nzf Nnm p1 p2 p3 = some (r) := hf
  show zM l yX5_chord wsX5_chord ⟨4, 0, 0, 97⟩ G c3 (zwZ oZ oN oT oK oH oP oV Zss ++ zwS c3.1 oN ((Nzr, Nzf), (Nvr, Nvf), Nnm, Npd, Nnt)) [.ref oZ, .int p1, .int p2, .int p3] (some (.int r)) (zwZ oZ oN oT oK oH oP oV Zss ++ zwS c3.1 oN ((Nzr, Nzf), (Nvr, Nvf), Nnm, Npd, Nnt))
  refine zM.of (cc := cX5_chord) (maxL := 6) (ret := (some .int)) (by decide) rfl (Nat.le_of_ble_eq_true rfl) ?_
  intro p e s m args below meth c A ls S0 hr hlk hC hl
  have S0 : CallFix p m c cX5_chord 6 s args wsX5_chord RX5 := S0
  have hl : lv_has ls 6 [(0, .ref oZ), (1, .int p1), (2, .int p2), (3, .int p3)] := hl
  have hx := S0.1
  have hb := S0.2.1
  obtain ⟨H, hH⟩ : ∃ y, y = s.heap := ⟨_, rfl⟩
  rw [← hH] at hC ⊢
  obtain ⟨locs, hlo⟩ : ∃ y : List Loc, y = [] := ⟨_, rfl⟩
  rw [← hlo] at hC ⊢
  clear hH hlo
  unfold f_X5_chord at hf
  refine lv_iload_n hx hb dX5_chord_0 rfl (lv_at hl 1 rfl) ?_
  refine lv_iconst (v := 1) hx hb dX5_chord_1 (by decide) ?_
  refine lv_bipush (v := 63) hx hb dX5_chord_2 (by decide) ?_
  obtain ⟨r1, hr1, hf⟩ := z_bind hf
  refine z_callPi (z_runS (n := 3) (rest := []) (As := [.int p1, .int 1, .int 63]) S0 hC (c_X5_within l G c3 p1 1 63 hr1) [] (by decide) rfl gX5_chord_X5_within rfl rfl rfl (by decide +kernel) ⟨Nat.le_of_ble_eq_true rfl, Nat.le_of_ble_eq_true rfl⟩ rfl hl.1 rfl (Nat.le_of_ble_eq_true rfl) dX5_chord_4) hC [] rfl (fun H locs hC => ?_)
  refine lv_if_eq (tgt := 29) hx hb dX5_chord_7 (by decide) (fun cd2 => ?_) (fun cd2 => ?_)
  · replace hf := z_pos cd2 hf
    refine lv_iconst (v := (-1)) hx hb dX5_chord_29 (by decide) ?_
    have e1 := z_s1 hf
    subst e1
    exact z_iret S0 hr hlk hC dX5_chord_30
  · replace hf := z_neg cd2 hf
    refine lv_iload_n hx hb dX5_chord_10 rfl (lv_at hl 2 rfl) ?_
    refine lv_iconst (v := 0) hx hb dX5_chord_11 (by decide) ?_
    refine lv_iconst (v := 5) hx hb dX5_chord_12 (by decide) ?_
    obtain ⟨r3, hr3, hf⟩ := z_bind hf
    refine z_callPi (z_runS (n := 3) (rest := []) (As := [.int p2, .int 0, .int 5]) S0 hC (c_X5_within l G c3 p2 0 5 hr3) [] (by decide) rfl gX5_chord_X5_within rfl rfl rfl (by decide +kernel) ⟨Nat.le_of_ble_eq_true rfl, Nat.le_of_ble_eq_true rfl⟩ rfl hl.1 rfl (Nat.le_of_ble_eq_true rfl) dX5_chord_13) hC [] rfl (fun H locs hC => ?_)
    refine lv_if_eq (tgt := 29) hx hb dX5_chord_16 (by decide) (fun cd4 => ?_) (fun cd4 => ?_)
    · replace hf := z_pos cd4 hf
      refine lv_iconst (v := (-1)) hx hb dX5_chord_29 (by decide) ?_
      have e1 := z_s1 hf
      subst e1
      exact z_iret S0 hr hlk hC dX5_chord_30
    · replace hf := z_neg cd4 hf
      refine lv_iload_n hx hb dX5_chord_19 rfl (lv_at hl 3 rfl) ?_
      refine lv_iconst (v := 1) hx hb dX5_chord_20 (by decide) ?_
      refine lv_bipush (v := 9) hx hb dX5_chord_21 (by decide) ?_
      obtain ⟨r5, hr5, hf⟩ := z_bind hf
      refine z_callPi (z_runS (n := 3) (rest := []) (As := [.int p3, .int 1, .int 9]) S0 hC (c_X5_within l G c3 p3 1 9 hr5) [] (by decide) rfl gX5_chord_X5_within rfl rfl rfl (by decide +kernel) ⟨Nat.le_of_ble_eq_true rfl, Nat.le_of_ble_eq_true rfl⟩ rfl hl.1 rfl (Nat.le_of_ble_eq_true rfl) dX5_chord_23) hC [] rfl (fun H locs hC => ?_)
      refine lv_if_ne (tgt := 31) hx hb dX5_chord_26 (by decide) (fun cd6 => ?_) (fun cd6 => ?_)
      · replace hf := z_neg cd6 hf
        refine lv_iconst (v := 0) hx hb dX5_chord_31 (by decide) ?_
        refine lv_istore (lv' := [(4, .int 0), (0, .ref oZ), (1, .int p1), (2, .int p2), (3, .int p3)]) hx hb dX5_chord_32 hl (by decide) rfl (fun ls hl => ?_)
        refine lv_iconst (v := 0) hx hb dX5_chord_34 (by decide) ?_
        refine lv_istore (lv' := [(5, .int 0), (4, .int 0), (0, .ref oZ), (1, .int p1), (2, .int p2), (3, .int p3)]) hx hb dX5_chord_35 hl (by decide) rfl (fun ls hl => ?_)
        have L37 : ∀ (fu : Nat) (y1 : Int32) (y2 : Int32) (y3 : Int32) (y4 : Int32) (y5 : Int32) (Zss : Int32) (Nzr : Int32) (Nzf : (Nat → Int32)) (Nvr : Int32) (Nvf : (Nat → Int32)) (Nnm : (Nat → Int32)) (Npd : Int32) (Nnt : Int32) (tt : Int32 × Int32), f_X5_chord_37 y1 y2 y3 Nzr Nzf Nnm fu y4 y5 = some tt → ∀ (H : Heap) (locs : List Loc) (ls : Array Slot), zC G c3 A s (zwZ oZ oN oT oK oH oP oV Zss ++ zwS c3.1 oN ((Nzr, Nzf), (Nvr, Nvf), Nnm, Npd, Nnt)) H locs → lv_has ls 6 [(0, .ref oZ), (1, .int y1), (2, .int y2), (3, .int y3), (4, .int y4), (5, .int y5)] → (∀ (H : Heap) (locs : List Loc) (ls : Array Slot), zC G c3 A s (zwZ oZ oN oT oK oH oP oV Zss ++ zwS c3.1 oN ((Nzr, Nzf), (Nvr, Nvf), Nnm, Npd, Nnt)) H locs → lv_has ls 6 [(0, .ref oZ), (1, .int y1), (2, .int y2), (3, .int y3), (4, .int tt.1), (5, .int tt.2)] → W p l e ⟨4, 0, 0, 97⟩ s m args below meth c H locs 0 0 (MQ below (zPost G (zwZ oZ oN oT oK oH oP oV Zss ++ zwS c3.1 oN ((Nzr, Nzf), (Nvr, Nvf), Nnm, Npd, Nnt)) (some (.int r)) A) args s 0 0 A) (F0 m 80 ls [])) → W p l e ⟨4, 0, 0, 97⟩ s m args below meth c H locs 0 0 (MQ below (zPost G (zwZ oZ oN oT oK oH oP oV Zss ++ zwS c3.1 oN ((Nzr, Nzf), (Nvr, Nvf), Nnm, Npd, Nnt)) (some (.int r)) A) args s 0 0 A) (F0 m 37 ls []) := by
          intro fu
          induction fu with
          | zero =>
            intro y1 y2 y3 y4 y5 Zss Nzr Nzf Nvr Nvf Nnm Npd Nnt tt hf H locs ls hC hl hK
            exact (z_none hf).elim
          | succ fu ih37 =>
            intro y1 y2 y3 y4 y5 Zss Nzr Nzf Nvr Nvf Nnm Npd Nnt tt hf H locs ls hC hl hK
            replace hf := (f_X5_chord_37_s y1 y2 y3 Nzr Nzf Nnm y4 y5 fu).symm.trans hf
            refine lv_iload hx hb dX5_chord_37 (lv_at hl 5 rfl) ?_
            refine lv_bipush (v := 6) hx hb dX5_chord_39 (by decide) ?_
            refine lv_icmp_ge (tgt := 80) hx hb dX5_chord_41 (by decide) (fun cd8 => ?_) (fun cd8 => ?_)
            · replace hf := z_pos cd8 hf
              have e1 := z_s1 hf
              subst e1
              exact hK H locs ls hC (lv_sub hl [0, 1, 2, 3, 4, 5] rfl)
            · replace hf := z_neg cd8 hf
              refine lv_iload_n hx hb dX5_chord_44 rfl (lv_at hl 1 rfl) ?_
              refine lv_iload hx hb dX5_chord_45 (lv_at hl 5 rfl) ?_
              refine lv_ishr hx hb dX5_chord_47 ?_
              refine lv_iconst (v := 1) hx hb dX5_chord_48 (by decide) ?_
              refine lv_iand hx hb dX5_chord_49 ?_
              refine lv_iconst (v := 1) hx hb dX5_chord_50 (by decide) ?_
              obtain ⟨t10, ht10, hf⟩ := z_bind hf
              have Jt10 : ∀ (H : Heap) (locs : List Loc) (ls : Array Slot), zC G c3 A s (zwZ oZ oN oT oK oH oP oV Zss ++ zwS c3.1 oN ((Nzr, Nzf), (Nvr, Nvf), Nnm, Npd, Nnt)) H locs → lv_has ls 6 [(0, .ref oZ), (1, .int y1), (2, .int y2), (3, .int y3), (4, .int t10), (5, .int y5)] → W p l e ⟨4, 0, 0, 97⟩ s m args below meth c H locs 0 0 (MQ below (zPost G (zwZ oZ oN oT oK oH oP oV Zss ++ zwS c3.1 oN ((Nzr, Nzf), (Nvr, Nvf), Nnm, Npd, Nnt)) (some (.int r)) A) args s 0 0 A) (F0 m 74 ls []) := by
                intro H locs ls hC hl
                refine lv_iinc (v := (y5 + 1)) (lv' := [(5, .int (y5 + 1)), (0, .ref oZ), (1, .int y1), (2, .int y2), (3, .int y3), (4, .int t10)]) hx hb dX5_chord_74 hl (k := 5) rfl rfl (by decide) rfl (fun ls hl => ?_)
                refine lv_goto (tgt := 37) hx hb dX5_chord_77 (by decide) ?_
                exact ih37 y1 y2 y3 t10 (y5 + 1) Zss Nzr Nzf Nvr Nvf Nnm Npd Nnt _ hf H locs ls hC (lv_sub hl [1, 2, 3, 4, 5, 0] rfl) hK
              refine lv_icmp_ne (tgt := 74) hx hb dX5_chord_51 (by decide) (fun cd9 => ?_) (fun cd9 => ?_)
              · replace ht10 := z_neg cd9 ht10
                have e1 := z_s1 ht10
                subst e1
                exact Jt10 H locs ls hC (lv_sub hl [0, 1, 2, 3, 4, 5] rfl)
              · replace ht10 := z_pos cd9 ht10
                refine lv_iload hx hb dX5_chord_54 (lv_at hl 4 rfl) ?_
                refine lv_aload_n hx hb dX5_chord_56 rfl (lv_at hl 0 rfl) ?_
                refine z_get S0 hC (ci := 5) (C := RX5) (T := TX5) (N := 7) (v := .ref oN.1) jX5_chord_X5 0 rfl rfl 0 (by decide) kX5_chord_10 rfl rfl dX5_chord_57 ?_
                refine lv_bipush (v := 6) hx hb dX5_chord_60 (by decide) ?_
                refine lv_iload_n hx hb dX5_chord_62 rfl (lv_at hl 2 rfl) ?_
                refine lv_imul hx hb dX5_chord_63 ?_
                refine lv_iload hx hb dX5_chord_64 (lv_at hl 5 rfl) ?_
                refine lv_iadd hx hb dX5_chord_66 ?_
                refine lv_iload_n hx hb dX5_chord_67 rfl (lv_at hl 3 rfl) ?_
                obtain ⟨r11, hr11, ht10⟩ := z_bind ht10
                refine z_callPi (z_runV (n := 2) (rest := [.int y4]) (As := [.int ((6 * y2) + y5), .int y3]) S0 hC (c_X2_sounding l G c3 oN ((Nzr, Nzf), (Nvr, Nvf), Nnm, Npd, Nnt) ((6 * y2) + y5) y3 hr11) [1, 2, 3, 4, 5, 6] (by decide) rfl gX5_chord_X2_sounding rfl rfl rfl (by decide +kernel) ⟨Nat.le_of_ble_eq_true rfl, Nat.le_of_ble_eq_true rfl⟩ (ci := 2) (q0 := 1) rfl rfl rfl hl.1 rfl (Nat.le_of_ble_eq_true rfl) dX5_chord_68) hC [1, 2, 3, 4, 5, 6] rfl (fun H locs hC => ?_)
                refine lv_iadd hx hb dX5_chord_71 ?_
                refine lv_istore (lv' := [(4, .int (y4 + r11)), (0, .ref oZ), (1, .int y1), (2, .int y2), (3, .int y3), (5, .int y5)]) hx hb dX5_chord_72 hl (by decide) rfl (fun ls hl => ?_)
                have e1 := z_s1 ht10
                subst e1
                exact Jt10 H locs ls hC (lv_sub hl [1, 2, 3, 4, 0, 5] rfl)
        obtain ⟨t12, ht12, hf⟩ := z_bind hf
        refine L37 zF p1 p2 p3 0 0 Zss Nzr Nzf Nvr Nvf Nnm Npd Nnt t12 ht12 H locs ls hC (lv_sub hl [2, 3, 4, 5, 1, 0] rfl) (fun H locs ls hC hl => ?_)
        refine lv_iload hx hb dX5_chord_80 (lv_at hl 4 rfl) ?_
        have e1 := z_s1 hf
        subst e1
        exact z_iret S0 hr hlk hC dX5_chord_82
      · replace hf := z_pos cd6 hf
        refine lv_iconst (v := (-1)) hx hb dX5_chord_29 (by decide) ?_
        have e1 := z_s1 hf
        subst e1
        exact z_iret S0 hr hlk hC dX5_chord_30

-- X5 undo
def f_X5_undo (Nzr : Int32) (Nzf : (Nat → Int32)) (Nvr : Int32) (Nvf : (Nat → Int32)) (Nnm : (Nat → Int32)) (Npd : Int32) (Nnt : Int32) (Hhs : zHs) : Option (Int32 × Int32 × (Nat → Int32) × Int32 × (Nat → Int32) × (Nat → Int32) × Int32 × Int32 × zHs) :=
  (f_X0_size Hhs).bind fun r1 => if r1 = 0 then
    some ((-2), Nzr, Nzf, Nvr, Nvf, Nnm, Npd, Nnt, Hhs)
  else
    (f_X0_goBack Hhs Nzr Nzf Nvr Nvf Nnm Npd Nnt).bind fun r3 => (f_X0_size r3.1).bind fun r4 => some (r4, r3.2.1, r3.2.2.1, r3.2.2.2.1, r3.2.2.2.2.1, r3.2.2.2.2.2.1, r3.2.2.2.2.2.2.1, r3.2.2.2.2.2.2.2, r3.1)

theorem kX5_undo_25 : Cond.fieldLink RX5 25 "ZoneSampler" "history" "LZoneSampler$History;" ∈ wsX5_undo := by decide +kernel
theorem kX5_undo_10 : Cond.fieldLink RX5 10 "ZoneSampler" "now" "LZoneSampler$State;" ∈ wsX5_undo := by decide +kernel
theorem jX5_undo_X5 : ∀ w ∈ u_ws RX5 TX5 7, w ∈ wsX5_undo := by decide +kernel
set_option maxHeartbeats 4000000 in
set_option maxRecDepth 100000 in
theorem c_X5_undo (l : Launch) (G : va_G) (c3 : zT3) (oZ : Nat) (oN oT oK : zR6) (oH : Nat) (oP oV : zR2) (BZ : Int32) (BN : zSt) (BH : zHs) {r : Int32} {Nzr' : Int32} {Nzf' : (Nat → Int32)} {Nvr' : Int32} {Nvf' : (Nat → Int32)} {Nnm' : (Nat → Int32)} {Npd' : Int32} {Nnt' : Int32} {Hhs' : zHs} (hf : f_X5_undo BN.1.1 BN.1.2 BN.2.1.1 BN.2.1.2 BN.2.2.1 BN.2.2.2.1 BN.2.2.2.2 BH = some (r, Nzr', Nzf', Nvr', Nvf', Nnm', Npd', Nnt', Hhs')) : zM l yX5_undo wsX5_undo ⟨4, 0, 0, 89⟩ G c3 (zwZ oZ oN oT oK oH oP oV BZ ++ zwS c3.1 oN ((BN.1.1, BN.1.2), (BN.2.1.1, BN.2.1.2), BN.2.2.1, BN.2.2.2.1, BN.2.2.2.2) ++ zwH c3.1 oH BH) [.ref oZ] (some (.int r)) (zwZ oZ oN oT oK oH oP oV BZ ++ zwS c3.1 oN ((Nzr', Nzf'), (Nvr', Nvf'), Nnm', Npd', Nnt') ++ zwH c3.1 oH Hhs') := by
  obtain ⟨Zss, rfl⟩ : ∃ y, y = BZ := ⟨_, rfl⟩
  obtain ⟨⟨Nzr, Nzf⟩, ⟨Nvr, Nvf⟩, Nnm, Npd, Nnt⟩ := BN
  obtain ⟨Hhs, rfl⟩ : ∃ y, y = BH := ⟨_, rfl⟩
  have hf : f_X5_undo Nzr Nzf Nvr Nvf Nnm Npd Nnt Hhs = some (r, Nzr', Nzf', Nvr', Nvf', Nnm', Npd', Nnt', Hhs') := hf
  show zM l yX5_undo wsX5_undo ⟨4, 0, 0, 89⟩ G c3 (zwZ oZ oN oT oK oH oP oV Zss ++ zwS c3.1 oN ((Nzr, Nzf), (Nvr, Nvf), Nnm, Npd, Nnt) ++ zwH c3.1 oH Hhs) [.ref oZ] (some (.int r)) (zwZ oZ oN oT oK oH oP oV Zss ++ zwS c3.1 oN ((Nzr', Nzf'), (Nvr', Nvf'), Nnm', Npd', Nnt') ++ zwH c3.1 oH Hhs')
  refine zM.of (cc := cX5_undo) (maxL := 1) (ret := (some .int)) (by decide) rfl (Nat.le_of_ble_eq_true rfl) ?_
  intro p e s m args below meth c A ls S0 hr hlk hC hl
  have S0 : CallFix p m c cX5_undo 1 s args wsX5_undo RX5 := S0
  have hl : lv_has ls 1 [(0, .ref oZ)] := hl
  have hx := S0.1
  have hb := S0.2.1
  obtain ⟨H, hH⟩ : ∃ y, y = s.heap := ⟨_, rfl⟩
  rw [← hH] at hC ⊢
  obtain ⟨locs, hlo⟩ : ∃ y : List Loc, y = [] := ⟨_, rfl⟩
  rw [← hlo] at hC ⊢
  clear hH hlo
  unfold f_X5_undo at hf
  refine lv_aload_n hx hb dX5_undo_0 rfl (lv_at hl 0 rfl) ?_
  refine z_get S0 hC (ci := 5) (C := RX5) (T := TX5) (N := 7) (v := .ref oH) jX5_undo_X5 0 rfl rfl 3 (by decide) kX5_undo_25 rfl rfl dX5_undo_1 ?_
  obtain ⟨r1, hr1, hf⟩ := z_bind hf
  refine z_callPi (z_runV (n := 0) (rest := []) (As := []) S0 hC (c_X0_size l G c3 oH Hhs hr1) [7, 8, 9, 10, 11, 12, 13, 14, 15, 16, 17, 18, 19, 20, 21, 22, 23, 24, 25, 26, 27, 28, 29, 30, 31] (by decide) rfl gX5_undo_X0_size rfl rfl rfl (by decide +kernel) ⟨Nat.le_of_ble_eq_true rfl, Nat.le_of_ble_eq_true rfl⟩ (ci := 0) (q0 := 7) rfl rfl rfl hl.1 rfl (Nat.le_of_ble_eq_true rfl) dX5_undo_4) hC [7, 8, 9, 10, 11, 12, 13, 14, 15, 16, 17, 18, 19, 20, 21, 22, 23, 24, 25, 26, 27, 28, 29, 30, 31] rfl (fun H locs hC => ?_)
  refine lv_if_ne (tgt := 13) hx hb dX5_undo_7 (by decide) (fun cd2 => ?_) (fun cd2 => ?_)
  · replace hf := z_neg cd2 hf
    refine lv_aload_n hx hb dX5_undo_13 rfl (lv_at hl 0 rfl) ?_
    refine z_get S0 hC (ci := 5) (C := RX5) (T := TX5) (N := 7) (v := .ref oH) jX5_undo_X5 0 rfl rfl 3 (by decide) kX5_undo_25 rfl rfl dX5_undo_14 ?_
    refine lv_aload_n hx hb dX5_undo_17 rfl (lv_at hl 0 rfl) ?_
    refine z_get S0 hC (ci := 5) (C := RX5) (T := TX5) (N := 7) (v := .ref oN.1) jX5_undo_X5 0 rfl rfl 0 (by decide) kX5_undo_10 rfl rfl dX5_undo_18 ?_
    obtain ⟨r3, hr3, hf⟩ := z_bind hf
    refine z_callv (z_runV (n := 1) (rest := []) (As := [.ref oN.1]) S0 hC (c_X0_goBack l G c3 oH Hhs oN ((Nzr, Nzf), (Nvr, Nvf), Nnm, Npd, Nnt) hr3) [7, 8, 9, 10, 11, 12, 13, 14, 15, 16, 17, 18, 19, 20, 21, 22, 23, 24, 25, 26, 27, 28, 29, 30, 31, 1, 2, 3, 4, 5, 6] (by decide) rfl gX5_undo_X0_goBack rfl rfl rfl (by decide +kernel) ⟨Nat.le_of_ble_eq_true rfl, Nat.le_of_ble_eq_true rfl⟩ (ci := 0) (q0 := 7) rfl rfl rfl hl.1 rfl (Nat.le_of_ble_eq_true rfl) dX5_undo_21) hC [7, 8, 9, 10, 11, 12, 13, 14, 15, 16, 17, 18, 19, 20, 21, 22, 23, 24, 25, 26, 27, 28, 29, 30, 31, 1, 2, 3, 4, 5, 6] [0] [0, 26, 27, 28, 29, 30, 31, 1, 2, 3, 4, 5, 6, 7, 8, 9, 10, 11, 12, 13, 14, 15, 16, 17, 18, 19, 20, 21, 22, 23, 24, 25] rfl (wr := (zwZ oZ oN oT oK oH oP oV Zss)) rfl (by decide) (by decide) (ws2 := (zwZ oZ oN oT oK oH oP oV Zss ++ zwS c3.1 oN ((r3.2.1, r3.2.2.1), (r3.2.2.2.1, r3.2.2.2.2.1), r3.2.2.2.2.2.1, r3.2.2.2.2.2.2.1, r3.2.2.2.2.2.2.2) ++ zwH c3.1 oH r3.1)) rfl (by decide) (fun H locs hC => ?_)
    refine lv_aload_n hx hb dX5_undo_24 rfl (lv_at hl 0 rfl) ?_
    refine z_get S0 hC (ci := 5) (C := RX5) (T := TX5) (N := 7) (v := .ref oH) jX5_undo_X5 0 rfl rfl 3 (by decide) kX5_undo_25 rfl rfl dX5_undo_25 ?_
    obtain ⟨r4, hr4, hf⟩ := z_bind hf
    refine z_callPi (z_runV (n := 0) (rest := []) (As := []) S0 hC (c_X0_size l G c3 oH r3.1 hr4) [7, 8, 9, 10, 11, 12, 13, 14, 15, 16, 17, 18, 19, 20, 21, 22, 23, 24, 25, 26, 27, 28, 29, 30, 31] (by decide) rfl gX5_undo_X0_size rfl rfl rfl (by decide +kernel) ⟨Nat.le_of_ble_eq_true rfl, Nat.le_of_ble_eq_true rfl⟩ (ci := 0) (q0 := 7) rfl rfl rfl hl.1 rfl (Nat.le_of_ble_eq_true rfl) dX5_undo_28) hC [7, 8, 9, 10, 11, 12, 13, 14, 15, 16, 17, 18, 19, 20, 21, 22, 23, 24, 25, 26, 27, 28, 29, 30, 31] rfl (fun H locs hC => ?_)
    obtain ⟨e1, e2, e3, e4, e5, e6, e7, e8, e9⟩ := z_s9 hf
    subst e1
    subst e2
    subst e3
    subst e4
    subst e5
    subst e6
    subst e7
    subst e8
    subst e9
    exact z_iret S0 hr hlk hC dX5_undo_31
  · replace hf := z_pos cd2 hf
    refine lv_bipush (v := (-2)) hx hb dX5_undo_10 (by decide) ?_
    obtain ⟨e1, e2, e3, e4, e5, e6, e7, e8, e9⟩ := z_s9 hf
    subst e1
    subst e2
    subst e3
    subst e4
    subst e5
    subst e6
    subst e7
    subst e8
    subst e9
    exact z_iret S0 hr hlk hC dX5_undo_12

-- X5 save
def f_X5_save (Zss : Int32) (Nzr : Int32) (Nzf : (Nat → Int32)) (Nvr : Int32) (Nvf : (Nat → Int32)) (Nnm : (Nat → Int32)) (Npd : Int32) (Nnt : Int32) (Kzr : Int32) (Kzf : (Nat → Int32)) (Kvr : Int32) (Kvf : (Nat → Int32)) (Knm : (Nat → Int32)) (Kpd : Int32) (Knt : Int32) : Option (Int32 × Int32 × Int32 × (Nat → Int32) × Int32 × (Nat → Int32) × (Nat → Int32) × Int32 × Int32) :=
  (f_X2_copyFrom Kzr Kzf Kvr Kvf Knm Kpd Knt Nzr Nzf Nvr Nvf Nnm Npd Nnt).bind fun r1 => (f_X4_rows 56 Nvr).bind fun r2 => some (r2, 1, r1.1, r1.2.1, r1.2.2.1, r1.2.2.2.1, r1.2.2.2.2.1, r1.2.2.2.2.2.1, r1.2.2.2.2.2.2)

theorem kX5_save_19 : Cond.fieldLink RX5 19 "ZoneSampler" "snapshot" "LZoneSampler$State;" ∈ wsX5_save := by decide +kernel
theorem kX5_save_10 : Cond.fieldLink RX5 10 "ZoneSampler" "now" "LZoneSampler$State;" ∈ wsX5_save := by decide +kernel
theorem kX5_save_222 : Cond.fieldLink RX5 222 "ZoneSampler" "hasSnapshot" "Z" ∈ wsX5_save := by decide +kernel
theorem jX5_save_X2 : ∀ w ∈ u_ws RX2 TX2 5, w ∈ wsX5_save := by decide +kernel
theorem jX5_save_X5 : ∀ w ∈ u_ws RX5 TX5 7, w ∈ wsX5_save := by decide +kernel
set_option maxHeartbeats 4000000 in
set_option maxRecDepth 100000 in
theorem c_X5_save (l : Launch) (G : va_G) (c3 : zT3) (oZ : Nat) (oN oT oK : zR6) (oH : Nat) (oP oV : zR2) (BZ : Int32) (BN : zSt) (BK : zSt) {r : Int32} {Zss' : Int32} {Kzr' : Int32} {Kzf' : (Nat → Int32)} {Kvr' : Int32} {Kvf' : (Nat → Int32)} {Knm' : (Nat → Int32)} {Kpd' : Int32} {Knt' : Int32} (hf : f_X5_save BZ BN.1.1 BN.1.2 BN.2.1.1 BN.2.1.2 BN.2.2.1 BN.2.2.2.1 BN.2.2.2.2 BK.1.1 BK.1.2 BK.2.1.1 BK.2.1.2 BK.2.2.1 BK.2.2.2.1 BK.2.2.2.2 = some (r, Zss', Kzr', Kzf', Kvr', Kvf', Knm', Kpd', Knt')) : zM l yX5_save wsX5_save ⟨3, 0, 0, 68⟩ G c3 (zwZ oZ oN oT oK oH oP oV BZ ++ zwS c3.1 oN ((BN.1.1, BN.1.2), (BN.2.1.1, BN.2.1.2), BN.2.2.1, BN.2.2.2.1, BN.2.2.2.2) ++ zwS c3.1 oK ((BK.1.1, BK.1.2), (BK.2.1.1, BK.2.1.2), BK.2.2.1, BK.2.2.2.1, BK.2.2.2.2)) [.ref oZ] (some (.int r)) (zwZ oZ oN oT oK oH oP oV Zss' ++ zwS c3.1 oN ((BN.1.1, BN.1.2), (BN.2.1.1, BN.2.1.2), BN.2.2.1, BN.2.2.2.1, BN.2.2.2.2) ++ zwS c3.1 oK ((Kzr', Kzf'), (Kvr', Kvf'), Knm', Kpd', Knt')) := by
  obtain ⟨Zss, rfl⟩ : ∃ y, y = BZ := ⟨_, rfl⟩
  obtain ⟨⟨Nzr, Nzf⟩, ⟨Nvr, Nvf⟩, Nnm, Npd, Nnt⟩ := BN
  obtain ⟨⟨Kzr, Kzf⟩, ⟨Kvr, Kvf⟩, Knm, Kpd, Knt⟩ := BK
  have hf : f_X5_save Zss Nzr Nzf Nvr Nvf Nnm Npd Nnt Kzr Kzf Kvr Kvf Knm Kpd Knt = some (r, Zss', Kzr', Kzf', Kvr', Kvf', Knm', Kpd', Knt') := hf
  show zM l yX5_save wsX5_save ⟨3, 0, 0, 68⟩ G c3 (zwZ oZ oN oT oK oH oP oV Zss ++ zwS c3.1 oN ((Nzr, Nzf), (Nvr, Nvf), Nnm, Npd, Nnt) ++ zwS c3.1 oK ((Kzr, Kzf), (Kvr, Kvf), Knm, Kpd, Knt)) [.ref oZ] (some (.int r)) (zwZ oZ oN oT oK oH oP oV Zss' ++ zwS c3.1 oN ((Nzr, Nzf), (Nvr, Nvf), Nnm, Npd, Nnt) ++ zwS c3.1 oK ((Kzr', Kzf'), (Kvr', Kvf'), Knm', Kpd', Knt'))
  refine zM.of (cc := cX5_save) (maxL := 1) (ret := (some .int)) (by decide) rfl (Nat.le_of_ble_eq_true rfl) ?_
  intro p e s m args below meth c A ls S0 hr hlk hC hl
  have S0 : CallFix p m c cX5_save 1 s args wsX5_save RX5 := S0
  have hl : lv_has ls 1 [(0, .ref oZ)] := hl
  have hx := S0.1
  have hb := S0.2.1
  obtain ⟨H, hH⟩ : ∃ y, y = s.heap := ⟨_, rfl⟩
  rw [← hH] at hC ⊢
  obtain ⟨locs, hlo⟩ : ∃ y : List Loc, y = [] := ⟨_, rfl⟩
  rw [← hlo] at hC ⊢
  clear hH hlo
  unfold f_X5_save at hf
  refine lv_aload_n hx hb dX5_save_0 rfl (lv_at hl 0 rfl) ?_
  refine z_get S0 hC (ci := 5) (C := RX5) (T := TX5) (N := 7) (v := .ref oK.1) jX5_save_X5 0 rfl rfl 2 (by decide) kX5_save_19 rfl rfl dX5_save_1 ?_
  refine lv_aload_n hx hb dX5_save_4 rfl (lv_at hl 0 rfl) ?_
  refine z_get S0 hC (ci := 5) (C := RX5) (T := TX5) (N := 7) (v := .ref oN.1) jX5_save_X5 0 rfl rfl 0 (by decide) kX5_save_10 rfl rfl dX5_save_5 ?_
  obtain ⟨r1, hr1, hf⟩ := z_bind hf
  refine z_callv (z_runV (n := 1) (rest := []) (As := [.ref oN.1]) S0 hC (c_X2_copyFrom l G c3 oK ((Kzr, Kzf), (Kvr, Kvf), Knm, Kpd, Knt) oN ((Nzr, Nzf), (Nvr, Nvf), Nnm, Npd, Nnt) hr1) [7, 8, 9, 10, 11, 12, 1, 2, 3, 4, 5, 6] (by decide) rfl gX5_save_X2_copyFrom rfl rfl rfl (by decide +kernel) ⟨Nat.le_of_ble_eq_true rfl, Nat.le_of_ble_eq_true rfl⟩ (ci := 2) (q0 := 7) rfl rfl rfl hl.1 rfl (Nat.le_of_ble_eq_true rfl) dX5_save_8) hC [7, 8, 9, 10, 11, 12, 1, 2, 3, 4, 5, 6] [0] [0, 7, 8, 9, 10, 11, 12, 1, 2, 3, 4, 5, 6] rfl (wr := (zwZ oZ oN oT oK oH oP oV Zss)) rfl (by decide) (by decide) (ws2 := (zwZ oZ oN oT oK oH oP oV Zss ++ zwS c3.1 oN ((Nzr, Nzf), (Nvr, Nvf), Nnm, Npd, Nnt) ++ zwS c3.1 oK ((r1.1, r1.2.1), (r1.2.2.1, r1.2.2.2.1), r1.2.2.2.2.1, r1.2.2.2.2.2.1, r1.2.2.2.2.2.2))) rfl (by decide) (fun H locs hC => ?_)
  refine lv_aload_n hx hb dX5_save_11 rfl (lv_at hl 0 rfl) ?_
  refine lv_iconst (v := 1) hx hb dX5_save_12 (by decide) ?_
  refine z_put S0 hC (ci := 5) (C := RX5) (T := TX5) (N := 7) (v := .int 1) jX5_save_X5 tyX5 tyX5_ok nmX5 0 rfl rfl 6 (by decide) kX5_save_222 rfl rfl rfl rfl (Nat.le_of_ble_eq_true rfl) dX5_save_13 (ws2 := (zwZ oZ oN oT oK oH oP oV 1 ++ zwS c3.1 oN ((Nzr, Nzf), (Nvr, Nvf), Nnm, Npd, Nnt) ++ zwS c3.1 oK ((r1.1, r1.2.1), (r1.2.2.1, r1.2.2.2.1), r1.2.2.2.2.1, r1.2.2.2.2.2.1, r1.2.2.2.2.2.2))) rfl (fun H locs hC => ?_)
  refine lv_aload_n hx hb dX5_save_16 rfl (lv_at hl 0 rfl) ?_
  refine z_get S0 hC (ci := 5) (C := RX5) (T := TX5) (N := 7) (v := .ref oN.1) jX5_save_X5 0 rfl rfl 0 (by decide) kX5_save_10 rfl rfl dX5_save_17 ?_
  refine z_getN S0 hC (host := "ZoneSampler") (ci := 2) (C := RX2) (T := TX2) (N := 5) (v := .ref oN.2.2.2.1) jX5_save_X2 1 rfl rfl 1 (by decide) (by decide +kernel : Cond.fieldLinkNest RX5 168 "ZoneSampler$State" "voices" "LZoneSampler$Table;" "ZoneSampler" ∈ zNW) rfl rfl dX5_save_20 ?_
  obtain ⟨r2, hr2, hf⟩ := z_bind hf
  refine z_callPi (z_runV (n := 0) (rest := []) (As := []) S0 hC (c_X4_rows l G c3 oN.2.2.2 56 (Nvr, Nvf) hr2) [5, 6] (by decide) rfl gX5_save_X4_rows rfl rfl rfl (by decide +kernel) ⟨Nat.le_of_ble_eq_true rfl, Nat.le_of_ble_eq_true rfl⟩ (ci := 4) (q0 := 5) rfl rfl rfl hl.1 rfl (Nat.le_of_ble_eq_true rfl) dX5_save_23) hC [5, 6] rfl (fun H locs hC => ?_)
  obtain ⟨e1, e2, e3, e4, e5, e6, e7, e8, e9⟩ := z_s9 hf
  subst e1
  subst e2
  subst e3
  subst e4
  subst e5
  subst e6
  subst e7
  subst e8
  subst e9
  exact z_iret S0 hr hlk hC dX5_save_26

-- X5 restore
def f_X5_restore (Zss : Int32) (Nzr : Int32) (Nzf : (Nat → Int32)) (Nvr : Int32) (Nvf : (Nat → Int32)) (Nnm : (Nat → Int32)) (Npd : Int32) (Nnt : Int32) (Kzr : Int32) (Kzf : (Nat → Int32)) (Kvr : Int32) (Kvf : (Nat → Int32)) (Knm : (Nat → Int32)) (Kpd : Int32) (Knt : Int32) (Hhs : zHs) : Option (Int32 × Int32 × (Nat → Int32) × Int32 × (Nat → Int32) × (Nat → Int32) × Int32 × Int32 × zHs) :=
  if Zss = 0 then
    some ((-2), Nzr, Nzf, Nvr, Nvf, Nnm, Npd, Nnt, Hhs)
  else
    (f_X0_record Hhs Nzr Nzf Nvr Nvf Nnm Npd Nnt).bind fun r2 => (f_X2_copyFrom Nzr Nzf Nvr Nvf Nnm Npd Nnt Kzr Kzf Kvr Kvf Knm Kpd Knt).bind fun r3 => (f_X4_rows 56 r3.2.2.1).bind fun r4 => some (r4, r3.1, r3.2.1, r3.2.2.1, r3.2.2.2.1, r3.2.2.2.2.1, r3.2.2.2.2.2.1, r3.2.2.2.2.2.2, r2)

theorem kX5_restore_222 : Cond.fieldLink RX5 222 "ZoneSampler" "hasSnapshot" "Z" ∈ wsX5_restore := by decide +kernel
theorem kX5_restore_25 : Cond.fieldLink RX5 25 "ZoneSampler" "history" "LZoneSampler$History;" ∈ wsX5_restore := by decide +kernel
theorem kX5_restore_10 : Cond.fieldLink RX5 10 "ZoneSampler" "now" "LZoneSampler$State;" ∈ wsX5_restore := by decide +kernel
theorem kX5_restore_19 : Cond.fieldLink RX5 19 "ZoneSampler" "snapshot" "LZoneSampler$State;" ∈ wsX5_restore := by decide +kernel
theorem jX5_restore_X2 : ∀ w ∈ u_ws RX2 TX2 5, w ∈ wsX5_restore := by decide +kernel
theorem jX5_restore_X5 : ∀ w ∈ u_ws RX5 TX5 7, w ∈ wsX5_restore := by decide +kernel
set_option maxHeartbeats 4000000 in
set_option maxRecDepth 100000 in
theorem c_X5_restore (l : Launch) (G : va_G) (c3 : zT3) (oZ : Nat) (oN oT oK : zR6) (oH : Nat) (oP oV : zR2) (BZ : Int32) (BN : zSt) (BK : zSt) (BH : zHs) {r : Int32} {Nzr' : Int32} {Nzf' : (Nat → Int32)} {Nvr' : Int32} {Nvf' : (Nat → Int32)} {Nnm' : (Nat → Int32)} {Npd' : Int32} {Nnt' : Int32} {Hhs' : zHs} (hf : f_X5_restore BZ BN.1.1 BN.1.2 BN.2.1.1 BN.2.1.2 BN.2.2.1 BN.2.2.2.1 BN.2.2.2.2 BK.1.1 BK.1.2 BK.2.1.1 BK.2.1.2 BK.2.2.1 BK.2.2.2.1 BK.2.2.2.2 BH = some (r, Nzr', Nzf', Nvr', Nvf', Nnm', Npd', Nnt', Hhs')) : zM l yX5_restore wsX5_restore ⟨4, 0, 0, 90⟩ G c3 (zwZ oZ oN oT oK oH oP oV BZ ++ zwS c3.1 oN ((BN.1.1, BN.1.2), (BN.2.1.1, BN.2.1.2), BN.2.2.1, BN.2.2.2.1, BN.2.2.2.2) ++ zwS c3.1 oK ((BK.1.1, BK.1.2), (BK.2.1.1, BK.2.1.2), BK.2.2.1, BK.2.2.2.1, BK.2.2.2.2) ++ zwH c3.1 oH BH) [.ref oZ] (some (.int r)) (zwZ oZ oN oT oK oH oP oV BZ ++ zwS c3.1 oN ((Nzr', Nzf'), (Nvr', Nvf'), Nnm', Npd', Nnt') ++ zwS c3.1 oK ((BK.1.1, BK.1.2), (BK.2.1.1, BK.2.1.2), BK.2.2.1, BK.2.2.2.1, BK.2.2.2.2) ++ zwH c3.1 oH Hhs') := by
  obtain ⟨Zss, rfl⟩ : ∃ y, y = BZ := ⟨_, rfl⟩
  obtain ⟨⟨Nzr, Nzf⟩, ⟨Nvr, Nvf⟩, Nnm, Npd, Nnt⟩ := BN
  obtain ⟨⟨Kzr, Kzf⟩, ⟨Kvr, Kvf⟩, Knm, Kpd, Knt⟩ := BK
  obtain ⟨Hhs, rfl⟩ : ∃ y, y = BH := ⟨_, rfl⟩
  have hf : f_X5_restore Zss Nzr Nzf Nvr Nvf Nnm Npd Nnt Kzr Kzf Kvr Kvf Knm Kpd Knt Hhs = some (r, Nzr', Nzf', Nvr', Nvf', Nnm', Npd', Nnt', Hhs') := hf
  show zM l yX5_restore wsX5_restore ⟨4, 0, 0, 90⟩ G c3 (zwZ oZ oN oT oK oH oP oV Zss ++ zwS c3.1 oN ((Nzr, Nzf), (Nvr, Nvf), Nnm, Npd, Nnt) ++ zwS c3.1 oK ((Kzr, Kzf), (Kvr, Kvf), Knm, Kpd, Knt) ++ zwH c3.1 oH Hhs) [.ref oZ] (some (.int r)) (zwZ oZ oN oT oK oH oP oV Zss ++ zwS c3.1 oN ((Nzr', Nzf'), (Nvr', Nvf'), Nnm', Npd', Nnt') ++ zwS c3.1 oK ((Kzr, Kzf), (Kvr, Kvf), Knm, Kpd, Knt) ++ zwH c3.1 oH Hhs')
  refine zM.of (cc := cX5_restore) (maxL := 1) (ret := (some .int)) (by decide) rfl (Nat.le_of_ble_eq_true rfl) ?_
  intro p e s m args below meth c A ls S0 hr hlk hC hl
  have S0 : CallFix p m c cX5_restore 1 s args wsX5_restore RX5 := S0
  have hl : lv_has ls 1 [(0, .ref oZ)] := hl
  have hx := S0.1
  have hb := S0.2.1
  obtain ⟨H, hH⟩ : ∃ y, y = s.heap := ⟨_, rfl⟩
  rw [← hH] at hC ⊢
  obtain ⟨locs, hlo⟩ : ∃ y : List Loc, y = [] := ⟨_, rfl⟩
  rw [← hlo] at hC ⊢
  clear hH hlo
  unfold f_X5_restore at hf
  refine lv_aload_n hx hb dX5_restore_0 rfl (lv_at hl 0 rfl) ?_
  refine z_get S0 hC (ci := 5) (C := RX5) (T := TX5) (N := 7) (v := .int Zss) jX5_restore_X5 0 rfl rfl 6 (by decide) kX5_restore_222 rfl rfl dX5_restore_1 ?_
  refine lv_if_ne (tgt := 10) hx hb dX5_restore_4 (by decide) (fun cd1 => ?_) (fun cd1 => ?_)
  · replace hf := z_neg cd1 hf
    refine lv_aload_n hx hb dX5_restore_10 rfl (lv_at hl 0 rfl) ?_
    refine z_get S0 hC (ci := 5) (C := RX5) (T := TX5) (N := 7) (v := .ref oH) jX5_restore_X5 0 rfl rfl 3 (by decide) kX5_restore_25 rfl rfl dX5_restore_11 ?_
    refine lv_aload_n hx hb dX5_restore_14 rfl (lv_at hl 0 rfl) ?_
    refine z_get S0 hC (ci := 5) (C := RX5) (T := TX5) (N := 7) (v := .ref oN.1) jX5_restore_X5 0 rfl rfl 0 (by decide) kX5_restore_10 rfl rfl dX5_restore_15 ?_
    obtain ⟨r2, hr2, hf⟩ := z_bind hf
    refine z_callv (z_runV (n := 1) (rest := []) (As := [.ref oN.1]) S0 hC (c_X0_record l G c3 oH Hhs oN ((Nzr, Nzf), (Nvr, Nvf), Nnm, Npd, Nnt) hr2) [13, 14, 15, 16, 17, 18, 19, 20, 21, 22, 23, 24, 25, 26, 27, 28, 29, 30, 31, 32, 33, 34, 35, 36, 37, 1, 2, 3, 4, 5, 6] (by decide) rfl gX5_restore_X0_record rfl rfl rfl (by decide +kernel) ⟨Nat.le_of_ble_eq_true rfl, Nat.le_of_ble_eq_true rfl⟩ (ci := 0) (q0 := 13) rfl rfl rfl hl.1 rfl (Nat.le_of_ble_eq_true rfl) dX5_restore_18) hC [13, 14, 15, 16, 17, 18, 19, 20, 21, 22, 23, 24, 25, 26, 27, 28, 29, 30, 31, 32, 33, 34, 35, 36, 37, 1, 2, 3, 4, 5, 6] [0, 7, 8, 9, 10, 11, 12] [0, 32, 33, 34, 35, 36, 37, 1, 2, 3, 4, 5, 6, 7, 8, 9, 10, 11, 12, 13, 14, 15, 16, 17, 18, 19, 20, 21, 22, 23, 24, 25, 26, 27, 28, 29, 30, 31] rfl (wr := (zwZ oZ oN oT oK oH oP oV Zss ++ zwS c3.1 oK ((Kzr, Kzf), (Kvr, Kvf), Knm, Kpd, Knt))) rfl (by decide) (by decide) (ws2 := (zwZ oZ oN oT oK oH oP oV Zss ++ zwS c3.1 oN ((Nzr, Nzf), (Nvr, Nvf), Nnm, Npd, Nnt) ++ zwS c3.1 oK ((Kzr, Kzf), (Kvr, Kvf), Knm, Kpd, Knt) ++ zwH c3.1 oH r2)) rfl (by decide) (fun H locs hC => ?_)
    refine lv_aload_n hx hb dX5_restore_21 rfl (lv_at hl 0 rfl) ?_
    refine z_get S0 hC (ci := 5) (C := RX5) (T := TX5) (N := 7) (v := .ref oN.1) jX5_restore_X5 0 rfl rfl 0 (by decide) kX5_restore_10 rfl rfl dX5_restore_22 ?_
    refine lv_aload_n hx hb dX5_restore_25 rfl (lv_at hl 0 rfl) ?_
    refine z_get S0 hC (ci := 5) (C := RX5) (T := TX5) (N := 7) (v := .ref oK.1) jX5_restore_X5 0 rfl rfl 2 (by decide) kX5_restore_19 rfl rfl dX5_restore_26 ?_
    obtain ⟨r3, hr3, hf⟩ := z_bind hf
    refine z_callv (z_runV (n := 1) (rest := []) (As := [.ref oK.1]) S0 hC (c_X2_copyFrom l G c3 oN ((Nzr, Nzf), (Nvr, Nvf), Nnm, Npd, Nnt) oK ((Kzr, Kzf), (Kvr, Kvf), Knm, Kpd, Knt) hr3) [1, 2, 3, 4, 5, 6, 7, 8, 9, 10, 11, 12] (by decide) rfl gX5_restore_X2_copyFrom rfl rfl rfl (by decide +kernel) ⟨Nat.le_of_ble_eq_true rfl, Nat.le_of_ble_eq_true rfl⟩ (ci := 2) (q0 := 1) rfl rfl rfl hl.1 rfl (Nat.le_of_ble_eq_true rfl) dX5_restore_29) hC [1, 2, 3, 4, 5, 6, 7, 8, 9, 10, 11, 12] [0, 13, 14, 15, 16, 17, 18, 19, 20, 21, 22, 23, 24, 25, 26, 27, 28, 29, 30, 31, 32, 33, 34, 35, 36, 37] [0, 26, 27, 28, 29, 30, 31, 32, 33, 34, 35, 36, 37, 1, 2, 3, 4, 5, 6, 7, 8, 9, 10, 11, 12, 13, 14, 15, 16, 17, 18, 19, 20, 21, 22, 23, 24, 25] rfl (wr := (zwZ oZ oN oT oK oH oP oV Zss ++ zwH c3.1 oH r2)) rfl (by decide) (by decide) (ws2 := (zwZ oZ oN oT oK oH oP oV Zss ++ zwS c3.1 oN ((r3.1, r3.2.1), (r3.2.2.1, r3.2.2.2.1), r3.2.2.2.2.1, r3.2.2.2.2.2.1, r3.2.2.2.2.2.2) ++ zwS c3.1 oK ((Kzr, Kzf), (Kvr, Kvf), Knm, Kpd, Knt) ++ zwH c3.1 oH r2)) rfl (by decide) (fun H locs hC => ?_)
    refine lv_aload_n hx hb dX5_restore_32 rfl (lv_at hl 0 rfl) ?_
    refine z_get S0 hC (ci := 5) (C := RX5) (T := TX5) (N := 7) (v := .ref oN.1) jX5_restore_X5 0 rfl rfl 0 (by decide) kX5_restore_10 rfl rfl dX5_restore_33 ?_
    refine z_getN S0 hC (host := "ZoneSampler") (ci := 2) (C := RX2) (T := TX2) (N := 5) (v := .ref oN.2.2.2.1) jX5_restore_X2 1 rfl rfl 1 (by decide) (by decide +kernel : Cond.fieldLinkNest RX5 168 "ZoneSampler$State" "voices" "LZoneSampler$Table;" "ZoneSampler" ∈ zNW) rfl rfl dX5_restore_36 ?_
    obtain ⟨r4, hr4, hf⟩ := z_bind hf
    refine z_callPi (z_runV (n := 0) (rest := []) (As := []) S0 hC (c_X4_rows l G c3 oN.2.2.2 56 (r3.2.2.1, r3.2.2.2.1) hr4) [5, 6] (by decide) rfl gX5_restore_X4_rows rfl rfl rfl (by decide +kernel) ⟨Nat.le_of_ble_eq_true rfl, Nat.le_of_ble_eq_true rfl⟩ (ci := 4) (q0 := 5) rfl rfl rfl hl.1 rfl (Nat.le_of_ble_eq_true rfl) dX5_restore_39) hC [5, 6] rfl (fun H locs hC => ?_)
    obtain ⟨e1, e2, e3, e4, e5, e6, e7, e8, e9⟩ := z_s9 hf
    subst e1
    subst e2
    subst e3
    subst e4
    subst e5
    subst e6
    subst e7
    subst e8
    subst e9
    exact z_iret S0 hr hlk hC dX5_restore_42
  · replace hf := z_pos cd1 hf
    refine lv_bipush (v := (-2)) hx hb dX5_restore_7 (by decide) ?_
    obtain ⟨e1, e2, e3, e4, e5, e6, e7, e8, e9⟩ := z_s9 hf
    subst e1
    subst e2
    subst e3
    subst e4
    subst e5
    subst e6
    subst e7
    subst e8
    subst e9
    exact z_iret S0 hr hlk hC dX5_restore_9
