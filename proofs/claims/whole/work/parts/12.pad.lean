-- X1 length
def f_X1_length (Pln : Int32) : Option (Int32) :=
  some (Pln)

theorem kX1_length_15 : Cond.fieldLink RX1 15 "ZoneSampler$Pad" "length" "I" ∈ wsX1_length := by decide +kernel
theorem jX1_length_X1 : ∀ w ∈ u_ws RX1 TX1 14, w ∈ wsX1_length := by decide +kernel
set_option maxHeartbeats 4000000 in
set_option maxRecDepth 100000 in
theorem c_X1_length (l : Launch) (G : va_G) (c3 : zT3) (oP : zR2) (BP : zPd) {r : Int32} (hf : f_X1_length BP.2.1 = some (r)) : zM l yX1_length wsX1_length ⟨0, 0, 0, 0⟩ G c3 (zwP c3.2.1 oP (BP.1, BP.2.1, BP.2.2.1, BP.2.2.2.1, BP.2.2.2.2.1, BP.2.2.2.2.2.1, BP.2.2.2.2.2.2.1, BP.2.2.2.2.2.2.2.1, BP.2.2.2.2.2.2.2.2.1, BP.2.2.2.2.2.2.2.2.2.1, BP.2.2.2.2.2.2.2.2.2.2.1, BP.2.2.2.2.2.2.2.2.2.2.2.1, BP.2.2.2.2.2.2.2.2.2.2.2.2.1, BP.2.2.2.2.2.2.2.2.2.2.2.2.2)) [.ref oP.1] (some (.int r)) (zwP c3.2.1 oP (BP.1, BP.2.1, BP.2.2.1, BP.2.2.2.1, BP.2.2.2.2.1, BP.2.2.2.2.2.1, BP.2.2.2.2.2.2.1, BP.2.2.2.2.2.2.2.1, BP.2.2.2.2.2.2.2.2.1, BP.2.2.2.2.2.2.2.2.2.1, BP.2.2.2.2.2.2.2.2.2.2.1, BP.2.2.2.2.2.2.2.2.2.2.2.1, BP.2.2.2.2.2.2.2.2.2.2.2.2.1, BP.2.2.2.2.2.2.2.2.2.2.2.2.2)) := by
  obtain ⟨Psg, Pln, Pat, Pvl, Plo, Phi, Pso, Pha, Pla, Pgr, Pro, Pde, Pdk, Pam⟩ := BP
  have hf : f_X1_length Pln = some (r) := hf
  show zM l yX1_length wsX1_length ⟨0, 0, 0, 0⟩ G c3 (zwP c3.2.1 oP (Psg, Pln, Pat, Pvl, Plo, Phi, Pso, Pha, Pla, Pgr, Pro, Pde, Pdk, Pam)) [.ref oP.1] (some (.int r)) (zwP c3.2.1 oP (Psg, Pln, Pat, Pvl, Plo, Phi, Pso, Pha, Pla, Pgr, Pro, Pde, Pdk, Pam))
  refine zM.of (cc := cX1_length) (maxL := 1) (ret := (some .int)) (by decide) rfl (Nat.le_of_ble_eq_true rfl) ?_
  intro p e s m args below meth c A ls S0 hr hlk hC hl
  have S0 : CallFix p m c cX1_length 1 s args wsX1_length RX1 := S0
  have hl : lv_has ls 1 [(0, .ref oP.1)] := hl
  have hx := S0.1
  have hb := S0.2.1
  obtain ⟨H, hH⟩ : ∃ y, y = s.heap := ⟨_, rfl⟩
  rw [← hH] at hC ⊢
  obtain ⟨locs, hlo⟩ : ∃ y : List Loc, y = [] := ⟨_, rfl⟩
  rw [← hlo] at hC ⊢
  clear hH hlo
  unfold f_X1_length at hf
  refine lv_aload_n hx hb dX1_length_0 rfl (lv_at hl 0 rfl) ?_
  refine z_get S0 hC (ci := 1) (C := RX1) (T := TX1) (N := 14) (v := .int Pln) jX1_length_X1 0 rfl rfl 1 (by decide) kX1_length_15 rfl rfl dX1_length_1 ?_
  have e1 := z_s1 hf
  subst e1
  exact z_iret S0 hr hlk hC dX1_length_4

-- X1 add
def f_X1_add (Psg : (Nat → Int32)) (Pln : Int32) (p1 : Int32) : Option ((Nat → Int32) × Int32) :=
  if Pln < 0 then
    some (Psg, Pln)
  else
    if 60 ≤ Pln then
      some (Psg, Pln)
    else
      (zchar p1).bind fun _ => (zast 60 Psg Pln p1).bind fun g4 => some (g4, (Pln + 1))

theorem kX1_add_15 : Cond.fieldLink RX1 15 "ZoneSampler$Pad" "length" "I" ∈ wsX1_add := by decide +kernel
theorem kX1_add_9 : Cond.fieldLink RX1 9 "ZoneSampler$Pad" "signs" "[C" ∈ wsX1_add := by decide +kernel
theorem jX1_add_X1 : ∀ w ∈ u_ws RX1 TX1 14, w ∈ wsX1_add := by decide +kernel
set_option maxHeartbeats 4000000 in
set_option maxRecDepth 100000 in
theorem c_X1_add (l : Launch) (G : va_G) (c3 : zT3) (oP : zR2) (BP : zPd) (p1 : Int32) {Psg' : (Nat → Int32)} {Pln' : Int32} (hf : f_X1_add BP.1 BP.2.1 p1 = some (Psg', Pln')) : zM l yX1_add wsX1_add ⟨0, 0, 0, 0⟩ G c3 (zwP c3.2.1 oP (BP.1, BP.2.1, BP.2.2.1, BP.2.2.2.1, BP.2.2.2.2.1, BP.2.2.2.2.2.1, BP.2.2.2.2.2.2.1, BP.2.2.2.2.2.2.2.1, BP.2.2.2.2.2.2.2.2.1, BP.2.2.2.2.2.2.2.2.2.1, BP.2.2.2.2.2.2.2.2.2.2.1, BP.2.2.2.2.2.2.2.2.2.2.2.1, BP.2.2.2.2.2.2.2.2.2.2.2.2.1, BP.2.2.2.2.2.2.2.2.2.2.2.2.2)) [.ref oP.1, .int p1] none (zwP c3.2.1 oP (Psg', Pln', BP.2.2.1, BP.2.2.2.1, BP.2.2.2.2.1, BP.2.2.2.2.2.1, BP.2.2.2.2.2.2.1, BP.2.2.2.2.2.2.2.1, BP.2.2.2.2.2.2.2.2.1, BP.2.2.2.2.2.2.2.2.2.1, BP.2.2.2.2.2.2.2.2.2.2.1, BP.2.2.2.2.2.2.2.2.2.2.2.1, BP.2.2.2.2.2.2.2.2.2.2.2.2.1, BP.2.2.2.2.2.2.2.2.2.2.2.2.2)) := by
  obtain ⟨Psg, Pln, Pat, Pvl, Plo, Phi, Pso, Pha, Pla, Pgr, Pro, Pde, Pdk, Pam⟩ := BP
  have hf : f_X1_add Psg Pln p1 = some (Psg', Pln') := hf
  show zM l yX1_add wsX1_add ⟨0, 0, 0, 0⟩ G c3 (zwP c3.2.1 oP (Psg, Pln, Pat, Pvl, Plo, Phi, Pso, Pha, Pla, Pgr, Pro, Pde, Pdk, Pam)) [.ref oP.1, .int p1] none (zwP c3.2.1 oP (Psg', Pln', Pat, Pvl, Plo, Phi, Pso, Pha, Pla, Pgr, Pro, Pde, Pdk, Pam))
  refine zM.of (cc := cX1_add) (maxL := 2) (ret := none) (by decide) rfl (Nat.le_of_ble_eq_true rfl) ?_
  intro p e s m args below meth c A ls S0 hr hlk hC hl
  have S0 : CallFix p m c cX1_add 2 s args wsX1_add RX1 := S0
  have hl : lv_has ls 2 [(0, .ref oP.1), (1, .int p1)] := hl
  have hx := S0.1
  have hb := S0.2.1
  obtain ⟨H, hH⟩ : ∃ y, y = s.heap := ⟨_, rfl⟩
  rw [← hH] at hC ⊢
  obtain ⟨locs, hlo⟩ : ∃ y : List Loc, y = [] := ⟨_, rfl⟩
  rw [← hlo] at hC ⊢
  clear hH hlo
  unfold f_X1_add at hf
  refine lv_aload_n hx hb dX1_add_0 rfl (lv_at hl 0 rfl) ?_
  refine z_get S0 hC (ci := 1) (C := RX1) (T := TX1) (N := 14) (v := .int Pln) jX1_add_X1 0 rfl rfl 1 (by decide) kX1_add_15 rfl rfl dX1_add_1 ?_
  refine lv_if_lt (tgt := 39) hx hb dX1_add_4 (by decide) (fun cd1 => ?_) (fun cd1 => ?_)
  · replace hf := z_pos cd1 hf
    obtain ⟨e1, e2⟩ := z_s2 hf
    subst e1
    subst e2
    exact z_vret S0 hr hlk hC dX1_add_39
  · replace hf := z_neg cd1 hf
    refine lv_aload_n hx hb dX1_add_7 rfl (lv_at hl 0 rfl) ?_
    refine z_get S0 hC (ci := 1) (C := RX1) (T := TX1) (N := 14) (v := .int Pln) jX1_add_X1 0 rfl rfl 1 (by decide) kX1_add_15 rfl rfl dX1_add_8 ?_
    refine lv_aload_n hx hb dX1_add_11 rfl (lv_at hl 0 rfl) ?_
    refine z_get S0 hC (ci := 1) (C := RX1) (T := TX1) (N := 14) (v := .ref oP.2) jX1_add_X1 0 rfl rfl 0 (by decide) kX1_add_9 rfl rfl dX1_add_12 ?_
    refine z_alen S0 hC 1 1 rfl rfl (v := 60) rfl dX1_add_15 ?_
    refine lv_icmp_ge (tgt := 39) hx hb dX1_add_16 (by decide) (fun cd2 => ?_) (fun cd2 => ?_)
    · replace hf := z_pos cd2 hf
      obtain ⟨e1, e2⟩ := z_s2 hf
      subst e1
      subst e2
      exact z_vret S0 hr hlk hC dX1_add_39
    · replace hf := z_neg cd2 hf
      refine lv_aload_n hx hb dX1_add_19 rfl (lv_at hl 0 rfl) ?_
      refine z_get S0 hC (ci := 1) (C := RX1) (T := TX1) (N := 14) (v := .ref oP.2) jX1_add_X1 0 rfl rfl 0 (by decide) kX1_add_9 rfl rfl dX1_add_20 ?_
      refine lv_aload_n hx hb dX1_add_23 rfl (lv_at hl 0 rfl) ?_
      refine z_get S0 hC (ci := 1) (C := RX1) (T := TX1) (N := 14) (v := .int Pln) jX1_add_X1 0 rfl rfl 1 (by decide) kX1_add_15 rfl rfl dX1_add_24 ?_
      refine lv_iload_n hx hb dX1_add_27 rfl (lv_at hl 1 rfl) ?_
      obtain ⟨w3, hw3, hf⟩ := z_bind hf
      obtain ⟨g4, hg4, hf⟩ := z_bind hf
      refine z_cast S0 hC 1 rfl hw3 hg4 dX1_add_28 (ws2 := (zwP c3.2.1 oP (g4, Pln, Pat, Pvl, Plo, Phi, Pso, Pha, Pla, Pgr, Pro, Pde, Pdk, Pam))) rfl (fun H locs hC => ?_)
      refine lv_aload_n hx hb dX1_add_29 rfl (lv_at hl 0 rfl) ?_
      refine lv_dup hx hb dX1_add_30 rfl ?_
      refine z_get S0 hC (ci := 1) (C := RX1) (T := TX1) (N := 14) (v := .int Pln) jX1_add_X1 0 rfl rfl 1 (by decide) kX1_add_15 rfl rfl dX1_add_31 ?_
      refine lv_iconst (v := 1) hx hb dX1_add_34 (by decide) ?_
      refine lv_iadd hx hb dX1_add_35 ?_
      refine z_put S0 hC (ci := 1) (C := RX1) (T := TX1) (N := 14) (v := .int (Pln + 1)) jX1_add_X1 tyX1 tyX1_ok nmX1 0 rfl rfl 1 (by decide) kX1_add_15 rfl rfl rfl rfl (Nat.le_of_ble_eq_true rfl) dX1_add_36 (ws2 := (zwP c3.2.1 oP (g4, (Pln + 1), Pat, Pvl, Plo, Phi, Pso, Pha, Pla, Pgr, Pro, Pde, Pdk, Pam))) rfl (fun H locs hC => ?_)
      obtain ⟨e1, e2⟩ := z_s2 hf
      subst e1
      subst e2
      exact z_vret S0 hr hlk hC dX1_add_39

-- X1 empty
def f_X1_empty (Pln : Int32) : Option (Int32) :=
  some (0)

theorem kX1_empty_15 : Cond.fieldLink RX1 15 "ZoneSampler$Pad" "length" "I" ∈ wsX1_empty := by decide +kernel
theorem jX1_empty_X1 : ∀ w ∈ u_ws RX1 TX1 14, w ∈ wsX1_empty := by decide +kernel
set_option maxHeartbeats 4000000 in
set_option maxRecDepth 100000 in
theorem c_X1_empty (l : Launch) (G : va_G) (c3 : zT3) (oP : zR2) (BP : zPd) {Pln' : Int32} (hf : f_X1_empty BP.2.1 = some (Pln')) : zM l yX1_empty wsX1_empty ⟨0, 0, 0, 0⟩ G c3 (zwP c3.2.1 oP (BP.1, BP.2.1, BP.2.2.1, BP.2.2.2.1, BP.2.2.2.2.1, BP.2.2.2.2.2.1, BP.2.2.2.2.2.2.1, BP.2.2.2.2.2.2.2.1, BP.2.2.2.2.2.2.2.2.1, BP.2.2.2.2.2.2.2.2.2.1, BP.2.2.2.2.2.2.2.2.2.2.1, BP.2.2.2.2.2.2.2.2.2.2.2.1, BP.2.2.2.2.2.2.2.2.2.2.2.2.1, BP.2.2.2.2.2.2.2.2.2.2.2.2.2)) [.ref oP.1] none (zwP c3.2.1 oP (BP.1, Pln', BP.2.2.1, BP.2.2.2.1, BP.2.2.2.2.1, BP.2.2.2.2.2.1, BP.2.2.2.2.2.2.1, BP.2.2.2.2.2.2.2.1, BP.2.2.2.2.2.2.2.2.1, BP.2.2.2.2.2.2.2.2.2.1, BP.2.2.2.2.2.2.2.2.2.2.1, BP.2.2.2.2.2.2.2.2.2.2.2.1, BP.2.2.2.2.2.2.2.2.2.2.2.2.1, BP.2.2.2.2.2.2.2.2.2.2.2.2.2)) := by
  obtain ⟨Psg, Pln, Pat, Pvl, Plo, Phi, Pso, Pha, Pla, Pgr, Pro, Pde, Pdk, Pam⟩ := BP
  have hf : f_X1_empty Pln = some (Pln') := hf
  show zM l yX1_empty wsX1_empty ⟨0, 0, 0, 0⟩ G c3 (zwP c3.2.1 oP (Psg, Pln, Pat, Pvl, Plo, Phi, Pso, Pha, Pla, Pgr, Pro, Pde, Pdk, Pam)) [.ref oP.1] none (zwP c3.2.1 oP (Psg, Pln', Pat, Pvl, Plo, Phi, Pso, Pha, Pla, Pgr, Pro, Pde, Pdk, Pam))
  refine zM.of (cc := cX1_empty) (maxL := 1) (ret := none) (by decide) rfl (Nat.le_of_ble_eq_true rfl) ?_
  intro p e s m args below meth c A ls S0 hr hlk hC hl
  have S0 : CallFix p m c cX1_empty 1 s args wsX1_empty RX1 := S0
  have hl : lv_has ls 1 [(0, .ref oP.1)] := hl
  have hx := S0.1
  have hb := S0.2.1
  obtain ⟨H, hH⟩ : ∃ y, y = s.heap := ⟨_, rfl⟩
  rw [← hH] at hC ⊢
  obtain ⟨locs, hlo⟩ : ∃ y : List Loc, y = [] := ⟨_, rfl⟩
  rw [← hlo] at hC ⊢
  clear hH hlo
  unfold f_X1_empty at hf
  refine lv_aload_n hx hb dX1_empty_0 rfl (lv_at hl 0 rfl) ?_
  refine lv_iconst (v := 0) hx hb dX1_empty_1 (by decide) ?_
  refine z_put S0 hC (ci := 1) (C := RX1) (T := TX1) (N := 14) (v := .int 0) jX1_empty_X1 tyX1 tyX1_ok nmX1 0 rfl rfl 1 (by decide) kX1_empty_15 rfl rfl rfl rfl (Nat.le_of_ble_eq_true rfl) dX1_empty_2 (ws2 := (zwP c3.2.1 oP (Psg, 0, Pat, Pvl, Plo, Phi, Pso, Pha, Pla, Pgr, Pro, Pde, Pdk, Pam))) rfl (fun H locs hC => ?_)
  have e1 := z_s1 hf
  subst e1
  exact z_vret S0 hr hlk hC dX1_empty_5

-- X1 rewind
def f_X1_rewind (Pat : Int32) : Option (Int32) :=
  some (0)

theorem kX1_rewind_19 : Cond.fieldLink RX1 19 "ZoneSampler$Pad" "at" "I" ∈ wsX1_rewind := by decide +kernel
theorem jX1_rewind_X1 : ∀ w ∈ u_ws RX1 TX1 14, w ∈ wsX1_rewind := by decide +kernel
set_option maxHeartbeats 4000000 in
set_option maxRecDepth 100000 in
theorem c_X1_rewind (l : Launch) (G : va_G) (c3 : zT3) (oP : zR2) (BP : zPd) {Pat' : Int32} (hf : f_X1_rewind BP.2.2.1 = some (Pat')) : zM l yX1_rewind wsX1_rewind ⟨0, 0, 0, 0⟩ G c3 (zwP c3.2.1 oP (BP.1, BP.2.1, BP.2.2.1, BP.2.2.2.1, BP.2.2.2.2.1, BP.2.2.2.2.2.1, BP.2.2.2.2.2.2.1, BP.2.2.2.2.2.2.2.1, BP.2.2.2.2.2.2.2.2.1, BP.2.2.2.2.2.2.2.2.2.1, BP.2.2.2.2.2.2.2.2.2.2.1, BP.2.2.2.2.2.2.2.2.2.2.2.1, BP.2.2.2.2.2.2.2.2.2.2.2.2.1, BP.2.2.2.2.2.2.2.2.2.2.2.2.2)) [.ref oP.1] none (zwP c3.2.1 oP (BP.1, BP.2.1, Pat', BP.2.2.2.1, BP.2.2.2.2.1, BP.2.2.2.2.2.1, BP.2.2.2.2.2.2.1, BP.2.2.2.2.2.2.2.1, BP.2.2.2.2.2.2.2.2.1, BP.2.2.2.2.2.2.2.2.2.1, BP.2.2.2.2.2.2.2.2.2.2.1, BP.2.2.2.2.2.2.2.2.2.2.2.1, BP.2.2.2.2.2.2.2.2.2.2.2.2.1, BP.2.2.2.2.2.2.2.2.2.2.2.2.2)) := by
  obtain ⟨Psg, Pln, Pat, Pvl, Plo, Phi, Pso, Pha, Pla, Pgr, Pro, Pde, Pdk, Pam⟩ := BP
  have hf : f_X1_rewind Pat = some (Pat') := hf
  show zM l yX1_rewind wsX1_rewind ⟨0, 0, 0, 0⟩ G c3 (zwP c3.2.1 oP (Psg, Pln, Pat, Pvl, Plo, Phi, Pso, Pha, Pla, Pgr, Pro, Pde, Pdk, Pam)) [.ref oP.1] none (zwP c3.2.1 oP (Psg, Pln, Pat', Pvl, Plo, Phi, Pso, Pha, Pla, Pgr, Pro, Pde, Pdk, Pam))
  refine zM.of (cc := cX1_rewind) (maxL := 1) (ret := none) (by decide) rfl (Nat.le_of_ble_eq_true rfl) ?_
  intro p e s m args below meth c A ls S0 hr hlk hC hl
  have S0 : CallFix p m c cX1_rewind 1 s args wsX1_rewind RX1 := S0
  have hl : lv_has ls 1 [(0, .ref oP.1)] := hl
  have hx := S0.1
  have hb := S0.2.1
  obtain ⟨H, hH⟩ : ∃ y, y = s.heap := ⟨_, rfl⟩
  rw [← hH] at hC ⊢
  obtain ⟨locs, hlo⟩ : ∃ y : List Loc, y = [] := ⟨_, rfl⟩
  rw [← hlo] at hC ⊢
  clear hH hlo
  unfold f_X1_rewind at hf
  refine lv_aload_n hx hb dX1_rewind_0 rfl (lv_at hl 0 rfl) ?_
  refine lv_iconst (v := 0) hx hb dX1_rewind_1 (by decide) ?_
  refine z_put S0 hC (ci := 1) (C := RX1) (T := TX1) (N := 14) (v := .int 0) jX1_rewind_X1 tyX1 tyX1_ok nmX1 0 rfl rfl 2 (by decide) kX1_rewind_19 rfl rfl rfl rfl (Nat.le_of_ble_eq_true rfl) dX1_rewind_2 (ws2 := (zwP c3.2.1 oP (Psg, Pln, 0, Pvl, Plo, Phi, Pso, Pha, Pla, Pgr, Pro, Pde, Pdk, Pam))) rfl (fun H locs hC => ?_)
  have e1 := z_s1 hf
  subst e1
  exact z_vret S0 hr hlk hC dX1_rewind_5

-- X1 items
def f_X1_items_4 (Psg : (Nat → Int32)) (Pln : Int32) : Nat → Int32 → Int32 → Option (Int32 × Int32)
  | 0, _, _ => none
  | fu + 1, y1, y2 =>
    if Pln ≤ y2 then
      some (y1, y2)
    else
      if 60 ≤ y2 then
        some (y1, y2)
      else
        (zald 60 Psg y2).bind fun x4 => Option.bind (α := Int32) (
          if x4 = 59 then
            some (1)
          else
            some (0)
        ) fun t6 =>
          f_X1_items_4 Psg Pln fu (y1 + t6) (y2 + 1)

theorem f_X1_items_4_s (Psg : (Nat → Int32)) (Pln : Int32) (y1 : Int32) (y2 : Int32) (fu : Nat) : f_X1_items_4 Psg Pln (fu + 1) y1 y2 = (
    if Pln ≤ y2 then
      some (y1, y2)
    else
      if 60 ≤ y2 then
        some (y1, y2)
      else
        (zald 60 Psg y2).bind fun x4 => Option.bind (α := Int32) (
          if x4 = 59 then
            some (1)
          else
            some (0)
        ) fun t6 =>
          f_X1_items_4 Psg Pln fu (y1 + t6) (y2 + 1)
    ) := rfl

def f_X1_items (Psg : (Nat → Int32)) (Pln : Int32) : Option (Int32) :=
  (f_X1_items_4 Psg Pln zF 1 0).bind fun t7 =>
    some (t7.1)

theorem kX1_items_15 : Cond.fieldLink RX1 15 "ZoneSampler$Pad" "length" "I" ∈ wsX1_items := by decide +kernel
theorem kX1_items_9 : Cond.fieldLink RX1 9 "ZoneSampler$Pad" "signs" "[C" ∈ wsX1_items := by decide +kernel
theorem jX1_items_X1 : ∀ w ∈ u_ws RX1 TX1 14, w ∈ wsX1_items := by decide +kernel
set_option maxHeartbeats 4000000 in
set_option maxRecDepth 100000 in
theorem c_X1_items (l : Launch) (G : va_G) (c3 : zT3) (oP : zR2) (BP : zPd) {r : Int32} (hf : f_X1_items BP.1 BP.2.1 = some (r)) : zM l yX1_items wsX1_items ⟨0, 0, 0, 0⟩ G c3 (zwP c3.2.1 oP (BP.1, BP.2.1, BP.2.2.1, BP.2.2.2.1, BP.2.2.2.2.1, BP.2.2.2.2.2.1, BP.2.2.2.2.2.2.1, BP.2.2.2.2.2.2.2.1, BP.2.2.2.2.2.2.2.2.1, BP.2.2.2.2.2.2.2.2.2.1, BP.2.2.2.2.2.2.2.2.2.2.1, BP.2.2.2.2.2.2.2.2.2.2.2.1, BP.2.2.2.2.2.2.2.2.2.2.2.2.1, BP.2.2.2.2.2.2.2.2.2.2.2.2.2)) [.ref oP.1] (some (.int r)) (zwP c3.2.1 oP (BP.1, BP.2.1, BP.2.2.1, BP.2.2.2.1, BP.2.2.2.2.1, BP.2.2.2.2.2.1, BP.2.2.2.2.2.2.1, BP.2.2.2.2.2.2.2.1, BP.2.2.2.2.2.2.2.2.1, BP.2.2.2.2.2.2.2.2.2.1, BP.2.2.2.2.2.2.2.2.2.2.1, BP.2.2.2.2.2.2.2.2.2.2.2.1, BP.2.2.2.2.2.2.2.2.2.2.2.2.1, BP.2.2.2.2.2.2.2.2.2.2.2.2.2)) := by
  obtain ⟨Psg, Pln, Pat, Pvl, Plo, Phi, Pso, Pha, Pla, Pgr, Pro, Pde, Pdk, Pam⟩ := BP
  have hf : f_X1_items Psg Pln = some (r) := hf
  show zM l yX1_items wsX1_items ⟨0, 0, 0, 0⟩ G c3 (zwP c3.2.1 oP (Psg, Pln, Pat, Pvl, Plo, Phi, Pso, Pha, Pla, Pgr, Pro, Pde, Pdk, Pam)) [.ref oP.1] (some (.int r)) (zwP c3.2.1 oP (Psg, Pln, Pat, Pvl, Plo, Phi, Pso, Pha, Pla, Pgr, Pro, Pde, Pdk, Pam))
  refine zM.of (cc := cX1_items) (maxL := 3) (ret := (some .int)) (by decide) rfl (Nat.le_of_ble_eq_true rfl) ?_
  intro p e s m args below meth c A ls S0 hr hlk hC hl
  have S0 : CallFix p m c cX1_items 3 s args wsX1_items RX1 := S0
  have hl : lv_has ls 3 [(0, .ref oP.1)] := hl
  have hx := S0.1
  have hb := S0.2.1
  obtain ⟨H, hH⟩ : ∃ y, y = s.heap := ⟨_, rfl⟩
  rw [← hH] at hC ⊢
  obtain ⟨locs, hlo⟩ : ∃ y : List Loc, y = [] := ⟨_, rfl⟩
  rw [← hlo] at hC ⊢
  clear hH hlo
  unfold f_X1_items at hf
  refine lv_iconst (v := 1) hx hb dX1_items_0 (by decide) ?_
  refine lv_istore_n (lv' := [(1, .int 1), (0, .ref oP.1)]) hx hb dX1_items_1 rfl hl (by decide) rfl (fun ls hl => ?_)
  refine lv_iconst (v := 0) hx hb dX1_items_2 (by decide) ?_
  refine lv_istore_n (lv' := [(2, .int 0), (1, .int 1), (0, .ref oP.1)]) hx hb dX1_items_3 rfl hl (by decide) rfl (fun ls hl => ?_)
  have L4 : ∀ (fu : Nat) (y1 : Int32) (y2 : Int32) (Psg : (Nat → Int32)) (Pln : Int32) (Pat : Int32) (Pvl : Int32) (Plo : Int32) (Phi : Int32) (Pso : Int32) (Pha : Int32) (Pla : Int32) (Pgr : Int32) (Pro : Int32) (Pde : Int32) (Pdk : Int32) (Pam : Int32) (tt : Int32 × Int32), f_X1_items_4 Psg Pln fu y1 y2 = some tt → ∀ (H : Heap) (locs : List Loc) (ls : Array Slot), zC G c3 A s (zwP c3.2.1 oP (Psg, Pln, Pat, Pvl, Plo, Phi, Pso, Pha, Pla, Pgr, Pro, Pde, Pdk, Pam)) H locs → lv_has ls 3 [(0, .ref oP.1), (1, .int y1), (2, .int y2)] → (∀ (H : Heap) (locs : List Loc) (ls : Array Slot), zC G c3 A s (zwP c3.2.1 oP (Psg, Pln, Pat, Pvl, Plo, Phi, Pso, Pha, Pla, Pgr, Pro, Pde, Pdk, Pam)) H locs → lv_has ls 3 [(0, .ref oP.1), (1, .int tt.1), (2, .int tt.2)] → W p l e ⟨0, 0, 0, 0⟩ s m args below meth c H locs 0 0 (MQ below (zPost G (zwP c3.2.1 oP (Psg, Pln, Pat, Pvl, Plo, Phi, Pso, Pha, Pla, Pgr, Pro, Pde, Pdk, Pam)) (some (.int r)) A) args s 0 0 A) (F0 m 46 ls [])) → W p l e ⟨0, 0, 0, 0⟩ s m args below meth c H locs 0 0 (MQ below (zPost G (zwP c3.2.1 oP (Psg, Pln, Pat, Pvl, Plo, Phi, Pso, Pha, Pla, Pgr, Pro, Pde, Pdk, Pam)) (some (.int r)) A) args s 0 0 A) (F0 m 4 ls []) := by
    intro fu
    induction fu with
    | zero =>
      intro y1 y2 Psg Pln Pat Pvl Plo Phi Pso Pha Pla Pgr Pro Pde Pdk Pam tt hf H locs ls hC hl hK
      exact (z_none hf).elim
    | succ fu ih4 =>
      intro y1 y2 Psg Pln Pat Pvl Plo Phi Pso Pha Pla Pgr Pro Pde Pdk Pam tt hf H locs ls hC hl hK
      replace hf := (f_X1_items_4_s Psg Pln y1 y2 fu).symm.trans hf
      refine lv_iload_n hx hb dX1_items_4 rfl (lv_at hl 2 rfl) ?_
      refine lv_aload_n hx hb dX1_items_5 rfl (lv_at hl 0 rfl) ?_
      refine z_get S0 hC (ci := 1) (C := RX1) (T := TX1) (N := 14) (v := .int Pln) jX1_items_X1 0 rfl rfl 1 (by decide) kX1_items_15 rfl rfl dX1_items_6 ?_
      refine lv_icmp_ge (tgt := 46) hx hb dX1_items_9 (by decide) (fun cd2 => ?_) (fun cd2 => ?_)
      · replace hf := z_pos cd2 hf
        have e1 := z_s1 hf
        subst e1
        exact hK H locs ls hC (lv_sub hl [0, 1, 2] rfl)
      · replace hf := z_neg cd2 hf
        refine lv_iload_n hx hb dX1_items_12 rfl (lv_at hl 2 rfl) ?_
        refine lv_aload_n hx hb dX1_items_13 rfl (lv_at hl 0 rfl) ?_
        refine z_get S0 hC (ci := 1) (C := RX1) (T := TX1) (N := 14) (v := .ref oP.2) jX1_items_X1 0 rfl rfl 0 (by decide) kX1_items_9 rfl rfl dX1_items_14 ?_
        refine z_alen S0 hC 1 1 rfl rfl (v := 60) rfl dX1_items_17 ?_
        refine lv_icmp_ge (tgt := 46) hx hb dX1_items_18 (by decide) (fun cd3 => ?_) (fun cd3 => ?_)
        · replace hf := z_pos cd3 hf
          have e1 := z_s1 hf
          subst e1
          exact hK H locs ls hC (lv_sub hl [0, 1, 2] rfl)
        · replace hf := z_neg cd3 hf
          refine lv_iload_n hx hb dX1_items_21 rfl (lv_at hl 1 rfl) ?_
          refine lv_aload_n hx hb dX1_items_22 rfl (lv_at hl 0 rfl) ?_
          refine z_get S0 hC (ci := 1) (C := RX1) (T := TX1) (N := 14) (v := .ref oP.2) jX1_items_X1 0 rfl rfl 0 (by decide) kX1_items_9 rfl rfl dX1_items_23 ?_
          refine lv_iload_n hx hb dX1_items_26 rfl (lv_at hl 2 rfl) ?_
          obtain ⟨x4, hx4, hf⟩ := z_bind hf
          refine z_cald S0 hC 1 rfl hx4 dX1_items_27 ?_
          refine lv_bipush (v := 59) hx hb dX1_items_28 (by decide) ?_
          obtain ⟨t6, ht6, hf⟩ := z_bind hf
          have Jt6 : ∀ (H : Heap) (locs : List Loc) (ls : Array Slot), zC G c3 A s (zwP c3.2.1 oP (Psg, Pln, Pat, Pvl, Plo, Phi, Pso, Pha, Pla, Pgr, Pro, Pde, Pdk, Pam)) H locs → lv_has ls 3 [(0, .ref oP.1), (1, .int y1), (2, .int y2)] → W p l e ⟨0, 0, 0, 0⟩ s m args below meth c H locs 0 0 (MQ below (zPost G (zwP c3.2.1 oP (Psg, Pln, Pat, Pvl, Plo, Phi, Pso, Pha, Pla, Pgr, Pro, Pde, Pdk, Pam)) (some (.int r)) A) args s 0 0 A) (F0 m 38 ls [.int t6, .int y1]) := by
            intro H locs ls hC hl
            refine lv_iadd hx hb dX1_items_38 ?_
            refine lv_istore_n (lv' := [(1, .int (y1 + t6)), (0, .ref oP.1), (2, .int y2)]) hx hb dX1_items_39 rfl hl (by decide) rfl (fun ls hl => ?_)
            refine lv_iinc (v := (y2 + 1)) (lv' := [(2, .int (y2 + 1)), (1, .int (y1 + t6)), (0, .ref oP.1)]) hx hb dX1_items_40 hl (k := 2) rfl rfl (by decide) rfl (fun ls hl => ?_)
            refine lv_goto (tgt := 4) hx hb dX1_items_43 (by decide) ?_
            exact ih4 (y1 + t6) (y2 + 1) Psg Pln Pat Pvl Plo Phi Pso Pha Pla Pgr Pro Pde Pdk Pam _ hf H locs ls hC (lv_sub hl [2, 1, 0] rfl) hK
          refine lv_icmp_ne (tgt := 37) hx hb dX1_items_30 (by decide) (fun cd5 => ?_) (fun cd5 => ?_)
          · replace ht6 := z_neg cd5 ht6
            refine lv_iconst (v := 0) hx hb dX1_items_37 (by decide) ?_
            have e1 := z_s1 ht6
            subst e1
            exact Jt6 H locs ls hC (lv_sub hl [0, 1, 2] rfl)
          · replace ht6 := z_pos cd5 ht6
            refine lv_iconst (v := 1) hx hb dX1_items_33 (by decide) ?_
            refine lv_goto (tgt := 38) hx hb dX1_items_34 (by decide) ?_
            have e1 := z_s1 ht6
            subst e1
            exact Jt6 H locs ls hC (lv_sub hl [0, 1, 2] rfl)
  obtain ⟨t7, ht7, hf⟩ := z_bind hf
  refine L4 zF 1 0 Psg Pln Pat Pvl Plo Phi Pso Pha Pla Pgr Pro Pde Pdk Pam t7 ht7 H locs ls hC (lv_sub hl [2, 1, 0] rfl) (fun H locs ls hC hl => ?_)
  refine lv_iload_n hx hb dX1_items_46 rfl (lv_at hl 1 rfl) ?_
  have e1 := z_s1 hf
  subst e1
  exact z_iret S0 hr hlk hC dX1_items_47

-- X1 canBegin
def f_X1_canBegin (p0 : Int32) (p1 : Int32) (p2 : Int32) : Option (Int32) :=
  Option.bind (α := Int32) (
    if p0 < p1 then
      some (0)
    else
      if p2 < p0 then
        some (0)
      else
        some (1)
  ) fun t2 =>
    Option.bind (α := Int32) (
      if p0 ≤ 0 then
        some (0)
      else
        if p2 < (10 * p0) then
          some (0)
        else
          if ((10 * p0) + 9) < p1 then
            some (0)
          else
            some (1)
    ) fun t4 =>
      if t2 = 0 then
        if t4 = 0 then
          some (0)
        else
          some (1)
      else
        some (1)

set_option maxHeartbeats 4000000 in
set_option maxRecDepth 100000 in
theorem c_X1_canBegin (l : Launch) (G : va_G) (c3 : zT3) (p0 : Int32) (p1 : Int32) (p2 : Int32) {r : Int32} (hf : f_X1_canBegin p0 p1 p2 = some (r)) : zM l yX1_canBegin wsX1_canBegin ⟨0, 0, 0, 0⟩ G c3 ([] : va_W) [.int p0, .int p1, .int p2] (some (.int r)) ([] : va_W) := by
  have hf : f_X1_canBegin p0 p1 p2 = some (r) := hf
  show zM l yX1_canBegin wsX1_canBegin ⟨0, 0, 0, 0⟩ G c3 ([] : va_W) [.int p0, .int p1, .int p2] (some (.int r)) ([] : va_W)
  refine zM.of (cc := cX1_canBegin) (maxL := 5) (ret := (some .boolean)) (by decide) rfl (Nat.le_of_ble_eq_true rfl) ?_
  intro p e s m args below meth c A ls S0 hr hlk hC hl
  have S0 : CallFix p m c cX1_canBegin 5 s args wsX1_canBegin RX1 := S0
  have hl : lv_has ls 5 [(0, .int p0), (1, .int p1), (2, .int p2)] := hl
  have hx := S0.1
  have hb := S0.2.1
  obtain ⟨H, hH⟩ : ∃ y, y = s.heap := ⟨_, rfl⟩
  rw [← hH] at hC ⊢
  obtain ⟨locs, hlo⟩ : ∃ y : List Loc, y = [] := ⟨_, rfl⟩
  rw [← hlo] at hC ⊢
  clear hH hlo
  unfold f_X1_canBegin at hf
  refine lv_iload_n hx hb dX1_canBegin_0 rfl (lv_at hl 0 rfl) ?_
  refine lv_iload_n hx hb dX1_canBegin_1 rfl (lv_at hl 1 rfl) ?_
  obtain ⟨t2, ht2, hf⟩ := z_bind hf
  have Jt2 : ∀ (H : Heap) (locs : List Loc) (ls : Array Slot), zC G c3 A s ([] : va_W) H locs → lv_has ls 5 [(0, .int p0), (1, .int p1), (2, .int p2)] → W p l e ⟨0, 0, 0, 0⟩ s m args below meth c H locs 0 0 (MQ below (zPost G ([] : va_W) (some (.int r)) A) args s 0 0 A) (F0 m 15 ls [.int t2]) := by
    intro H locs ls hC hl
    refine lv_istore_n (lv' := [(3, .int t2), (0, .int p0), (1, .int p1), (2, .int p2)]) hx hb dX1_canBegin_15 rfl hl (by decide) rfl (fun ls hl => ?_)
    refine lv_iload_n hx hb dX1_canBegin_16 rfl (lv_at hl 1 rfl) ?_
    obtain ⟨t4, ht4, hf⟩ := z_bind hf
    have Jt4 : ∀ (H : Heap) (locs : List Loc) (ls : Array Slot), zC G c3 A s ([] : va_W) H locs → lv_has ls 5 [(0, .int p0), (1, .int p1), (2, .int p2), (3, .int t2)] → W p l e ⟨0, 0, 0, 0⟩ s m args below meth c H locs 0 0 (MQ below (zPost G ([] : va_W) (some (.int r)) A) args s 0 0 A) (F0 m 44 ls [.int t4]) := by
      intro H locs ls hC hl
      refine lv_istore (lv' := [(4, .int t4), (0, .int p0), (1, .int p1), (2, .int p2), (3, .int t2)]) hx hb dX1_canBegin_44 hl (by decide) rfl (fun ls hl => ?_)
      refine lv_iload_n hx hb dX1_canBegin_46 rfl (lv_at hl 4 rfl) ?_
      refine lv_if_ne (tgt := 55) hx hb dX1_canBegin_47 (by decide) (fun cd5 => ?_) (fun cd5 => ?_)
      · replace hf := z_neg cd5 hf
        refine lv_iconst (v := 1) hx hb dX1_canBegin_55 (by decide) ?_
        refine lv_goto (tgt := 60) hx hb dX1_canBegin_56 (by decide) ?_
        have e1 := z_s1 hf
        subst e1
        exact z_zret S0 hr hlk rfl hC dX1_canBegin_60
      · replace hf := z_pos cd5 hf
        refine lv_iload hx hb dX1_canBegin_50 (lv_at hl 0 rfl) ?_
        refine lv_if_eq (tgt := 59) hx hb dX1_canBegin_52 (by decide) (fun cd6 => ?_) (fun cd6 => ?_)
        · replace hf := z_pos cd6 hf
          refine lv_iconst (v := 0) hx hb dX1_canBegin_59 (by decide) ?_
          have e1 := z_s1 hf
          subst e1
          exact z_zret S0 hr hlk rfl hC dX1_canBegin_60
        · replace hf := z_neg cd6 hf
          refine lv_iconst (v := 1) hx hb dX1_canBegin_55 (by decide) ?_
          refine lv_goto (tgt := 60) hx hb dX1_canBegin_56 (by decide) ?_
          have e1 := z_s1 hf
          subst e1
          exact z_zret S0 hr hlk rfl hC dX1_canBegin_60
    refine lv_if_le (tgt := 43) hx hb dX1_canBegin_17 (by decide) (fun cd3 => ?_) (fun cd3 => ?_)
    · replace ht4 := z_pos cd3 ht4
      refine lv_iconst (v := 0) hx hb dX1_canBegin_43 (by decide) ?_
      have e1 := z_s1 ht4
      subst e1
      exact Jt4 H locs ls hC (lv_sub hl [1, 2, 3, 0] rfl)
    · replace ht4 := z_neg cd3 ht4
      refine lv_bipush (v := 10) hx hb dX1_canBegin_20 (by decide) ?_
      refine lv_iload_n hx hb dX1_canBegin_22 rfl (lv_at hl 1 rfl) ?_
      refine lv_imul hx hb dX1_canBegin_23 ?_
      refine lv_iload_n hx hb dX1_canBegin_24 rfl (lv_at hl 3 rfl) ?_
      refine lv_icmp_gt (tgt := 43) hx hb dX1_canBegin_25 (by decide) (fun cd7 => ?_) (fun cd7 => ?_)
      · replace ht4 := z_pos cd7 ht4
        refine lv_iconst (v := 0) hx hb dX1_canBegin_43 (by decide) ?_
        have e1 := z_s1 ht4
        subst e1
        exact Jt4 H locs ls hC (lv_sub hl [1, 2, 3, 0] rfl)
      · replace ht4 := z_neg cd7 ht4
        refine lv_bipush (v := 10) hx hb dX1_canBegin_28 (by decide) ?_
        refine lv_iload_n hx hb dX1_canBegin_30 rfl (lv_at hl 1 rfl) ?_
        refine lv_imul hx hb dX1_canBegin_31 ?_
        refine lv_bipush (v := 9) hx hb dX1_canBegin_32 (by decide) ?_
        refine lv_iadd hx hb dX1_canBegin_34 ?_
        refine lv_iload_n hx hb dX1_canBegin_35 rfl (lv_at hl 2 rfl) ?_
        refine lv_icmp_lt (tgt := 43) hx hb dX1_canBegin_36 (by decide) (fun cd8 => ?_) (fun cd8 => ?_)
        · replace ht4 := z_pos cd8 ht4
          refine lv_iconst (v := 0) hx hb dX1_canBegin_43 (by decide) ?_
          have e1 := z_s1 ht4
          subst e1
          exact Jt4 H locs ls hC (lv_sub hl [1, 2, 3, 0] rfl)
        · replace ht4 := z_neg cd8 ht4
          refine lv_iconst (v := 1) hx hb dX1_canBegin_39 (by decide) ?_
          refine lv_goto (tgt := 44) hx hb dX1_canBegin_40 (by decide) ?_
          have e1 := z_s1 ht4
          subst e1
          exact Jt4 H locs ls hC (lv_sub hl [1, 2, 3, 0] rfl)
  refine lv_icmp_lt (tgt := 14) hx hb dX1_canBegin_2 (by decide) (fun cd1 => ?_) (fun cd1 => ?_)
  · replace ht2 := z_pos cd1 ht2
    refine lv_iconst (v := 0) hx hb dX1_canBegin_14 (by decide) ?_
    have e1 := z_s1 ht2
    subst e1
    exact Jt2 H locs ls hC (lv_sub hl [0, 1, 2] rfl)
  · replace ht2 := z_neg cd1 ht2
    refine lv_iload_n hx hb dX1_canBegin_5 rfl (lv_at hl 0 rfl) ?_
    refine lv_iload_n hx hb dX1_canBegin_6 rfl (lv_at hl 2 rfl) ?_
    refine lv_icmp_gt (tgt := 14) hx hb dX1_canBegin_7 (by decide) (fun cd9 => ?_) (fun cd9 => ?_)
    · replace ht2 := z_pos cd9 ht2
      refine lv_iconst (v := 0) hx hb dX1_canBegin_14 (by decide) ?_
      have e1 := z_s1 ht2
      subst e1
      exact Jt2 H locs ls hC (lv_sub hl [0, 1, 2] rfl)
    · replace ht2 := z_neg cd9 ht2
      refine lv_iconst (v := 1) hx hb dX1_canBegin_10 (by decide) ?_
      refine lv_goto (tgt := 15) hx hb dX1_canBegin_11 (by decide) ?_
      have e1 := z_s1 ht2
      subst e1
      exact Jt2 H locs ls hC (lv_sub hl [0, 1, 2] rfl)

-- X1 sign
def f_X1_sign (Psg : (Nat → Int32)) (Pln : Int32) (Pat : Int32) : Option (Int32) :=
  if Pat < 0 then
    some (0)
  else
    if Pln ≤ Pat then
      some (0)
    else
      if 60 ≤ Pat then
        some (0)
      else
        (zald 60 Psg Pat).bind fun x4 => some (x4)

theorem kX1_sign_19 : Cond.fieldLink RX1 19 "ZoneSampler$Pad" "at" "I" ∈ wsX1_sign := by decide +kernel
theorem kX1_sign_15 : Cond.fieldLink RX1 15 "ZoneSampler$Pad" "length" "I" ∈ wsX1_sign := by decide +kernel
theorem kX1_sign_9 : Cond.fieldLink RX1 9 "ZoneSampler$Pad" "signs" "[C" ∈ wsX1_sign := by decide +kernel
theorem jX1_sign_X1 : ∀ w ∈ u_ws RX1 TX1 14, w ∈ wsX1_sign := by decide +kernel
set_option maxHeartbeats 4000000 in
set_option maxRecDepth 100000 in
theorem c_X1_sign (l : Launch) (G : va_G) (c3 : zT3) (oP : zR2) (BP : zPd) {r : Int32} (hf : f_X1_sign BP.1 BP.2.1 BP.2.2.1 = some (r)) : zM l yX1_sign wsX1_sign ⟨0, 0, 0, 0⟩ G c3 (zwP c3.2.1 oP (BP.1, BP.2.1, BP.2.2.1, BP.2.2.2.1, BP.2.2.2.2.1, BP.2.2.2.2.2.1, BP.2.2.2.2.2.2.1, BP.2.2.2.2.2.2.2.1, BP.2.2.2.2.2.2.2.2.1, BP.2.2.2.2.2.2.2.2.2.1, BP.2.2.2.2.2.2.2.2.2.2.1, BP.2.2.2.2.2.2.2.2.2.2.2.1, BP.2.2.2.2.2.2.2.2.2.2.2.2.1, BP.2.2.2.2.2.2.2.2.2.2.2.2.2)) [.ref oP.1] (some (.int r)) (zwP c3.2.1 oP (BP.1, BP.2.1, BP.2.2.1, BP.2.2.2.1, BP.2.2.2.2.1, BP.2.2.2.2.2.1, BP.2.2.2.2.2.2.1, BP.2.2.2.2.2.2.2.1, BP.2.2.2.2.2.2.2.2.1, BP.2.2.2.2.2.2.2.2.2.1, BP.2.2.2.2.2.2.2.2.2.2.1, BP.2.2.2.2.2.2.2.2.2.2.2.1, BP.2.2.2.2.2.2.2.2.2.2.2.2.1, BP.2.2.2.2.2.2.2.2.2.2.2.2.2)) := by
  obtain ⟨Psg, Pln, Pat, Pvl, Plo, Phi, Pso, Pha, Pla, Pgr, Pro, Pde, Pdk, Pam⟩ := BP
  have hf : f_X1_sign Psg Pln Pat = some (r) := hf
  show zM l yX1_sign wsX1_sign ⟨0, 0, 0, 0⟩ G c3 (zwP c3.2.1 oP (Psg, Pln, Pat, Pvl, Plo, Phi, Pso, Pha, Pla, Pgr, Pro, Pde, Pdk, Pam)) [.ref oP.1] (some (.int r)) (zwP c3.2.1 oP (Psg, Pln, Pat, Pvl, Plo, Phi, Pso, Pha, Pla, Pgr, Pro, Pde, Pdk, Pam))
  refine zM.of (cc := cX1_sign) (maxL := 1) (ret := (some .int)) (by decide) rfl (Nat.le_of_ble_eq_true rfl) ?_
  intro p e s m args below meth c A ls S0 hr hlk hC hl
  have S0 : CallFix p m c cX1_sign 1 s args wsX1_sign RX1 := S0
  have hl : lv_has ls 1 [(0, .ref oP.1)] := hl
  have hx := S0.1
  have hb := S0.2.1
  obtain ⟨H, hH⟩ : ∃ y, y = s.heap := ⟨_, rfl⟩
  rw [← hH] at hC ⊢
  obtain ⟨locs, hlo⟩ : ∃ y : List Loc, y = [] := ⟨_, rfl⟩
  rw [← hlo] at hC ⊢
  clear hH hlo
  unfold f_X1_sign at hf
  refine lv_aload_n hx hb dX1_sign_0 rfl (lv_at hl 0 rfl) ?_
  refine z_get S0 hC (ci := 1) (C := RX1) (T := TX1) (N := 14) (v := .int Pat) jX1_sign_X1 0 rfl rfl 2 (by decide) kX1_sign_19 rfl rfl dX1_sign_1 ?_
  refine lv_if_lt (tgt := 42) hx hb dX1_sign_4 (by decide) (fun cd1 => ?_) (fun cd1 => ?_)
  · replace hf := z_pos cd1 hf
    refine lv_iconst (v := 0) hx hb dX1_sign_42 (by decide) ?_
    have e1 := z_s1 hf
    subst e1
    exact z_iret S0 hr hlk hC dX1_sign_43
  · replace hf := z_neg cd1 hf
    refine lv_aload_n hx hb dX1_sign_7 rfl (lv_at hl 0 rfl) ?_
    refine z_get S0 hC (ci := 1) (C := RX1) (T := TX1) (N := 14) (v := .int Pat) jX1_sign_X1 0 rfl rfl 2 (by decide) kX1_sign_19 rfl rfl dX1_sign_8 ?_
    refine lv_aload_n hx hb dX1_sign_11 rfl (lv_at hl 0 rfl) ?_
    refine z_get S0 hC (ci := 1) (C := RX1) (T := TX1) (N := 14) (v := .int Pln) jX1_sign_X1 0 rfl rfl 1 (by decide) kX1_sign_15 rfl rfl dX1_sign_12 ?_
    refine lv_icmp_ge (tgt := 42) hx hb dX1_sign_15 (by decide) (fun cd2 => ?_) (fun cd2 => ?_)
    · replace hf := z_pos cd2 hf
      refine lv_iconst (v := 0) hx hb dX1_sign_42 (by decide) ?_
      have e1 := z_s1 hf
      subst e1
      exact z_iret S0 hr hlk hC dX1_sign_43
    · replace hf := z_neg cd2 hf
      refine lv_aload_n hx hb dX1_sign_18 rfl (lv_at hl 0 rfl) ?_
      refine z_get S0 hC (ci := 1) (C := RX1) (T := TX1) (N := 14) (v := .int Pat) jX1_sign_X1 0 rfl rfl 2 (by decide) kX1_sign_19 rfl rfl dX1_sign_19 ?_
      refine lv_aload_n hx hb dX1_sign_22 rfl (lv_at hl 0 rfl) ?_
      refine z_get S0 hC (ci := 1) (C := RX1) (T := TX1) (N := 14) (v := .ref oP.2) jX1_sign_X1 0 rfl rfl 0 (by decide) kX1_sign_9 rfl rfl dX1_sign_23 ?_
      refine z_alen S0 hC 1 1 rfl rfl (v := 60) rfl dX1_sign_26 ?_
      refine lv_icmp_ge (tgt := 42) hx hb dX1_sign_27 (by decide) (fun cd3 => ?_) (fun cd3 => ?_)
      · replace hf := z_pos cd3 hf
        refine lv_iconst (v := 0) hx hb dX1_sign_42 (by decide) ?_
        have e1 := z_s1 hf
        subst e1
        exact z_iret S0 hr hlk hC dX1_sign_43
      · replace hf := z_neg cd3 hf
        refine lv_aload_n hx hb dX1_sign_30 rfl (lv_at hl 0 rfl) ?_
        refine z_get S0 hC (ci := 1) (C := RX1) (T := TX1) (N := 14) (v := .ref oP.2) jX1_sign_X1 0 rfl rfl 0 (by decide) kX1_sign_9 rfl rfl dX1_sign_31 ?_
        refine lv_aload_n hx hb dX1_sign_34 rfl (lv_at hl 0 rfl) ?_
        refine z_get S0 hC (ci := 1) (C := RX1) (T := TX1) (N := 14) (v := .int Pat) jX1_sign_X1 0 rfl rfl 2 (by decide) kX1_sign_19 rfl rfl dX1_sign_35 ?_
        obtain ⟨x4, hx4, hf⟩ := z_bind hf
        refine z_cald S0 hC 1 rfl hx4 dX1_sign_38 ?_
        refine lv_goto (tgt := 43) hx hb dX1_sign_39 (by decide) ?_
        have e1 := z_s1 hf
        subst e1
        exact z_iret S0 hr hlk hC dX1_sign_43

-- X1 readSign
def f_X1_readSign (Psg : (Nat → Int32)) (Pln : Int32) (Pat : Int32) (p1 : Int32) : Option (Int32 × Int32) :=
  (f_X1_sign Psg Pln Pat).bind fun r1 => Option.bind (α := Int32) (
    if r1 = p1 then
      some (1)
    else
      some (0)
  ) fun t3 =>
    Option.bind (α := Int32) (
      if t3 = 0 then
        some (0)
      else
        some (1)
    ) fun t5 =>
      (zbool t3).bind fun _ => some (t3, (Pat + t5))

theorem kX1_readSign_19 : Cond.fieldLink RX1 19 "ZoneSampler$Pad" "at" "I" ∈ wsX1_readSign := by decide +kernel
theorem jX1_readSign_X1 : ∀ w ∈ u_ws RX1 TX1 14, w ∈ wsX1_readSign := by decide +kernel
set_option maxHeartbeats 4000000 in
set_option maxRecDepth 100000 in
theorem c_X1_readSign (l : Launch) (G : va_G) (c3 : zT3) (oP : zR2) (BP : zPd) (p1 : Int32) {r : Int32} {Pat' : Int32} (hf : f_X1_readSign BP.1 BP.2.1 BP.2.2.1 p1 = some (r, Pat')) : zM l yX1_readSign wsX1_readSign ⟨1, 0, 0, 20⟩ G c3 (zwP c3.2.1 oP (BP.1, BP.2.1, BP.2.2.1, BP.2.2.2.1, BP.2.2.2.2.1, BP.2.2.2.2.2.1, BP.2.2.2.2.2.2.1, BP.2.2.2.2.2.2.2.1, BP.2.2.2.2.2.2.2.2.1, BP.2.2.2.2.2.2.2.2.2.1, BP.2.2.2.2.2.2.2.2.2.2.1, BP.2.2.2.2.2.2.2.2.2.2.2.1, BP.2.2.2.2.2.2.2.2.2.2.2.2.1, BP.2.2.2.2.2.2.2.2.2.2.2.2.2)) [.ref oP.1, .int p1] (some (.int r)) (zwP c3.2.1 oP (BP.1, BP.2.1, Pat', BP.2.2.2.1, BP.2.2.2.2.1, BP.2.2.2.2.2.1, BP.2.2.2.2.2.2.1, BP.2.2.2.2.2.2.2.1, BP.2.2.2.2.2.2.2.2.1, BP.2.2.2.2.2.2.2.2.2.1, BP.2.2.2.2.2.2.2.2.2.2.1, BP.2.2.2.2.2.2.2.2.2.2.2.1, BP.2.2.2.2.2.2.2.2.2.2.2.2.1, BP.2.2.2.2.2.2.2.2.2.2.2.2.2)) := by
  obtain ⟨Psg, Pln, Pat, Pvl, Plo, Phi, Pso, Pha, Pla, Pgr, Pro, Pde, Pdk, Pam⟩ := BP
  have hf : f_X1_readSign Psg Pln Pat p1 = some (r, Pat') := hf
  show zM l yX1_readSign wsX1_readSign ⟨1, 0, 0, 20⟩ G c3 (zwP c3.2.1 oP (Psg, Pln, Pat, Pvl, Plo, Phi, Pso, Pha, Pla, Pgr, Pro, Pde, Pdk, Pam)) [.ref oP.1, .int p1] (some (.int r)) (zwP c3.2.1 oP (Psg, Pln, Pat', Pvl, Plo, Phi, Pso, Pha, Pla, Pgr, Pro, Pde, Pdk, Pam))
  refine zM.of (cc := cX1_readSign) (maxL := 3) (ret := (some .boolean)) (by decide) rfl (Nat.le_of_ble_eq_true rfl) ?_
  intro p e s m args below meth c A ls S0 hr hlk hC hl
  have S0 : CallFix p m c cX1_readSign 3 s args wsX1_readSign RX1 := S0
  have hl : lv_has ls 3 [(0, .ref oP.1), (1, .int p1)] := hl
  have hx := S0.1
  have hb := S0.2.1
  obtain ⟨H, hH⟩ : ∃ y, y = s.heap := ⟨_, rfl⟩
  rw [← hH] at hC ⊢
  obtain ⟨locs, hlo⟩ : ∃ y : List Loc, y = [] := ⟨_, rfl⟩
  rw [← hlo] at hC ⊢
  clear hH hlo
  unfold f_X1_readSign at hf
  refine lv_aload_n hx hb dX1_readSign_0 rfl (lv_at hl 0 rfl) ?_
  obtain ⟨r1, hr1, hf⟩ := z_bind hf
  refine z_callPi (z_runV (n := 0) (rest := []) (As := []) S0 hC (c_X1_sign l G c3 oP (Psg, Pln, Pat, Pvl, Plo, Phi, Pso, Pha, Pla, Pgr, Pro, Pde, Pdk, Pam) hr1) [0, 1] (by decide) rfl gX1_readSign_X1_sign rfl rfl rfl (by decide +kernel) ⟨Nat.le_of_ble_eq_true rfl, Nat.le_of_ble_eq_true rfl⟩ (ci := 1) (q0 := 0) rfl rfl rfl hl.1 rfl (Nat.le_of_ble_eq_true rfl) dX1_readSign_1) hC [0, 1] rfl (fun H locs hC => ?_)
  refine lv_iload_n hx hb dX1_readSign_4 rfl (lv_at hl 1 rfl) ?_
  obtain ⟨t3, ht3, hf⟩ := z_bind hf
  have Jt3 : ∀ (H : Heap) (locs : List Loc) (ls : Array Slot), zC G c3 A s (zwP c3.2.1 oP (Psg, Pln, Pat, Pvl, Plo, Phi, Pso, Pha, Pla, Pgr, Pro, Pde, Pdk, Pam)) H locs → lv_has ls 3 [(0, .ref oP.1), (1, .int p1)] → W p l e ⟨1, 0, 0, 20⟩ s m args below meth c H locs 0 0 (MQ below (zPost G (zwP c3.2.1 oP (Psg, Pln, Pat', Pvl, Plo, Phi, Pso, Pha, Pla, Pgr, Pro, Pde, Pdk, Pam)) (some (.int r)) A) args s 0 0 A) (F0 m 13 ls [.int t3]) := by
    intro H locs ls hC hl
    refine lv_istore_n (lv' := [(2, .int t3), (0, .ref oP.1), (1, .int p1)]) hx hb dX1_readSign_13 rfl hl (by decide) rfl (fun ls hl => ?_)
    refine lv_aload_n hx hb dX1_readSign_14 rfl (lv_at hl 1 rfl) ?_
    refine lv_dup hx hb dX1_readSign_15 rfl ?_
    refine z_get S0 hC (ci := 1) (C := RX1) (T := TX1) (N := 14) (v := .int Pat) jX1_readSign_X1 0 rfl rfl 2 (by decide) kX1_readSign_19 rfl rfl dX1_readSign_16 ?_
    refine lv_iload_n hx hb dX1_readSign_19 rfl (lv_at hl 0 rfl) ?_
    obtain ⟨t5, ht5, hf⟩ := z_bind hf
    have Jt5 : ∀ (H : Heap) (locs : List Loc) (ls : Array Slot), zC G c3 A s (zwP c3.2.1 oP (Psg, Pln, Pat, Pvl, Plo, Phi, Pso, Pha, Pla, Pgr, Pro, Pde, Pdk, Pam)) H locs → lv_has ls 3 [(0, .ref oP.1), (1, .int p1), (2, .int t3)] → W p l e ⟨1, 0, 0, 20⟩ s m args below meth c H locs 0 0 (MQ below (zPost G (zwP c3.2.1 oP (Psg, Pln, Pat', Pvl, Plo, Phi, Pso, Pha, Pla, Pgr, Pro, Pde, Pdk, Pam)) (some (.int r)) A) args s 0 0 A) (F0 m 28 ls [.int t5, .int Pat, .ref oP.1]) := by
      intro H locs ls hC hl
      refine lv_iadd hx hb dX1_readSign_28 ?_
      refine z_put S0 hC (ci := 1) (C := RX1) (T := TX1) (N := 14) (v := .int (Pat + t5)) jX1_readSign_X1 tyX1 tyX1_ok nmX1 0 rfl rfl 2 (by decide) kX1_readSign_19 rfl rfl rfl rfl (Nat.le_of_ble_eq_true rfl) dX1_readSign_29 (ws2 := (zwP c3.2.1 oP (Psg, Pln, (Pat + t5), Pvl, Plo, Phi, Pso, Pha, Pla, Pgr, Pro, Pde, Pdk, Pam))) rfl (fun H locs hC => ?_)
      refine lv_iload_n hx hb dX1_readSign_32 rfl (lv_at hl 2 rfl) ?_
      obtain ⟨w6, hw6, hf⟩ := z_bind hf
      obtain ⟨e1, e2⟩ := z_s2 hf
      subst e1
      subst e2
      exact z_zret S0 hr hlk (zbool_spec hw6) hC dX1_readSign_33
    refine lv_if_eq (tgt := 27) hx hb dX1_readSign_20 (by decide) (fun cd4 => ?_) (fun cd4 => ?_)
    · replace ht5 := z_pos cd4 ht5
      refine lv_iconst (v := 0) hx hb dX1_readSign_27 (by decide) ?_
      have e1 := z_s1 ht5
      subst e1
      exact Jt5 H locs ls hC (lv_sub hl [1, 2, 0] rfl)
    · replace ht5 := z_neg cd4 ht5
      refine lv_iconst (v := 1) hx hb dX1_readSign_23 (by decide) ?_
      refine lv_goto (tgt := 28) hx hb dX1_readSign_24 (by decide) ?_
      have e1 := z_s1 ht5
      subst e1
      exact Jt5 H locs ls hC (lv_sub hl [1, 2, 0] rfl)
  refine lv_icmp_ne (tgt := 12) hx hb dX1_readSign_5 (by decide) (fun cd2 => ?_) (fun cd2 => ?_)
  · replace ht3 := z_neg cd2 ht3
    refine lv_iconst (v := 0) hx hb dX1_readSign_12 (by decide) ?_
    have e1 := z_s1 ht3
    subst e1
    exact Jt3 H locs ls hC (lv_sub hl [0, 1] rfl)
  · replace ht3 := z_pos cd2 ht3
    refine lv_iconst (v := 1) hx hb dX1_readSign_8 (by decide) ?_
    refine lv_goto (tgt := 13) hx hb dX1_readSign_9 (by decide) ?_
    have e1 := z_s1 ht3
    subst e1
    exact Jt3 H locs ls hC (lv_sub hl [0, 1] rfl)

-- X1 readNumber
def f_X1_readNumber_10 (y1 : Int32) (y2 : Int32) (Psg : (Nat → Int32)) (Pln : Int32) (kk : Int32 × Int32 × Int32 × Int32 → Option (Int32 × Int32 × Int32)) : Nat → Int32 → Int32 → Int32 → Int32 → Option (Int32 × Int32 × Int32)
  | 0, _, _, _, _ => none
  | fu + 1, y3, y4, Pat, Pvl =>
    if 2 ≤ y4 then
      kk (y3, y4, Pat, Pvl)
    else
      (f_X1_sign Psg Pln Pat).bind fun r3 => Option.bind (α := Int32) (
        if y3 = 0 then
          some (0)
        else
          if Pvl = 0 then
            some (1)
          else
            some (0)
      ) fun t5 =>
        if r3 < 48 then
          kk (y3, y4, Pat, Pvl)
        else
          if 57 < r3 then
            kk (y3, y4, Pat, Pvl)
          else
            if t5 = 0 then
              (f_X1_canBegin (((10 * Pvl) + r3) - 48) y1 y2).bind fun r9 => if r9 = 0 then
                kk (y3, y4, Pat, Pvl)
              else
                f_X1_readNumber_10 y1 y2 Psg Pln kk fu 1 (y4 + 1) (Pat + 1) (((10 * Pvl) + r3) - 48)
            else
              kk (y3, y4, Pat, Pvl)

theorem f_X1_readNumber_10_s (y1 : Int32) (y2 : Int32) (Psg : (Nat → Int32)) (Pln : Int32) (y3 : Int32) (y4 : Int32) (Pat : Int32) (Pvl : Int32) (kk : Int32 × Int32 × Int32 × Int32 → Option (Int32 × Int32 × Int32)) (fu : Nat) : f_X1_readNumber_10 y1 y2 Psg Pln kk (fu + 1) y3 y4 Pat Pvl = (
    if 2 ≤ y4 then
      kk (y3, y4, Pat, Pvl)
    else
      (f_X1_sign Psg Pln Pat).bind fun r3 => Option.bind (α := Int32) (
        if y3 = 0 then
          some (0)
        else
          if Pvl = 0 then
            some (1)
          else
            some (0)
      ) fun t5 =>
        if r3 < 48 then
          kk (y3, y4, Pat, Pvl)
        else
          if 57 < r3 then
            kk (y3, y4, Pat, Pvl)
          else
            if t5 = 0 then
              (f_X1_canBegin (((10 * Pvl) + r3) - 48) y1 y2).bind fun r9 => if r9 = 0 then
                kk (y3, y4, Pat, Pvl)
              else
                f_X1_readNumber_10 y1 y2 Psg Pln kk fu 1 (y4 + 1) (Pat + 1) (((10 * Pvl) + r3) - 48)
            else
              kk (y3, y4, Pat, Pvl)
    ) := rfl

def f_X1_readNumber (Psg : (Nat → Int32)) (Pln : Int32) (Pat : Int32) (Pvl : Int32) (p1 : Int32) (p2 : Int32) : Option (Int32 × Int32 × Int32) :=
  f_X1_readNumber_10 p1 p2 Psg Pln (fun t12 =>
    if t12.1 = 0 then
      some (0, t12.2.2.1, t12.2.2.2)
    else
      if t12.2.2.2 < p1 then
        some (0, t12.2.2.1, t12.2.2.2)
      else
        if p2 < t12.2.2.2 then
          some (0, t12.2.2.1, t12.2.2.2)
        else
          some (1, t12.2.2.1, t12.2.2.2)
    ) zF 0 0 Pat 0

theorem kX1_readNumber_47 : Cond.fieldLink RX1 47 "ZoneSampler$Pad" "value" "I" ∈ wsX1_readNumber := by decide +kernel
theorem kX1_readNumber_19 : Cond.fieldLink RX1 19 "ZoneSampler$Pad" "at" "I" ∈ wsX1_readNumber := by decide +kernel
theorem jX1_readNumber_X1 : ∀ w ∈ u_ws RX1 TX1 14, w ∈ wsX1_readNumber := by decide +kernel
set_option maxHeartbeats 4000000 in
set_option maxRecDepth 100000 in
theorem c_X1_readNumber (l : Launch) (G : va_G) (c3 : zT3) (oP : zR2) (BP : zPd) (p1 : Int32) (p2 : Int32) {r : Int32} {Pat' : Int32} {Pvl' : Int32} (hf : f_X1_readNumber BP.1 BP.2.1 BP.2.2.1 BP.2.2.2.1 p1 p2 = some (r, Pat', Pvl')) : zM l yX1_readNumber wsX1_readNumber ⟨1, 0, 0, 24⟩ G c3 (zwP c3.2.1 oP (BP.1, BP.2.1, BP.2.2.1, BP.2.2.2.1, BP.2.2.2.2.1, BP.2.2.2.2.2.1, BP.2.2.2.2.2.2.1, BP.2.2.2.2.2.2.2.1, BP.2.2.2.2.2.2.2.2.1, BP.2.2.2.2.2.2.2.2.2.1, BP.2.2.2.2.2.2.2.2.2.2.1, BP.2.2.2.2.2.2.2.2.2.2.2.1, BP.2.2.2.2.2.2.2.2.2.2.2.2.1, BP.2.2.2.2.2.2.2.2.2.2.2.2.2)) [.ref oP.1, .int p1, .int p2] (some (.int r)) (zwP c3.2.1 oP (BP.1, BP.2.1, Pat', Pvl', BP.2.2.2.2.1, BP.2.2.2.2.2.1, BP.2.2.2.2.2.2.1, BP.2.2.2.2.2.2.2.1, BP.2.2.2.2.2.2.2.2.1, BP.2.2.2.2.2.2.2.2.2.1, BP.2.2.2.2.2.2.2.2.2.2.1, BP.2.2.2.2.2.2.2.2.2.2.2.1, BP.2.2.2.2.2.2.2.2.2.2.2.2.1, BP.2.2.2.2.2.2.2.2.2.2.2.2.2)) := by
  obtain ⟨Psg, Pln, Pat, Pvl, Plo, Phi, Pso, Pha, Pla, Pgr, Pro, Pde, Pdk, Pam⟩ := BP
  have hf : f_X1_readNumber Psg Pln Pat Pvl p1 p2 = some (r, Pat', Pvl') := hf
  show zM l yX1_readNumber wsX1_readNumber ⟨1, 0, 0, 24⟩ G c3 (zwP c3.2.1 oP (Psg, Pln, Pat, Pvl, Plo, Phi, Pso, Pha, Pla, Pgr, Pro, Pde, Pdk, Pam)) [.ref oP.1, .int p1, .int p2] (some (.int r)) (zwP c3.2.1 oP (Psg, Pln, Pat', Pvl', Plo, Phi, Pso, Pha, Pla, Pgr, Pro, Pde, Pdk, Pam))
  refine zM.of (cc := cX1_readNumber) (maxL := 8) (ret := (some .boolean)) (by decide) rfl (Nat.le_of_ble_eq_true rfl) ?_
  intro p e s m args below meth c A ls S0 hr hlk hC hl
  have S0 : CallFix p m c cX1_readNumber 8 s args wsX1_readNumber RX1 := S0
  have hl : lv_has ls 8 [(0, .ref oP.1), (1, .int p1), (2, .int p2)] := hl
  have hx := S0.1
  have hb := S0.2.1
  obtain ⟨H, hH⟩ : ∃ y, y = s.heap := ⟨_, rfl⟩
  rw [← hH] at hC ⊢
  obtain ⟨locs, hlo⟩ : ∃ y : List Loc, y = [] := ⟨_, rfl⟩
  rw [← hlo] at hC ⊢
  clear hH hlo
  unfold f_X1_readNumber at hf
  refine lv_aload_n hx hb dX1_readNumber_0 rfl (lv_at hl 0 rfl) ?_
  refine lv_iconst (v := 0) hx hb dX1_readNumber_1 (by decide) ?_
  refine z_put S0 hC (ci := 1) (C := RX1) (T := TX1) (N := 14) (v := .int 0) jX1_readNumber_X1 tyX1 tyX1_ok nmX1 0 rfl rfl 3 (by decide) kX1_readNumber_47 rfl rfl rfl rfl (Nat.le_of_ble_eq_true rfl) dX1_readNumber_2 (ws2 := (zwP c3.2.1 oP (Psg, Pln, Pat, 0, Plo, Phi, Pso, Pha, Pla, Pgr, Pro, Pde, Pdk, Pam))) rfl (fun H locs hC => ?_)
  refine lv_iconst (v := 0) hx hb dX1_readNumber_5 (by decide) ?_
  refine lv_istore_n (lv' := [(3, .int 0), (0, .ref oP.1), (1, .int p1), (2, .int p2)]) hx hb dX1_readNumber_6 rfl hl (by decide) rfl (fun ls hl => ?_)
  refine lv_iconst (v := 0) hx hb dX1_readNumber_7 (by decide) ?_
  refine lv_istore (lv' := [(4, .int 0), (3, .int 0), (0, .ref oP.1), (1, .int p1), (2, .int p2)]) hx hb dX1_readNumber_8 hl (by decide) rfl (fun ls hl => ?_)
  have L10 : ∀ (fu : Nat) (y1 : Int32) (y2 : Int32) (y3 : Int32) (y4 : Int32) (Psg : (Nat → Int32)) (Pln : Int32) (Pat : Int32) (Pvl : Int32) (Plo : Int32) (Phi : Int32) (Pso : Int32) (Pha : Int32) (Pla : Int32) (Pgr : Int32) (Pro : Int32) (Pde : Int32) (Pdk : Int32) (Pam : Int32) (kk : Int32 × Int32 × Int32 × Int32 → Option (Int32 × Int32 × Int32)), (∀ tt, kk tt = some (r, Pat', Pvl') → ∀ (H : Heap) (locs : List Loc) (ls : Array Slot), zC G c3 A s (zwP c3.2.1 oP (Psg, Pln, tt.2.2.1, tt.2.2.2, Plo, Phi, Pso, Pha, Pla, Pgr, Pro, Pde, Pdk, Pam)) H locs → lv_has ls 8 [(0, .ref oP.1), (1, .int y1), (2, .int y2), (3, .int tt.1), (4, .int tt.2.1)] → W p l e ⟨1, 0, 0, 24⟩ s m args below meth c H locs 0 0 (MQ below (zPost G (zwP c3.2.1 oP (Psg, Pln, Pat', Pvl', Plo, Phi, Pso, Pha, Pla, Pgr, Pro, Pde, Pdk, Pam)) (some (.int r)) A) args s 0 0 A) (F0 m 111 ls [])) → f_X1_readNumber_10 y1 y2 Psg Pln kk fu y3 y4 Pat Pvl = some (r, Pat', Pvl') → ∀ (H : Heap) (locs : List Loc) (ls : Array Slot), zC G c3 A s (zwP c3.2.1 oP (Psg, Pln, Pat, Pvl, Plo, Phi, Pso, Pha, Pla, Pgr, Pro, Pde, Pdk, Pam)) H locs → lv_has ls 8 [(0, .ref oP.1), (1, .int y1), (2, .int y2), (3, .int y3), (4, .int y4)] → W p l e ⟨1, 0, 0, 24⟩ s m args below meth c H locs 0 0 (MQ below (zPost G (zwP c3.2.1 oP (Psg, Pln, Pat', Pvl', Plo, Phi, Pso, Pha, Pla, Pgr, Pro, Pde, Pdk, Pam)) (some (.int r)) A) args s 0 0 A) (F0 m 10 ls []) := by
    intro fu
    induction fu with
    | zero =>
      intro y1 y2 y3 y4 Psg Pln Pat Pvl Plo Phi Pso Pha Pla Pgr Pro Pde Pdk Pam kk hk hf H locs ls hC hl
      exact (z_none hf).elim
    | succ fu ih10 =>
      intro y1 y2 y3 y4 Psg Pln Pat Pvl Plo Phi Pso Pha Pla Pgr Pro Pde Pdk Pam kk hk hf H locs ls hC hl
      replace hf := (f_X1_readNumber_10_s y1 y2 Psg Pln y3 y4 Pat Pvl kk fu).symm.trans hf
      refine lv_iload hx hb dX1_readNumber_10 (lv_at hl 4 rfl) ?_
      refine lv_iconst (v := 2) hx hb dX1_readNumber_12 (by decide) ?_
      refine lv_icmp_ge (tgt := 111) hx hb dX1_readNumber_13 (by decide) (fun cd2 => ?_) (fun cd2 => ?_)
      · replace hf := z_pos cd2 hf
        exact hk (y3, y4, Pat, Pvl) hf H locs ls hC (lv_sub hl [0, 1, 2, 3, 4] rfl)
      · replace hf := z_neg cd2 hf
        refine lv_aload_n hx hb dX1_readNumber_16 rfl (lv_at hl 0 rfl) ?_
        obtain ⟨r3, hr3, hf⟩ := z_bind hf
        refine z_callPi (z_runV (n := 0) (rest := []) (As := []) S0 hC (c_X1_sign l G c3 oP (Psg, Pln, Pat, Pvl, Plo, Phi, Pso, Pha, Pla, Pgr, Pro, Pde, Pdk, Pam) hr3) [0, 1] (by decide) rfl gX1_readNumber_X1_sign rfl rfl rfl (by decide +kernel) ⟨Nat.le_of_ble_eq_true rfl, Nat.le_of_ble_eq_true rfl⟩ (ci := 1) (q0 := 0) rfl rfl rfl hl.1 rfl (Nat.le_of_ble_eq_true rfl) dX1_readNumber_17) hC [0, 1] rfl (fun H locs hC => ?_)
        refine lv_istore (lv' := [(5, .int r3), (0, .ref oP.1), (1, .int y1), (2, .int y2), (3, .int y3), (4, .int y4)]) hx hb dX1_readNumber_20 hl (by decide) rfl (fun ls hl => ?_)
        refine lv_bipush (v := 10) hx hb dX1_readNumber_22 (by decide) ?_
        refine lv_aload_n hx hb dX1_readNumber_24 rfl (lv_at hl 1 rfl) ?_
        refine z_get S0 hC (ci := 1) (C := RX1) (T := TX1) (N := 14) (v := .int Pvl) jX1_readNumber_X1 0 rfl rfl 3 (by decide) kX1_readNumber_47 rfl rfl dX1_readNumber_25 ?_
        refine lv_imul hx hb dX1_readNumber_28 ?_
        refine lv_iload hx hb dX1_readNumber_29 (lv_at hl 0 rfl) ?_
        refine lv_iadd hx hb dX1_readNumber_31 ?_
        refine lv_bipush (v := 48) hx hb dX1_readNumber_32 (by decide) ?_
        refine lv_isub hx hb dX1_readNumber_34 ?_
        refine lv_istore (lv' := [(6, .int (((10 * Pvl) + r3) - 48)), (5, .int r3), (0, .ref oP.1), (1, .int y1), (2, .int y2), (3, .int y3), (4, .int y4)]) hx hb dX1_readNumber_35 hl (by decide) rfl (fun ls hl => ?_)
        refine lv_iload_n hx hb dX1_readNumber_37 rfl (lv_at hl 5 rfl) ?_
        obtain ⟨t5, ht5, hf⟩ := z_bind hf
        have Jt5 : ∀ (H : Heap) (locs : List Loc) (ls : Array Slot), zC G c3 A s (zwP c3.2.1 oP (Psg, Pln, Pat, Pvl, Plo, Phi, Pso, Pha, Pla, Pgr, Pro, Pde, Pdk, Pam)) H locs → lv_has ls 8 [(0, .ref oP.1), (1, .int y1), (2, .int y2), (3, .int y3), (4, .int y4), (5, .int r3), (6, .int (((10 * Pvl) + r3) - 48))] → W p l e ⟨1, 0, 0, 24⟩ s m args below meth c H locs 0 0 (MQ below (zPost G (zwP c3.2.1 oP (Psg, Pln, Pat', Pvl', Plo, Phi, Pso, Pha, Pla, Pgr, Pro, Pde, Pdk, Pam)) (some (.int r)) A) args s 0 0 A) (F0 m 53 ls [.int t5]) := by
          intro H locs ls hC hl
          refine lv_istore (lv' := [(7, .int t5), (0, .ref oP.1), (1, .int y1), (2, .int y2), (3, .int y3), (4, .int y4), (5, .int r3), (6, .int (((10 * Pvl) + r3) - 48))]) hx hb dX1_readNumber_53 hl (by decide) rfl (fun ls hl => ?_)
          refine lv_iload hx hb dX1_readNumber_55 (lv_at hl 6 rfl) ?_
          refine lv_bipush (v := 48) hx hb dX1_readNumber_57 (by decide) ?_
          refine lv_icmp_lt (tgt := 111) hx hb dX1_readNumber_59 (by decide) (fun cd6 => ?_) (fun cd6 => ?_)
          · replace hf := z_pos cd6 hf
            exact hk (y3, y4, Pat, Pvl) hf H locs ls hC (lv_sub hl [1, 2, 3, 4, 5] rfl)
          · replace hf := z_neg cd6 hf
            refine lv_iload hx hb dX1_readNumber_62 (lv_at hl 6 rfl) ?_
            refine lv_bipush (v := 57) hx hb dX1_readNumber_64 (by decide) ?_
            refine lv_icmp_gt (tgt := 111) hx hb dX1_readNumber_66 (by decide) (fun cd7 => ?_) (fun cd7 => ?_)
            · replace hf := z_pos cd7 hf
              exact hk (y3, y4, Pat, Pvl) hf H locs ls hC (lv_sub hl [1, 2, 3, 4, 5] rfl)
            · replace hf := z_neg cd7 hf
              refine lv_iload hx hb dX1_readNumber_69 (lv_at hl 0 rfl) ?_
              refine lv_if_ne (tgt := 111) hx hb dX1_readNumber_71 (by decide) (fun cd8 => ?_) (fun cd8 => ?_)
              · replace hf := z_neg cd8 hf
                exact hk (y3, y4, Pat, Pvl) hf H locs ls hC (lv_sub hl [1, 2, 3, 4, 5] rfl)
              · replace hf := z_pos cd8 hf
                refine lv_iload hx hb dX1_readNumber_74 (lv_at hl 7 rfl) ?_
                refine lv_iload_n hx hb dX1_readNumber_76 rfl (lv_at hl 2 rfl) ?_
                refine lv_iload_n hx hb dX1_readNumber_77 rfl (lv_at hl 3 rfl) ?_
                obtain ⟨r9, hr9, hf⟩ := z_bind hf
                refine z_callPi (z_runS (n := 3) (rest := []) (As := [.int (((10 * Pvl) + r3) - 48), .int y1, .int y2]) S0 hC (c_X1_canBegin l G c3 (((10 * Pvl) + r3) - 48) y1 y2 hr9) [] (by decide) rfl gX1_readNumber_X1_canBegin rfl rfl rfl (by decide +kernel) ⟨Nat.le_of_ble_eq_true rfl, Nat.le_of_ble_eq_true rfl⟩ rfl hl.1 rfl (Nat.le_of_ble_eq_true rfl) dX1_readNumber_78) hC [] rfl (fun H locs hC => ?_)
                refine lv_if_ne (tgt := 87) hx hb dX1_readNumber_81 (by decide) (fun cd10 => ?_) (fun cd10 => ?_)
                · replace hf := z_neg cd10 hf
                  refine lv_aload_n hx hb dX1_readNumber_87 rfl (lv_at hl 1 rfl) ?_
                  refine lv_iload hx hb dX1_readNumber_88 (lv_at hl 7 rfl) ?_
                  refine z_put S0 hC (ci := 1) (C := RX1) (T := TX1) (N := 14) (v := .int (((10 * Pvl) + r3) - 48)) jX1_readNumber_X1 tyX1 tyX1_ok nmX1 0 rfl rfl 3 (by decide) kX1_readNumber_47 rfl rfl rfl rfl (Nat.le_of_ble_eq_true rfl) dX1_readNumber_90 (ws2 := (zwP c3.2.1 oP (Psg, Pln, Pat, (((10 * Pvl) + r3) - 48), Plo, Phi, Pso, Pha, Pla, Pgr, Pro, Pde, Pdk, Pam))) rfl (fun H locs hC => ?_)
                  refine lv_iconst (v := 1) hx hb dX1_readNumber_93 (by decide) ?_
                  refine lv_istore_n (lv' := [(3, .int 1), (7, .int t5), (0, .ref oP.1), (1, .int y1), (2, .int y2), (4, .int y4), (5, .int r3), (6, .int (((10 * Pvl) + r3) - 48))]) hx hb dX1_readNumber_94 rfl hl (by decide) rfl (fun ls hl => ?_)
                  refine lv_aload_n hx hb dX1_readNumber_95 rfl (lv_at hl 2 rfl) ?_
                  refine lv_dup hx hb dX1_readNumber_96 rfl ?_
                  refine z_get S0 hC (ci := 1) (C := RX1) (T := TX1) (N := 14) (v := .int Pat) jX1_readNumber_X1 0 rfl rfl 2 (by decide) kX1_readNumber_19 rfl rfl dX1_readNumber_97 ?_
                  refine lv_iconst (v := 1) hx hb dX1_readNumber_100 (by decide) ?_
                  refine lv_iadd hx hb dX1_readNumber_101 ?_
                  refine z_put S0 hC (ci := 1) (C := RX1) (T := TX1) (N := 14) (v := .int (Pat + 1)) jX1_readNumber_X1 tyX1 tyX1_ok nmX1 0 rfl rfl 2 (by decide) kX1_readNumber_19 rfl rfl rfl rfl (Nat.le_of_ble_eq_true rfl) dX1_readNumber_102 (ws2 := (zwP c3.2.1 oP (Psg, Pln, (Pat + 1), (((10 * Pvl) + r3) - 48), Plo, Phi, Pso, Pha, Pla, Pgr, Pro, Pde, Pdk, Pam))) rfl (fun H locs hC => ?_)
                  refine lv_iinc (v := (y4 + 1)) (lv' := [(4, .int (y4 + 1)), (3, .int 1), (7, .int t5), (0, .ref oP.1), (1, .int y1), (2, .int y2), (5, .int r3), (6, .int (((10 * Pvl) + r3) - 48))]) hx hb dX1_readNumber_105 hl (k := 5) rfl rfl (by decide) rfl (fun ls hl => ?_)
                  refine lv_goto (tgt := 10) hx hb dX1_readNumber_108 (by decide) ?_
                  exact ih10 y1 y2 1 (y4 + 1) Psg Pln (Pat + 1) (((10 * Pvl) + r3) - 48) Plo Phi Pso Pha Pla Pgr Pro Pde Pdk Pam kk hk hf H locs ls hC (lv_sub hl [3, 4, 5, 1, 0] rfl)
                · replace hf := z_pos cd10 hf
                  refine lv_goto (tgt := 111) hx hb dX1_readNumber_84 (by decide) ?_
                  exact hk (y3, y4, Pat, Pvl) hf H locs ls hC (lv_sub hl [1, 2, 3, 4, 5] rfl)
        refine lv_if_eq (tgt := 52) hx hb dX1_readNumber_38 (by decide) (fun cd4 => ?_) (fun cd4 => ?_)
        · replace ht5 := z_pos cd4 ht5
          refine lv_iconst (v := 0) hx hb dX1_readNumber_52 (by decide) ?_
          have e1 := z_s1 ht5
          subst e1
          exact Jt5 H locs ls hC (lv_sub hl [2, 3, 4, 5, 6, 1, 0] rfl)
        · replace ht5 := z_neg cd4 ht5
          refine lv_aload_n hx hb dX1_readNumber_41 rfl (lv_at hl 2 rfl) ?_
          refine z_get S0 hC (ci := 1) (C := RX1) (T := TX1) (N := 14) (v := .int Pvl) jX1_readNumber_X1 0 rfl rfl 3 (by decide) kX1_readNumber_47 rfl rfl dX1_readNumber_42 ?_
          refine lv_if_ne (tgt := 52) hx hb dX1_readNumber_45 (by decide) (fun cd11 => ?_) (fun cd11 => ?_)
          · replace ht5 := z_neg cd11 ht5
            refine lv_iconst (v := 0) hx hb dX1_readNumber_52 (by decide) ?_
            have e1 := z_s1 ht5
            subst e1
            exact Jt5 H locs ls hC (lv_sub hl [2, 3, 4, 5, 6, 1, 0] rfl)
          · replace ht5 := z_pos cd11 ht5
            refine lv_iconst (v := 1) hx hb dX1_readNumber_48 (by decide) ?_
            refine lv_goto (tgt := 53) hx hb dX1_readNumber_49 (by decide) ?_
            have e1 := z_s1 ht5
            subst e1
            exact Jt5 H locs ls hC (lv_sub hl [2, 3, 4, 5, 6, 1, 0] rfl)
  refine L10 zF p1 p2 0 0 Psg Pln Pat 0 Plo Phi Pso Pha Pla Pgr Pro Pde Pdk Pam _ (fun t12 hf H locs ls hC hl => ?_) hf H locs ls hC (lv_sub hl [2, 3, 4, 1, 0] rfl)
  refine lv_iload_n hx hb dX1_readNumber_111 rfl (lv_at hl 3 rfl) ?_
  refine lv_if_eq (tgt := 135) hx hb dX1_readNumber_112 (by decide) (fun cd13 => ?_) (fun cd13 => ?_)
  · replace hf := z_pos cd13 hf
    refine lv_iconst (v := 0) hx hb dX1_readNumber_135 (by decide) ?_
    obtain ⟨e1, e2, e3⟩ := z_s3 hf
    subst e1
    subst e2
    subst e3
    exact z_zret S0 hr hlk rfl hC dX1_readNumber_136
  · replace hf := z_neg cd13 hf
    refine lv_aload_n hx hb dX1_readNumber_115 rfl (lv_at hl 0 rfl) ?_
    refine z_get S0 hC (ci := 1) (C := RX1) (T := TX1) (N := 14) (v := .int t12.2.2.2) jX1_readNumber_X1 0 rfl rfl 3 (by decide) kX1_readNumber_47 rfl rfl dX1_readNumber_116 ?_
    refine lv_iload_n hx hb dX1_readNumber_119 rfl (lv_at hl 1 rfl) ?_
    refine lv_icmp_lt (tgt := 135) hx hb dX1_readNumber_120 (by decide) (fun cd14 => ?_) (fun cd14 => ?_)
    · replace hf := z_pos cd14 hf
      refine lv_iconst (v := 0) hx hb dX1_readNumber_135 (by decide) ?_
      obtain ⟨e1, e2, e3⟩ := z_s3 hf
      subst e1
      subst e2
      subst e3
      exact z_zret S0 hr hlk rfl hC dX1_readNumber_136
    · replace hf := z_neg cd14 hf
      refine lv_aload_n hx hb dX1_readNumber_123 rfl (lv_at hl 0 rfl) ?_
      refine z_get S0 hC (ci := 1) (C := RX1) (T := TX1) (N := 14) (v := .int t12.2.2.2) jX1_readNumber_X1 0 rfl rfl 3 (by decide) kX1_readNumber_47 rfl rfl dX1_readNumber_124 ?_
      refine lv_iload_n hx hb dX1_readNumber_127 rfl (lv_at hl 2 rfl) ?_
      refine lv_icmp_gt (tgt := 135) hx hb dX1_readNumber_128 (by decide) (fun cd15 => ?_) (fun cd15 => ?_)
      · replace hf := z_pos cd15 hf
        refine lv_iconst (v := 0) hx hb dX1_readNumber_135 (by decide) ?_
        obtain ⟨e1, e2, e3⟩ := z_s3 hf
        subst e1
        subst e2
        subst e3
        exact z_zret S0 hr hlk rfl hC dX1_readNumber_136
      · replace hf := z_neg cd15 hf
        refine lv_iconst (v := 1) hx hb dX1_readNumber_131 (by decide) ?_
        refine lv_goto (tgt := 136) hx hb dX1_readNumber_132 (by decide) ?_
        obtain ⟨e1, e2, e3⟩ := z_s3 hf
        subst e1
        subst e2
        subst e3
        exact z_zret S0 hr hlk rfl hC dX1_readNumber_136

-- X1 readMark
def f_X1_readMark (Psg : (Nat → Int32)) (Pln : Int32) (Pat : Int32) (Pvl : Int32) (p1 : Int32) (p2 : Int32) : Option (Int32 × Int32 × Int32) :=
  (f_X1_readSign Psg Pln Pat p1).bind fun r1 => if r1.1 = 0 then
    some (1, r1.2, 0)
  else
    (f_X1_readNumber Psg Pln r1.2 0 1 p2).bind fun r3 => if r3.1 = 0 then
      some (0, r3.2.1, r3.2.2)
    else
      some (1, r3.2.1, r3.2.2)

theorem kX1_readMark_47 : Cond.fieldLink RX1 47 "ZoneSampler$Pad" "value" "I" ∈ wsX1_readMark := by decide +kernel
theorem jX1_readMark_X1 : ∀ w ∈ u_ws RX1 TX1 14, w ∈ wsX1_readMark := by decide +kernel
set_option maxHeartbeats 4000000 in
set_option maxRecDepth 100000 in
theorem c_X1_readMark (l : Launch) (G : va_G) (c3 : zT3) (oP : zR2) (BP : zPd) (p1 : Int32) (p2 : Int32) {r : Int32} {Pat' : Int32} {Pvl' : Int32} (hf : f_X1_readMark BP.1 BP.2.1 BP.2.2.1 BP.2.2.2.1 p1 p2 = some (r, Pat', Pvl')) : zM l yX1_readMark wsX1_readMark ⟨2, 0, 0, 51⟩ G c3 (zwP c3.2.1 oP (BP.1, BP.2.1, BP.2.2.1, BP.2.2.2.1, BP.2.2.2.2.1, BP.2.2.2.2.2.1, BP.2.2.2.2.2.2.1, BP.2.2.2.2.2.2.2.1, BP.2.2.2.2.2.2.2.2.1, BP.2.2.2.2.2.2.2.2.2.1, BP.2.2.2.2.2.2.2.2.2.2.1, BP.2.2.2.2.2.2.2.2.2.2.2.1, BP.2.2.2.2.2.2.2.2.2.2.2.2.1, BP.2.2.2.2.2.2.2.2.2.2.2.2.2)) [.ref oP.1, .int p1, .int p2] (some (.int r)) (zwP c3.2.1 oP (BP.1, BP.2.1, Pat', Pvl', BP.2.2.2.2.1, BP.2.2.2.2.2.1, BP.2.2.2.2.2.2.1, BP.2.2.2.2.2.2.2.1, BP.2.2.2.2.2.2.2.2.1, BP.2.2.2.2.2.2.2.2.2.1, BP.2.2.2.2.2.2.2.2.2.2.1, BP.2.2.2.2.2.2.2.2.2.2.2.1, BP.2.2.2.2.2.2.2.2.2.2.2.2.1, BP.2.2.2.2.2.2.2.2.2.2.2.2.2)) := by
  obtain ⟨Psg, Pln, Pat, Pvl, Plo, Phi, Pso, Pha, Pla, Pgr, Pro, Pde, Pdk, Pam⟩ := BP
  have hf : f_X1_readMark Psg Pln Pat Pvl p1 p2 = some (r, Pat', Pvl') := hf
  show zM l yX1_readMark wsX1_readMark ⟨2, 0, 0, 51⟩ G c3 (zwP c3.2.1 oP (Psg, Pln, Pat, Pvl, Plo, Phi, Pso, Pha, Pla, Pgr, Pro, Pde, Pdk, Pam)) [.ref oP.1, .int p1, .int p2] (some (.int r)) (zwP c3.2.1 oP (Psg, Pln, Pat', Pvl', Plo, Phi, Pso, Pha, Pla, Pgr, Pro, Pde, Pdk, Pam))
  refine zM.of (cc := cX1_readMark) (maxL := 3) (ret := (some .boolean)) (by decide) rfl (Nat.le_of_ble_eq_true rfl) ?_
  intro p e s m args below meth c A ls S0 hr hlk hC hl
  have S0 : CallFix p m c cX1_readMark 3 s args wsX1_readMark RX1 := S0
  have hl : lv_has ls 3 [(0, .ref oP.1), (1, .int p1), (2, .int p2)] := hl
  have hx := S0.1
  have hb := S0.2.1
  obtain ⟨H, hH⟩ : ∃ y, y = s.heap := ⟨_, rfl⟩
  rw [← hH] at hC ⊢
  obtain ⟨locs, hlo⟩ : ∃ y : List Loc, y = [] := ⟨_, rfl⟩
  rw [← hlo] at hC ⊢
  clear hH hlo
  unfold f_X1_readMark at hf
  refine lv_aload_n hx hb dX1_readMark_0 rfl (lv_at hl 0 rfl) ?_
  refine lv_iconst (v := 0) hx hb dX1_readMark_1 (by decide) ?_
  refine z_put S0 hC (ci := 1) (C := RX1) (T := TX1) (N := 14) (v := .int 0) jX1_readMark_X1 tyX1 tyX1_ok nmX1 0 rfl rfl 3 (by decide) kX1_readMark_47 rfl rfl rfl rfl (Nat.le_of_ble_eq_true rfl) dX1_readMark_2 (ws2 := (zwP c3.2.1 oP (Psg, Pln, Pat, 0, Plo, Phi, Pso, Pha, Pla, Pgr, Pro, Pde, Pdk, Pam))) rfl (fun H locs hC => ?_)
  refine lv_aload_n hx hb dX1_readMark_5 rfl (lv_at hl 0 rfl) ?_
  refine lv_iload_n hx hb dX1_readMark_6 rfl (lv_at hl 1 rfl) ?_
  obtain ⟨r1, hr1, hf⟩ := z_bind hf
  refine z_calli (z_runV (n := 1) (rest := []) (As := [.int p1]) S0 hC (c_X1_readSign l G c3 oP (Psg, Pln, Pat, 0, Plo, Phi, Pso, Pha, Pla, Pgr, Pro, Pde, Pdk, Pam) p1 hr1) [0, 1] (by decide) rfl gX1_readMark_X1_readSign rfl rfl rfl (by decide +kernel) ⟨Nat.le_of_ble_eq_true rfl, Nat.le_of_ble_eq_true rfl⟩ (ci := 1) (q0 := 0) rfl rfl rfl hl.1 rfl (Nat.le_of_ble_eq_true rfl) dX1_readMark_7) hC [0, 1] [] [0, 1] rfl (wr := ([] : va_W)) rfl (by decide) (by decide) (ws2 := (zwP c3.2.1 oP (Psg, Pln, r1.2, 0, Plo, Phi, Pso, Pha, Pla, Pgr, Pro, Pde, Pdk, Pam))) rfl (by decide) (fun H locs hC => ?_)
  refine lv_if_eq (tgt := 22) hx hb dX1_readMark_10 (by decide) (fun cd2 => ?_) (fun cd2 => ?_)
  · replace hf := z_pos cd2 hf
    refine lv_iconst (v := 1) hx hb dX1_readMark_22 (by decide) ?_
    refine lv_goto (tgt := 27) hx hb dX1_readMark_23 (by decide) ?_
    obtain ⟨e1, e2, e3⟩ := z_s3 hf
    subst e1
    subst e2
    subst e3
    exact z_zret S0 hr hlk rfl hC dX1_readMark_27
  · replace hf := z_neg cd2 hf
    refine lv_aload_n hx hb dX1_readMark_13 rfl (lv_at hl 0 rfl) ?_
    refine lv_iconst (v := 1) hx hb dX1_readMark_14 (by decide) ?_
    refine lv_iload_n hx hb dX1_readMark_15 rfl (lv_at hl 2 rfl) ?_
    obtain ⟨r3, hr3, hf⟩ := z_bind hf
    refine z_calli (z_runV (n := 2) (rest := []) (As := [.int 1, .int p2]) S0 hC (c_X1_readNumber l G c3 oP (Psg, Pln, r1.2, 0, Plo, Phi, Pso, Pha, Pla, Pgr, Pro, Pde, Pdk, Pam) 1 p2 hr3) [0, 1] (by decide) rfl gX1_readMark_X1_readNumber rfl rfl rfl (by decide +kernel) ⟨Nat.le_of_ble_eq_true rfl, Nat.le_of_ble_eq_true rfl⟩ (ci := 1) (q0 := 0) rfl rfl rfl hl.1 rfl (Nat.le_of_ble_eq_true rfl) dX1_readMark_16) hC [0, 1] [] [0, 1] rfl (wr := ([] : va_W)) rfl (by decide) (by decide) (ws2 := (zwP c3.2.1 oP (Psg, Pln, r3.2.1, r3.2.2, Plo, Phi, Pso, Pha, Pla, Pgr, Pro, Pde, Pdk, Pam))) rfl (by decide) (fun H locs hC => ?_)
    refine lv_if_eq (tgt := 26) hx hb dX1_readMark_19 (by decide) (fun cd4 => ?_) (fun cd4 => ?_)
    · replace hf := z_pos cd4 hf
      refine lv_iconst (v := 0) hx hb dX1_readMark_26 (by decide) ?_
      obtain ⟨e1, e2, e3⟩ := z_s3 hf
      subst e1
      subst e2
      subst e3
      exact z_zret S0 hr hlk rfl hC dX1_readMark_27
    · replace hf := z_neg cd4 hf
      refine lv_iconst (v := 1) hx hb dX1_readMark_22 (by decide) ?_
      refine lv_goto (tgt := 27) hx hb dX1_readMark_23 (by decide) ?_
      obtain ⟨e1, e2, e3⟩ := z_s3 hf
      subst e1
      subst e2
      subst e3
      exact z_zret S0 hr hlk rfl hC dX1_readMark_27

-- X1 readDeedKey
def f_X1_readDeedKey (Psg : (Nat → Int32)) (Pln : Int32) (Pat : Int32) (Pvl : Int32) (Pdk : Int32) : Option (Int32 × Int32 × Int32 × Int32) :=
  (f_X1_readNumber Psg Pln Pat Pvl 0 35).bind fun r1 => (zbool r1.1).bind fun _ => some (r1.1, r1.2.1, r1.2.2, r1.2.2)

theorem kX1_readDeedKey_47 : Cond.fieldLink RX1 47 "ZoneSampler$Pad" "value" "I" ∈ wsX1_readDeedKey := by decide +kernel
theorem kX1_readDeedKey_83 : Cond.fieldLink RX1 83 "ZoneSampler$Pad" "deedKey" "I" ∈ wsX1_readDeedKey := by decide +kernel
theorem jX1_readDeedKey_X1 : ∀ w ∈ u_ws RX1 TX1 14, w ∈ wsX1_readDeedKey := by decide +kernel
set_option maxHeartbeats 4000000 in
set_option maxRecDepth 100000 in
theorem c_X1_readDeedKey (l : Launch) (G : va_G) (c3 : zT3) (oP : zR2) (BP : zPd) {r : Int32} {Pat' : Int32} {Pvl' : Int32} {Pdk' : Int32} (hf : f_X1_readDeedKey BP.1 BP.2.1 BP.2.2.1 BP.2.2.2.1 BP.2.2.2.2.2.2.2.2.2.2.2.2.1 = some (r, Pat', Pvl', Pdk')) : zM l yX1_readDeedKey wsX1_readDeedKey ⟨2, 0, 0, 51⟩ G c3 (zwP c3.2.1 oP (BP.1, BP.2.1, BP.2.2.1, BP.2.2.2.1, BP.2.2.2.2.1, BP.2.2.2.2.2.1, BP.2.2.2.2.2.2.1, BP.2.2.2.2.2.2.2.1, BP.2.2.2.2.2.2.2.2.1, BP.2.2.2.2.2.2.2.2.2.1, BP.2.2.2.2.2.2.2.2.2.2.1, BP.2.2.2.2.2.2.2.2.2.2.2.1, BP.2.2.2.2.2.2.2.2.2.2.2.2.1, BP.2.2.2.2.2.2.2.2.2.2.2.2.2)) [.ref oP.1] (some (.int r)) (zwP c3.2.1 oP (BP.1, BP.2.1, Pat', Pvl', BP.2.2.2.2.1, BP.2.2.2.2.2.1, BP.2.2.2.2.2.2.1, BP.2.2.2.2.2.2.2.1, BP.2.2.2.2.2.2.2.2.1, BP.2.2.2.2.2.2.2.2.2.1, BP.2.2.2.2.2.2.2.2.2.2.1, BP.2.2.2.2.2.2.2.2.2.2.2.1, Pdk', BP.2.2.2.2.2.2.2.2.2.2.2.2.2)) := by
  obtain ⟨Psg, Pln, Pat, Pvl, Plo, Phi, Pso, Pha, Pla, Pgr, Pro, Pde, Pdk, Pam⟩ := BP
  have hf : f_X1_readDeedKey Psg Pln Pat Pvl Pdk = some (r, Pat', Pvl', Pdk') := hf
  show zM l yX1_readDeedKey wsX1_readDeedKey ⟨2, 0, 0, 51⟩ G c3 (zwP c3.2.1 oP (Psg, Pln, Pat, Pvl, Plo, Phi, Pso, Pha, Pla, Pgr, Pro, Pde, Pdk, Pam)) [.ref oP.1] (some (.int r)) (zwP c3.2.1 oP (Psg, Pln, Pat', Pvl', Plo, Phi, Pso, Pha, Pla, Pgr, Pro, Pde, Pdk', Pam))
  refine zM.of (cc := cX1_readDeedKey) (maxL := 2) (ret := (some .boolean)) (by decide) rfl (Nat.le_of_ble_eq_true rfl) ?_
  intro p e s m args below meth c A ls S0 hr hlk hC hl
  have S0 : CallFix p m c cX1_readDeedKey 2 s args wsX1_readDeedKey RX1 := S0
  have hl : lv_has ls 2 [(0, .ref oP.1)] := hl
  have hx := S0.1
  have hb := S0.2.1
  obtain ⟨H, hH⟩ : ∃ y, y = s.heap := ⟨_, rfl⟩
  rw [← hH] at hC ⊢
  obtain ⟨locs, hlo⟩ : ∃ y : List Loc, y = [] := ⟨_, rfl⟩
  rw [← hlo] at hC ⊢
  clear hH hlo
  unfold f_X1_readDeedKey at hf
  refine lv_aload_n hx hb dX1_readDeedKey_0 rfl (lv_at hl 0 rfl) ?_
  refine lv_iconst (v := 0) hx hb dX1_readDeedKey_1 (by decide) ?_
  refine lv_bipush (v := 35) hx hb dX1_readDeedKey_2 (by decide) ?_
  obtain ⟨r1, hr1, hf⟩ := z_bind hf
  refine z_calli (z_runV (n := 2) (rest := []) (As := [.int 0, .int 35]) S0 hC (c_X1_readNumber l G c3 oP (Psg, Pln, Pat, Pvl, Plo, Phi, Pso, Pha, Pla, Pgr, Pro, Pde, Pdk, Pam) 0 35 hr1) [0, 1] (by decide) rfl gX1_readDeedKey_X1_readNumber rfl rfl rfl (by decide +kernel) ⟨Nat.le_of_ble_eq_true rfl, Nat.le_of_ble_eq_true rfl⟩ (ci := 1) (q0 := 0) rfl rfl rfl hl.1 rfl (Nat.le_of_ble_eq_true rfl) dX1_readDeedKey_4) hC [0, 1] [] [0, 1] rfl (wr := ([] : va_W)) rfl (by decide) (by decide) (ws2 := (zwP c3.2.1 oP (Psg, Pln, r1.2.1, r1.2.2, Plo, Phi, Pso, Pha, Pla, Pgr, Pro, Pde, Pdk, Pam))) rfl (by decide) (fun H locs hC => ?_)
  refine lv_istore_n (lv' := [(1, .int r1.1), (0, .ref oP.1)]) hx hb dX1_readDeedKey_7 rfl hl (by decide) rfl (fun ls hl => ?_)
  refine lv_aload_n hx hb dX1_readDeedKey_8 rfl (lv_at hl 1 rfl) ?_
  refine lv_aload_n hx hb dX1_readDeedKey_9 rfl (lv_at hl 1 rfl) ?_
  refine z_get S0 hC (ci := 1) (C := RX1) (T := TX1) (N := 14) (v := .int r1.2.2) jX1_readDeedKey_X1 0 rfl rfl 3 (by decide) kX1_readDeedKey_47 rfl rfl dX1_readDeedKey_10 ?_
  refine z_put S0 hC (ci := 1) (C := RX1) (T := TX1) (N := 14) (v := .int r1.2.2) jX1_readDeedKey_X1 tyX1 tyX1_ok nmX1 0 rfl rfl 12 (by decide) kX1_readDeedKey_83 rfl rfl rfl rfl (Nat.le_of_ble_eq_true rfl) dX1_readDeedKey_13 (ws2 := (zwP c3.2.1 oP (Psg, Pln, r1.2.1, r1.2.2, Plo, Phi, Pso, Pha, Pla, Pgr, Pro, Pde, r1.2.2, Pam))) rfl (fun H locs hC => ?_)
  refine lv_iload_n hx hb dX1_readDeedKey_16 rfl (lv_at hl 0 rfl) ?_
  obtain ⟨w2, hw2, hf⟩ := z_bind hf
  obtain ⟨e1, e2, e3, e4⟩ := z_s4 hf
  subst e1
  subst e2
  subst e3
  subst e4
  exact z_zret S0 hr hlk (zbool_spec hw2) hC dX1_readDeedKey_17

-- X1 readAmount
def f_X1_readAmount (Psg : (Nat → Int32)) (Pln : Int32) (Pat : Int32) (Pvl : Int32) (Pam : Int32) (p1 : Int32) : Option (Int32 × Int32 × Int32 × Int32) :=
  (f_X1_readNumber Psg Pln Pat Pvl 1 p1).bind fun r1 => (zbool r1.1).bind fun _ => some (r1.1, r1.2.1, r1.2.2, r1.2.2)

theorem kX1_readAmount_47 : Cond.fieldLink RX1 47 "ZoneSampler$Pad" "value" "I" ∈ wsX1_readAmount := by decide +kernel
theorem kX1_readAmount_86 : Cond.fieldLink RX1 86 "ZoneSampler$Pad" "amount" "I" ∈ wsX1_readAmount := by decide +kernel
theorem jX1_readAmount_X1 : ∀ w ∈ u_ws RX1 TX1 14, w ∈ wsX1_readAmount := by decide +kernel
set_option maxHeartbeats 4000000 in
set_option maxRecDepth 100000 in
theorem c_X1_readAmount (l : Launch) (G : va_G) (c3 : zT3) (oP : zR2) (BP : zPd) (p1 : Int32) {r : Int32} {Pat' : Int32} {Pvl' : Int32} {Pam' : Int32} (hf : f_X1_readAmount BP.1 BP.2.1 BP.2.2.1 BP.2.2.2.1 BP.2.2.2.2.2.2.2.2.2.2.2.2.2 p1 = some (r, Pat', Pvl', Pam')) : zM l yX1_readAmount wsX1_readAmount ⟨2, 0, 0, 51⟩ G c3 (zwP c3.2.1 oP (BP.1, BP.2.1, BP.2.2.1, BP.2.2.2.1, BP.2.2.2.2.1, BP.2.2.2.2.2.1, BP.2.2.2.2.2.2.1, BP.2.2.2.2.2.2.2.1, BP.2.2.2.2.2.2.2.2.1, BP.2.2.2.2.2.2.2.2.2.1, BP.2.2.2.2.2.2.2.2.2.2.1, BP.2.2.2.2.2.2.2.2.2.2.2.1, BP.2.2.2.2.2.2.2.2.2.2.2.2.1, BP.2.2.2.2.2.2.2.2.2.2.2.2.2)) [.ref oP.1, .int p1] (some (.int r)) (zwP c3.2.1 oP (BP.1, BP.2.1, Pat', Pvl', BP.2.2.2.2.1, BP.2.2.2.2.2.1, BP.2.2.2.2.2.2.1, BP.2.2.2.2.2.2.2.1, BP.2.2.2.2.2.2.2.2.1, BP.2.2.2.2.2.2.2.2.2.1, BP.2.2.2.2.2.2.2.2.2.2.1, BP.2.2.2.2.2.2.2.2.2.2.2.1, BP.2.2.2.2.2.2.2.2.2.2.2.2.1, Pam')) := by
  obtain ⟨Psg, Pln, Pat, Pvl, Plo, Phi, Pso, Pha, Pla, Pgr, Pro, Pde, Pdk, Pam⟩ := BP
  have hf : f_X1_readAmount Psg Pln Pat Pvl Pam p1 = some (r, Pat', Pvl', Pam') := hf
  show zM l yX1_readAmount wsX1_readAmount ⟨2, 0, 0, 51⟩ G c3 (zwP c3.2.1 oP (Psg, Pln, Pat, Pvl, Plo, Phi, Pso, Pha, Pla, Pgr, Pro, Pde, Pdk, Pam)) [.ref oP.1, .int p1] (some (.int r)) (zwP c3.2.1 oP (Psg, Pln, Pat', Pvl', Plo, Phi, Pso, Pha, Pla, Pgr, Pro, Pde, Pdk, Pam'))
  refine zM.of (cc := cX1_readAmount) (maxL := 3) (ret := (some .boolean)) (by decide) rfl (Nat.le_of_ble_eq_true rfl) ?_
  intro p e s m args below meth c A ls S0 hr hlk hC hl
  have S0 : CallFix p m c cX1_readAmount 3 s args wsX1_readAmount RX1 := S0
  have hl : lv_has ls 3 [(0, .ref oP.1), (1, .int p1)] := hl
  have hx := S0.1
  have hb := S0.2.1
  obtain ⟨H, hH⟩ : ∃ y, y = s.heap := ⟨_, rfl⟩
  rw [← hH] at hC ⊢
  obtain ⟨locs, hlo⟩ : ∃ y : List Loc, y = [] := ⟨_, rfl⟩
  rw [← hlo] at hC ⊢
  clear hH hlo
  unfold f_X1_readAmount at hf
  refine lv_aload_n hx hb dX1_readAmount_0 rfl (lv_at hl 0 rfl) ?_
  refine lv_iconst (v := 1) hx hb dX1_readAmount_1 (by decide) ?_
  refine lv_iload_n hx hb dX1_readAmount_2 rfl (lv_at hl 1 rfl) ?_
  obtain ⟨r1, hr1, hf⟩ := z_bind hf
  refine z_calli (z_runV (n := 2) (rest := []) (As := [.int 1, .int p1]) S0 hC (c_X1_readNumber l G c3 oP (Psg, Pln, Pat, Pvl, Plo, Phi, Pso, Pha, Pla, Pgr, Pro, Pde, Pdk, Pam) 1 p1 hr1) [0, 1] (by decide) rfl gX1_readAmount_X1_readNumber rfl rfl rfl (by decide +kernel) ⟨Nat.le_of_ble_eq_true rfl, Nat.le_of_ble_eq_true rfl⟩ (ci := 1) (q0 := 0) rfl rfl rfl hl.1 rfl (Nat.le_of_ble_eq_true rfl) dX1_readAmount_3) hC [0, 1] [] [0, 1] rfl (wr := ([] : va_W)) rfl (by decide) (by decide) (ws2 := (zwP c3.2.1 oP (Psg, Pln, r1.2.1, r1.2.2, Plo, Phi, Pso, Pha, Pla, Pgr, Pro, Pde, Pdk, Pam))) rfl (by decide) (fun H locs hC => ?_)
  refine lv_istore_n (lv' := [(2, .int r1.1), (0, .ref oP.1), (1, .int p1)]) hx hb dX1_readAmount_6 rfl hl (by decide) rfl (fun ls hl => ?_)
  refine lv_aload_n hx hb dX1_readAmount_7 rfl (lv_at hl 1 rfl) ?_
  refine lv_aload_n hx hb dX1_readAmount_8 rfl (lv_at hl 1 rfl) ?_
  refine z_get S0 hC (ci := 1) (C := RX1) (T := TX1) (N := 14) (v := .int r1.2.2) jX1_readAmount_X1 0 rfl rfl 3 (by decide) kX1_readAmount_47 rfl rfl dX1_readAmount_9 ?_
  refine z_put S0 hC (ci := 1) (C := RX1) (T := TX1) (N := 14) (v := .int r1.2.2) jX1_readAmount_X1 tyX1 tyX1_ok nmX1 0 rfl rfl 13 (by decide) kX1_readAmount_86 rfl rfl rfl rfl (Nat.le_of_ble_eq_true rfl) dX1_readAmount_12 (ws2 := (zwP c3.2.1 oP (Psg, Pln, r1.2.1, r1.2.2, Plo, Phi, Pso, Pha, Pla, Pgr, Pro, Pde, Pdk, r1.2.2))) rfl (fun H locs hC => ?_)
  refine lv_iload_n hx hb dX1_readAmount_15 rfl (lv_at hl 0 rfl) ?_
  obtain ⟨w2, hw2, hf⟩ := z_bind hf
  obtain ⟨e1, e2, e3, e4⟩ := z_s4 hf
  subst e1
  subst e2
  subst e3
  subst e4
  exact z_zret S0 hr hlk (zbool_spec hw2) hC dX1_readAmount_16

-- X1 readZone
def f_X1_readZone (Psg : (Nat → Int32)) (Pln : Int32) (Pat : Int32) (Pvl : Int32) (Plo : Int32) (Phi : Int32) (Pso : Int32) (Pha : Int32) (Pla : Int32) (Pgr : Int32) (Pro : Int32) : Option (Int32 × Int32 × Int32 × Int32 × Int32 × Int32 × Int32 × Int32 × Int32 × Int32) :=
  (f_X1_readNumber Psg Pln Pat Pvl 0 35).bind fun r1 => if r1.1 = 0 then
    some (0, r1.2.1, r1.2.2, Plo, Phi, Pso, Pha, Pla, Pgr, Pro)
  else
    (f_X1_readSign Psg Pln r1.2.1 45).bind fun r3 => if r3.1 = 0 then
      some (0, r3.2, r1.2.2, r1.2.2, Phi, Pso, Pha, Pla, Pgr, Pro)
    else
      (f_X1_readNumber Psg Pln r3.2 r1.2.2 r1.2.2 35).bind fun r5 => if r5.1 = 0 then
        some (0, r5.2.1, r5.2.2, r1.2.2, Phi, Pso, Pha, Pla, Pgr, Pro)
      else
        (f_X1_readSign Psg Pln r5.2.1 44).bind fun r7 => if r7.1 = 0 then
          some (0, r7.2, r5.2.2, r1.2.2, r5.2.2, Pso, Pha, Pla, Pgr, Pro)
        else
          (f_X1_readNumber Psg Pln r7.2 r5.2.2 1 9).bind fun r9 => if r9.1 = 0 then
            some (0, r9.2.1, r9.2.2, r1.2.2, r5.2.2, Pso, Pha, Pla, Pgr, Pro)
          else
            (f_X1_readSign Psg Pln r9.2.1 45).bind fun r11 => if r11.1 = 0 then
              some (0, r11.2, r9.2.2, r1.2.2, r5.2.2, r9.2.2, Pha, Pla, Pgr, Pro)
            else
              (f_X1_readNumber Psg Pln r11.2 r9.2.2 r9.2.2 9).bind fun r13 => if r13.1 = 0 then
                some (0, r13.2.1, r13.2.2, r1.2.2, r5.2.2, r9.2.2, Pha, Pla, Pgr, Pro)
              else
                (f_X1_readSign Psg Pln r13.2.1 44).bind fun r15 => if r15.1 = 0 then
                  some (0, r15.2, r13.2.2, r1.2.2, r5.2.2, r9.2.2, r13.2.2, Pla, Pgr, Pro)
                else
                  (f_X1_readNumber Psg Pln r15.2 r13.2.2 1 60).bind fun r17 => if r17.1 = 0 then
                    some (0, r17.2.1, r17.2.2, r1.2.2, r5.2.2, r9.2.2, r13.2.2, Pla, Pgr, Pro)
                  else
                    (f_X1_readMark Psg Pln r17.2.1 r17.2.2 103 3).bind fun r19 => if r19.1 = 0 then
                      some (0, r19.2.1, r19.2.2, r1.2.2, r5.2.2, r9.2.2, r13.2.2, r17.2.2, Pgr, Pro)
                    else
                      (f_X1_readMark Psg Pln r19.2.1 r19.2.2 114 4).bind fun r21 => (zbool r21.1).bind fun _ => some (r21.1, r21.2.1, r21.2.2, r1.2.2, r5.2.2, r9.2.2, r13.2.2, r17.2.2, r19.2.2, r21.2.2)

theorem kX1_readZone_47 : Cond.fieldLink RX1 47 "ZoneSampler$Pad" "value" "I" ∈ wsX1_readZone := by decide +kernel
theorem kX1_readZone_50 : Cond.fieldLink RX1 50 "ZoneSampler$Pad" "low" "I" ∈ wsX1_readZone := by decide +kernel
theorem kX1_readZone_53 : Cond.fieldLink RX1 53 "ZoneSampler$Pad" "high" "I" ∈ wsX1_readZone := by decide +kernel
theorem kX1_readZone_56 : Cond.fieldLink RX1 56 "ZoneSampler$Pad" "softest" "I" ∈ wsX1_readZone := by decide +kernel
theorem kX1_readZone_59 : Cond.fieldLink RX1 59 "ZoneSampler$Pad" "hardest" "I" ∈ wsX1_readZone := by decide +kernel
theorem kX1_readZone_62 : Cond.fieldLink RX1 62 "ZoneSampler$Pad" "lasting" "I" ∈ wsX1_readZone := by decide +kernel
theorem kX1_readZone_68 : Cond.fieldLink RX1 68 "ZoneSampler$Pad" "group" "I" ∈ wsX1_readZone := by decide +kernel
theorem kX1_readZone_71 : Cond.fieldLink RX1 71 "ZoneSampler$Pad" "robin" "I" ∈ wsX1_readZone := by decide +kernel
theorem jX1_readZone_X1 : ∀ w ∈ u_ws RX1 TX1 14, w ∈ wsX1_readZone := by decide +kernel
set_option maxHeartbeats 4000000 in
set_option maxRecDepth 100000 in
theorem c_X1_readZone (l : Launch) (G : va_G) (c3 : zT3) (oP : zR2) (BP : zPd) {r : Int32} {Pat' : Int32} {Pvl' : Int32} {Plo' : Int32} {Phi' : Int32} {Pso' : Int32} {Pha' : Int32} {Pla' : Int32} {Pgr' : Int32} {Pro' : Int32} (hf : f_X1_readZone BP.1 BP.2.1 BP.2.2.1 BP.2.2.2.1 BP.2.2.2.2.1 BP.2.2.2.2.2.1 BP.2.2.2.2.2.2.1 BP.2.2.2.2.2.2.2.1 BP.2.2.2.2.2.2.2.2.1 BP.2.2.2.2.2.2.2.2.2.1 BP.2.2.2.2.2.2.2.2.2.2.1 = some (r, Pat', Pvl', Plo', Phi', Pso', Pha', Pla', Pgr', Pro')) : zM l yX1_readZone wsX1_readZone ⟨3, 0, 0, 73⟩ G c3 (zwP c3.2.1 oP (BP.1, BP.2.1, BP.2.2.1, BP.2.2.2.1, BP.2.2.2.2.1, BP.2.2.2.2.2.1, BP.2.2.2.2.2.2.1, BP.2.2.2.2.2.2.2.1, BP.2.2.2.2.2.2.2.2.1, BP.2.2.2.2.2.2.2.2.2.1, BP.2.2.2.2.2.2.2.2.2.2.1, BP.2.2.2.2.2.2.2.2.2.2.2.1, BP.2.2.2.2.2.2.2.2.2.2.2.2.1, BP.2.2.2.2.2.2.2.2.2.2.2.2.2)) [.ref oP.1] (some (.int r)) (zwP c3.2.1 oP (BP.1, BP.2.1, Pat', Pvl', Plo', Phi', Pso', Pha', Pla', Pgr', Pro', BP.2.2.2.2.2.2.2.2.2.2.2.1, BP.2.2.2.2.2.2.2.2.2.2.2.2.1, BP.2.2.2.2.2.2.2.2.2.2.2.2.2)) := by
  obtain ⟨Psg, Pln, Pat, Pvl, Plo, Phi, Pso, Pha, Pla, Pgr, Pro, Pde, Pdk, Pam⟩ := BP
  have hf : f_X1_readZone Psg Pln Pat Pvl Plo Phi Pso Pha Pla Pgr Pro = some (r, Pat', Pvl', Plo', Phi', Pso', Pha', Pla', Pgr', Pro') := hf
  show zM l yX1_readZone wsX1_readZone ⟨3, 0, 0, 73⟩ G c3 (zwP c3.2.1 oP (Psg, Pln, Pat, Pvl, Plo, Phi, Pso, Pha, Pla, Pgr, Pro, Pde, Pdk, Pam)) [.ref oP.1] (some (.int r)) (zwP c3.2.1 oP (Psg, Pln, Pat', Pvl', Plo', Phi', Pso', Pha', Pla', Pgr', Pro', Pde, Pdk, Pam))
  refine zM.of (cc := cX1_readZone) (maxL := 2) (ret := (some .boolean)) (by decide) rfl (Nat.le_of_ble_eq_true rfl) ?_
  intro p e s m args below meth c A ls S0 hr hlk hC hl
  have S0 : CallFix p m c cX1_readZone 2 s args wsX1_readZone RX1 := S0
  have hl : lv_has ls 2 [(0, .ref oP.1)] := hl
  have hx := S0.1
  have hb := S0.2.1
  obtain ⟨H, hH⟩ : ∃ y, y = s.heap := ⟨_, rfl⟩
  rw [← hH] at hC ⊢
  obtain ⟨locs, hlo⟩ : ∃ y : List Loc, y = [] := ⟨_, rfl⟩
  rw [← hlo] at hC ⊢
  clear hH hlo
  unfold f_X1_readZone at hf
  refine lv_aload_n hx hb dX1_readZone_0 rfl (lv_at hl 0 rfl) ?_
  refine lv_iconst (v := 0) hx hb dX1_readZone_1 (by decide) ?_
  refine lv_bipush (v := 35) hx hb dX1_readZone_2 (by decide) ?_
  obtain ⟨r1, hr1, hf⟩ := z_bind hf
  refine z_calli (z_runV (n := 2) (rest := []) (As := [.int 0, .int 35]) S0 hC (c_X1_readNumber l G c3 oP (Psg, Pln, Pat, Pvl, Plo, Phi, Pso, Pha, Pla, Pgr, Pro, Pde, Pdk, Pam) 0 35 hr1) [0, 1] (by decide) rfl gX1_readZone_X1_readNumber rfl rfl rfl (by decide +kernel) ⟨Nat.le_of_ble_eq_true rfl, Nat.le_of_ble_eq_true rfl⟩ (ci := 1) (q0 := 0) rfl rfl rfl hl.1 rfl (Nat.le_of_ble_eq_true rfl) dX1_readZone_4) hC [0, 1] [] [0, 1] rfl (wr := ([] : va_W)) rfl (by decide) (by decide) (ws2 := (zwP c3.2.1 oP (Psg, Pln, r1.2.1, r1.2.2, Plo, Phi, Pso, Pha, Pla, Pgr, Pro, Pde, Pdk, Pam))) rfl (by decide) (fun H locs hC => ?_)
  refine lv_if_ne (tgt := 12) hx hb dX1_readZone_7 (by decide) (fun cd2 => ?_) (fun cd2 => ?_)
  · replace hf := z_neg cd2 hf
    refine lv_aload_n hx hb dX1_readZone_12 rfl (lv_at hl 0 rfl) ?_
    refine lv_aload_n hx hb dX1_readZone_13 rfl (lv_at hl 0 rfl) ?_
    refine z_get S0 hC (ci := 1) (C := RX1) (T := TX1) (N := 14) (v := .int r1.2.2) jX1_readZone_X1 0 rfl rfl 3 (by decide) kX1_readZone_47 rfl rfl dX1_readZone_14 ?_
    refine z_put S0 hC (ci := 1) (C := RX1) (T := TX1) (N := 14) (v := .int r1.2.2) jX1_readZone_X1 tyX1 tyX1_ok nmX1 0 rfl rfl 4 (by decide) kX1_readZone_50 rfl rfl rfl rfl (Nat.le_of_ble_eq_true rfl) dX1_readZone_17 (ws2 := (zwP c3.2.1 oP (Psg, Pln, r1.2.1, r1.2.2, r1.2.2, Phi, Pso, Pha, Pla, Pgr, Pro, Pde, Pdk, Pam))) rfl (fun H locs hC => ?_)
    refine lv_aload_n hx hb dX1_readZone_20 rfl (lv_at hl 0 rfl) ?_
    refine lv_bipush (v := 45) hx hb dX1_readZone_21 (by decide) ?_
    obtain ⟨r3, hr3, hf⟩ := z_bind hf
    refine z_calli (z_runV (n := 1) (rest := []) (As := [.int 45]) S0 hC (c_X1_readSign l G c3 oP (Psg, Pln, r1.2.1, r1.2.2, r1.2.2, Phi, Pso, Pha, Pla, Pgr, Pro, Pde, Pdk, Pam) 45 hr3) [0, 1] (by decide) rfl gX1_readZone_X1_readSign rfl rfl rfl (by decide +kernel) ⟨Nat.le_of_ble_eq_true rfl, Nat.le_of_ble_eq_true rfl⟩ (ci := 1) (q0 := 0) rfl rfl rfl hl.1 rfl (Nat.le_of_ble_eq_true rfl) dX1_readZone_23) hC [0, 1] [] [0, 1] rfl (wr := ([] : va_W)) rfl (by decide) (by decide) (ws2 := (zwP c3.2.1 oP (Psg, Pln, r3.2, r1.2.2, r1.2.2, Phi, Pso, Pha, Pla, Pgr, Pro, Pde, Pdk, Pam))) rfl (by decide) (fun H locs hC => ?_)
    refine lv_if_eq (tgt := 42) hx hb dX1_readZone_26 (by decide) (fun cd4 => ?_) (fun cd4 => ?_)
    · replace hf := z_pos cd4 hf
      refine lv_iconst (v := 0) hx hb dX1_readZone_42 (by decide) ?_
      obtain ⟨e1, e2, e3, e4, e5, e6, e7, e8, e9, e10⟩ := z_s10 hf
      subst e1
      subst e2
      subst e3
      subst e4
      subst e5
      subst e6
      subst e7
      subst e8
      subst e9
      subst e10
      exact z_zret S0 hr hlk rfl hC dX1_readZone_43
    · replace hf := z_neg cd4 hf
      refine lv_aload_n hx hb dX1_readZone_29 rfl (lv_at hl 0 rfl) ?_
      refine lv_aload_n hx hb dX1_readZone_30 rfl (lv_at hl 0 rfl) ?_
      refine z_get S0 hC (ci := 1) (C := RX1) (T := TX1) (N := 14) (v := .int r1.2.2) jX1_readZone_X1 0 rfl rfl 4 (by decide) kX1_readZone_50 rfl rfl dX1_readZone_31 ?_
      refine lv_bipush (v := 35) hx hb dX1_readZone_34 (by decide) ?_
      obtain ⟨r5, hr5, hf⟩ := z_bind hf
      refine z_calli (z_runV (n := 2) (rest := []) (As := [.int r1.2.2, .int 35]) S0 hC (c_X1_readNumber l G c3 oP (Psg, Pln, r3.2, r1.2.2, r1.2.2, Phi, Pso, Pha, Pla, Pgr, Pro, Pde, Pdk, Pam) r1.2.2 35 hr5) [0, 1] (by decide) rfl gX1_readZone_X1_readNumber rfl rfl rfl (by decide +kernel) ⟨Nat.le_of_ble_eq_true rfl, Nat.le_of_ble_eq_true rfl⟩ (ci := 1) (q0 := 0) rfl rfl rfl hl.1 rfl (Nat.le_of_ble_eq_true rfl) dX1_readZone_36) hC [0, 1] [] [0, 1] rfl (wr := ([] : va_W)) rfl (by decide) (by decide) (ws2 := (zwP c3.2.1 oP (Psg, Pln, r5.2.1, r5.2.2, r1.2.2, Phi, Pso, Pha, Pla, Pgr, Pro, Pde, Pdk, Pam))) rfl (by decide) (fun H locs hC => ?_)
      refine lv_if_ne (tgt := 44) hx hb dX1_readZone_39 (by decide) (fun cd6 => ?_) (fun cd6 => ?_)
      · replace hf := z_neg cd6 hf
        refine lv_aload_n hx hb dX1_readZone_44 rfl (lv_at hl 0 rfl) ?_
        refine lv_aload_n hx hb dX1_readZone_45 rfl (lv_at hl 0 rfl) ?_
        refine z_get S0 hC (ci := 1) (C := RX1) (T := TX1) (N := 14) (v := .int r5.2.2) jX1_readZone_X1 0 rfl rfl 3 (by decide) kX1_readZone_47 rfl rfl dX1_readZone_46 ?_
        refine z_put S0 hC (ci := 1) (C := RX1) (T := TX1) (N := 14) (v := .int r5.2.2) jX1_readZone_X1 tyX1 tyX1_ok nmX1 0 rfl rfl 5 (by decide) kX1_readZone_53 rfl rfl rfl rfl (Nat.le_of_ble_eq_true rfl) dX1_readZone_49 (ws2 := (zwP c3.2.1 oP (Psg, Pln, r5.2.1, r5.2.2, r1.2.2, r5.2.2, Pso, Pha, Pla, Pgr, Pro, Pde, Pdk, Pam))) rfl (fun H locs hC => ?_)
        refine lv_aload_n hx hb dX1_readZone_52 rfl (lv_at hl 0 rfl) ?_
        refine lv_bipush (v := 44) hx hb dX1_readZone_53 (by decide) ?_
        obtain ⟨r7, hr7, hf⟩ := z_bind hf
        refine z_calli (z_runV (n := 1) (rest := []) (As := [.int 44]) S0 hC (c_X1_readSign l G c3 oP (Psg, Pln, r5.2.1, r5.2.2, r1.2.2, r5.2.2, Pso, Pha, Pla, Pgr, Pro, Pde, Pdk, Pam) 44 hr7) [0, 1] (by decide) rfl gX1_readZone_X1_readSign rfl rfl rfl (by decide +kernel) ⟨Nat.le_of_ble_eq_true rfl, Nat.le_of_ble_eq_true rfl⟩ (ci := 1) (q0 := 0) rfl rfl rfl hl.1 rfl (Nat.le_of_ble_eq_true rfl) dX1_readZone_55) hC [0, 1] [] [0, 1] rfl (wr := ([] : va_W)) rfl (by decide) (by decide) (ws2 := (zwP c3.2.1 oP (Psg, Pln, r7.2, r5.2.2, r1.2.2, r5.2.2, Pso, Pha, Pla, Pgr, Pro, Pde, Pdk, Pam))) rfl (by decide) (fun H locs hC => ?_)
        refine lv_if_eq (tgt := 71) hx hb dX1_readZone_58 (by decide) (fun cd8 => ?_) (fun cd8 => ?_)
        · replace hf := z_pos cd8 hf
          refine lv_iconst (v := 0) hx hb dX1_readZone_71 (by decide) ?_
          obtain ⟨e1, e2, e3, e4, e5, e6, e7, e8, e9, e10⟩ := z_s10 hf
          subst e1
          subst e2
          subst e3
          subst e4
          subst e5
          subst e6
          subst e7
          subst e8
          subst e9
          subst e10
          exact z_zret S0 hr hlk rfl hC dX1_readZone_72
        · replace hf := z_neg cd8 hf
          refine lv_aload_n hx hb dX1_readZone_61 rfl (lv_at hl 0 rfl) ?_
          refine lv_iconst (v := 1) hx hb dX1_readZone_62 (by decide) ?_
          refine lv_bipush (v := 9) hx hb dX1_readZone_63 (by decide) ?_
          obtain ⟨r9, hr9, hf⟩ := z_bind hf
          refine z_calli (z_runV (n := 2) (rest := []) (As := [.int 1, .int 9]) S0 hC (c_X1_readNumber l G c3 oP (Psg, Pln, r7.2, r5.2.2, r1.2.2, r5.2.2, Pso, Pha, Pla, Pgr, Pro, Pde, Pdk, Pam) 1 9 hr9) [0, 1] (by decide) rfl gX1_readZone_X1_readNumber rfl rfl rfl (by decide +kernel) ⟨Nat.le_of_ble_eq_true rfl, Nat.le_of_ble_eq_true rfl⟩ (ci := 1) (q0 := 0) rfl rfl rfl hl.1 rfl (Nat.le_of_ble_eq_true rfl) dX1_readZone_65) hC [0, 1] [] [0, 1] rfl (wr := ([] : va_W)) rfl (by decide) (by decide) (ws2 := (zwP c3.2.1 oP (Psg, Pln, r9.2.1, r9.2.2, r1.2.2, r5.2.2, Pso, Pha, Pla, Pgr, Pro, Pde, Pdk, Pam))) rfl (by decide) (fun H locs hC => ?_)
          refine lv_if_ne (tgt := 73) hx hb dX1_readZone_68 (by decide) (fun cd10 => ?_) (fun cd10 => ?_)
          · replace hf := z_neg cd10 hf
            refine lv_aload_n hx hb dX1_readZone_73 rfl (lv_at hl 0 rfl) ?_
            refine lv_aload_n hx hb dX1_readZone_74 rfl (lv_at hl 0 rfl) ?_
            refine z_get S0 hC (ci := 1) (C := RX1) (T := TX1) (N := 14) (v := .int r9.2.2) jX1_readZone_X1 0 rfl rfl 3 (by decide) kX1_readZone_47 rfl rfl dX1_readZone_75 ?_
            refine z_put S0 hC (ci := 1) (C := RX1) (T := TX1) (N := 14) (v := .int r9.2.2) jX1_readZone_X1 tyX1 tyX1_ok nmX1 0 rfl rfl 6 (by decide) kX1_readZone_56 rfl rfl rfl rfl (Nat.le_of_ble_eq_true rfl) dX1_readZone_78 (ws2 := (zwP c3.2.1 oP (Psg, Pln, r9.2.1, r9.2.2, r1.2.2, r5.2.2, r9.2.2, Pha, Pla, Pgr, Pro, Pde, Pdk, Pam))) rfl (fun H locs hC => ?_)
            refine lv_aload_n hx hb dX1_readZone_81 rfl (lv_at hl 0 rfl) ?_
            refine lv_bipush (v := 45) hx hb dX1_readZone_82 (by decide) ?_
            obtain ⟨r11, hr11, hf⟩ := z_bind hf
            refine z_calli (z_runV (n := 1) (rest := []) (As := [.int 45]) S0 hC (c_X1_readSign l G c3 oP (Psg, Pln, r9.2.1, r9.2.2, r1.2.2, r5.2.2, r9.2.2, Pha, Pla, Pgr, Pro, Pde, Pdk, Pam) 45 hr11) [0, 1] (by decide) rfl gX1_readZone_X1_readSign rfl rfl rfl (by decide +kernel) ⟨Nat.le_of_ble_eq_true rfl, Nat.le_of_ble_eq_true rfl⟩ (ci := 1) (q0 := 0) rfl rfl rfl hl.1 rfl (Nat.le_of_ble_eq_true rfl) dX1_readZone_84) hC [0, 1] [] [0, 1] rfl (wr := ([] : va_W)) rfl (by decide) (by decide) (ws2 := (zwP c3.2.1 oP (Psg, Pln, r11.2, r9.2.2, r1.2.2, r5.2.2, r9.2.2, Pha, Pla, Pgr, Pro, Pde, Pdk, Pam))) rfl (by decide) (fun H locs hC => ?_)
            refine lv_if_eq (tgt := 103) hx hb dX1_readZone_87 (by decide) (fun cd12 => ?_) (fun cd12 => ?_)
            · replace hf := z_pos cd12 hf
              refine lv_iconst (v := 0) hx hb dX1_readZone_103 (by decide) ?_
              obtain ⟨e1, e2, e3, e4, e5, e6, e7, e8, e9, e10⟩ := z_s10 hf
              subst e1
              subst e2
              subst e3
              subst e4
              subst e5
              subst e6
              subst e7
              subst e8
              subst e9
              subst e10
              exact z_zret S0 hr hlk rfl hC dX1_readZone_104
            · replace hf := z_neg cd12 hf
              refine lv_aload_n hx hb dX1_readZone_90 rfl (lv_at hl 0 rfl) ?_
              refine lv_aload_n hx hb dX1_readZone_91 rfl (lv_at hl 0 rfl) ?_
              refine z_get S0 hC (ci := 1) (C := RX1) (T := TX1) (N := 14) (v := .int r9.2.2) jX1_readZone_X1 0 rfl rfl 6 (by decide) kX1_readZone_56 rfl rfl dX1_readZone_92 ?_
              refine lv_bipush (v := 9) hx hb dX1_readZone_95 (by decide) ?_
              obtain ⟨r13, hr13, hf⟩ := z_bind hf
              refine z_calli (z_runV (n := 2) (rest := []) (As := [.int r9.2.2, .int 9]) S0 hC (c_X1_readNumber l G c3 oP (Psg, Pln, r11.2, r9.2.2, r1.2.2, r5.2.2, r9.2.2, Pha, Pla, Pgr, Pro, Pde, Pdk, Pam) r9.2.2 9 hr13) [0, 1] (by decide) rfl gX1_readZone_X1_readNumber rfl rfl rfl (by decide +kernel) ⟨Nat.le_of_ble_eq_true rfl, Nat.le_of_ble_eq_true rfl⟩ (ci := 1) (q0 := 0) rfl rfl rfl hl.1 rfl (Nat.le_of_ble_eq_true rfl) dX1_readZone_97) hC [0, 1] [] [0, 1] rfl (wr := ([] : va_W)) rfl (by decide) (by decide) (ws2 := (zwP c3.2.1 oP (Psg, Pln, r13.2.1, r13.2.2, r1.2.2, r5.2.2, r9.2.2, Pha, Pla, Pgr, Pro, Pde, Pdk, Pam))) rfl (by decide) (fun H locs hC => ?_)
              refine lv_if_ne (tgt := 105) hx hb dX1_readZone_100 (by decide) (fun cd14 => ?_) (fun cd14 => ?_)
              · replace hf := z_neg cd14 hf
                refine lv_aload_n hx hb dX1_readZone_105 rfl (lv_at hl 0 rfl) ?_
                refine lv_aload_n hx hb dX1_readZone_106 rfl (lv_at hl 0 rfl) ?_
                refine z_get S0 hC (ci := 1) (C := RX1) (T := TX1) (N := 14) (v := .int r13.2.2) jX1_readZone_X1 0 rfl rfl 3 (by decide) kX1_readZone_47 rfl rfl dX1_readZone_107 ?_
                refine z_put S0 hC (ci := 1) (C := RX1) (T := TX1) (N := 14) (v := .int r13.2.2) jX1_readZone_X1 tyX1 tyX1_ok nmX1 0 rfl rfl 7 (by decide) kX1_readZone_59 rfl rfl rfl rfl (Nat.le_of_ble_eq_true rfl) dX1_readZone_110 (ws2 := (zwP c3.2.1 oP (Psg, Pln, r13.2.1, r13.2.2, r1.2.2, r5.2.2, r9.2.2, r13.2.2, Pla, Pgr, Pro, Pde, Pdk, Pam))) rfl (fun H locs hC => ?_)
                refine lv_aload_n hx hb dX1_readZone_113 rfl (lv_at hl 0 rfl) ?_
                refine lv_bipush (v := 44) hx hb dX1_readZone_114 (by decide) ?_
                obtain ⟨r15, hr15, hf⟩ := z_bind hf
                refine z_calli (z_runV (n := 1) (rest := []) (As := [.int 44]) S0 hC (c_X1_readSign l G c3 oP (Psg, Pln, r13.2.1, r13.2.2, r1.2.2, r5.2.2, r9.2.2, r13.2.2, Pla, Pgr, Pro, Pde, Pdk, Pam) 44 hr15) [0, 1] (by decide) rfl gX1_readZone_X1_readSign rfl rfl rfl (by decide +kernel) ⟨Nat.le_of_ble_eq_true rfl, Nat.le_of_ble_eq_true rfl⟩ (ci := 1) (q0 := 0) rfl rfl rfl hl.1 rfl (Nat.le_of_ble_eq_true rfl) dX1_readZone_116) hC [0, 1] [] [0, 1] rfl (wr := ([] : va_W)) rfl (by decide) (by decide) (ws2 := (zwP c3.2.1 oP (Psg, Pln, r15.2, r13.2.2, r1.2.2, r5.2.2, r9.2.2, r13.2.2, Pla, Pgr, Pro, Pde, Pdk, Pam))) rfl (by decide) (fun H locs hC => ?_)
                refine lv_if_eq (tgt := 132) hx hb dX1_readZone_119 (by decide) (fun cd16 => ?_) (fun cd16 => ?_)
                · replace hf := z_pos cd16 hf
                  refine lv_iconst (v := 0) hx hb dX1_readZone_132 (by decide) ?_
                  obtain ⟨e1, e2, e3, e4, e5, e6, e7, e8, e9, e10⟩ := z_s10 hf
                  subst e1
                  subst e2
                  subst e3
                  subst e4
                  subst e5
                  subst e6
                  subst e7
                  subst e8
                  subst e9
                  subst e10
                  exact z_zret S0 hr hlk rfl hC dX1_readZone_133
                · replace hf := z_neg cd16 hf
                  refine lv_aload_n hx hb dX1_readZone_122 rfl (lv_at hl 0 rfl) ?_
                  refine lv_iconst (v := 1) hx hb dX1_readZone_123 (by decide) ?_
                  refine lv_bipush (v := 60) hx hb dX1_readZone_124 (by decide) ?_
                  obtain ⟨r17, hr17, hf⟩ := z_bind hf
                  refine z_calli (z_runV (n := 2) (rest := []) (As := [.int 1, .int 60]) S0 hC (c_X1_readNumber l G c3 oP (Psg, Pln, r15.2, r13.2.2, r1.2.2, r5.2.2, r9.2.2, r13.2.2, Pla, Pgr, Pro, Pde, Pdk, Pam) 1 60 hr17) [0, 1] (by decide) rfl gX1_readZone_X1_readNumber rfl rfl rfl (by decide +kernel) ⟨Nat.le_of_ble_eq_true rfl, Nat.le_of_ble_eq_true rfl⟩ (ci := 1) (q0 := 0) rfl rfl rfl hl.1 rfl (Nat.le_of_ble_eq_true rfl) dX1_readZone_126) hC [0, 1] [] [0, 1] rfl (wr := ([] : va_W)) rfl (by decide) (by decide) (ws2 := (zwP c3.2.1 oP (Psg, Pln, r17.2.1, r17.2.2, r1.2.2, r5.2.2, r9.2.2, r13.2.2, Pla, Pgr, Pro, Pde, Pdk, Pam))) rfl (by decide) (fun H locs hC => ?_)
                  refine lv_if_ne (tgt := 134) hx hb dX1_readZone_129 (by decide) (fun cd18 => ?_) (fun cd18 => ?_)
                  · replace hf := z_neg cd18 hf
                    refine lv_aload_n hx hb dX1_readZone_134 rfl (lv_at hl 0 rfl) ?_
                    refine lv_aload_n hx hb dX1_readZone_135 rfl (lv_at hl 0 rfl) ?_
                    refine z_get S0 hC (ci := 1) (C := RX1) (T := TX1) (N := 14) (v := .int r17.2.2) jX1_readZone_X1 0 rfl rfl 3 (by decide) kX1_readZone_47 rfl rfl dX1_readZone_136 ?_
                    refine z_put S0 hC (ci := 1) (C := RX1) (T := TX1) (N := 14) (v := .int r17.2.2) jX1_readZone_X1 tyX1 tyX1_ok nmX1 0 rfl rfl 8 (by decide) kX1_readZone_62 rfl rfl rfl rfl (Nat.le_of_ble_eq_true rfl) dX1_readZone_139 (ws2 := (zwP c3.2.1 oP (Psg, Pln, r17.2.1, r17.2.2, r1.2.2, r5.2.2, r9.2.2, r13.2.2, r17.2.2, Pgr, Pro, Pde, Pdk, Pam))) rfl (fun H locs hC => ?_)
                    refine lv_aload_n hx hb dX1_readZone_142 rfl (lv_at hl 0 rfl) ?_
                    refine lv_bipush (v := 103) hx hb dX1_readZone_143 (by decide) ?_
                    refine lv_iconst (v := 3) hx hb dX1_readZone_145 (by decide) ?_
                    obtain ⟨r19, hr19, hf⟩ := z_bind hf
                    refine z_calli (z_runV (n := 2) (rest := []) (As := [.int 103, .int 3]) S0 hC (c_X1_readMark l G c3 oP (Psg, Pln, r17.2.1, r17.2.2, r1.2.2, r5.2.2, r9.2.2, r13.2.2, r17.2.2, Pgr, Pro, Pde, Pdk, Pam) 103 3 hr19) [0, 1] (by decide) rfl gX1_readZone_X1_readMark rfl rfl rfl (by decide +kernel) ⟨Nat.le_of_ble_eq_true rfl, Nat.le_of_ble_eq_true rfl⟩ (ci := 1) (q0 := 0) rfl rfl rfl hl.1 rfl (Nat.le_of_ble_eq_true rfl) dX1_readZone_146) hC [0, 1] [] [0, 1] rfl (wr := ([] : va_W)) rfl (by decide) (by decide) (ws2 := (zwP c3.2.1 oP (Psg, Pln, r19.2.1, r19.2.2, r1.2.2, r5.2.2, r9.2.2, r13.2.2, r17.2.2, Pgr, Pro, Pde, Pdk, Pam))) rfl (by decide) (fun H locs hC => ?_)
                    refine lv_if_ne (tgt := 154) hx hb dX1_readZone_149 (by decide) (fun cd20 => ?_) (fun cd20 => ?_)
                    · replace hf := z_neg cd20 hf
                      refine lv_aload_n hx hb dX1_readZone_154 rfl (lv_at hl 0 rfl) ?_
                      refine lv_aload_n hx hb dX1_readZone_155 rfl (lv_at hl 0 rfl) ?_
                      refine z_get S0 hC (ci := 1) (C := RX1) (T := TX1) (N := 14) (v := .int r19.2.2) jX1_readZone_X1 0 rfl rfl 3 (by decide) kX1_readZone_47 rfl rfl dX1_readZone_156 ?_
                      refine z_put S0 hC (ci := 1) (C := RX1) (T := TX1) (N := 14) (v := .int r19.2.2) jX1_readZone_X1 tyX1 tyX1_ok nmX1 0 rfl rfl 9 (by decide) kX1_readZone_68 rfl rfl rfl rfl (Nat.le_of_ble_eq_true rfl) dX1_readZone_159 (ws2 := (zwP c3.2.1 oP (Psg, Pln, r19.2.1, r19.2.2, r1.2.2, r5.2.2, r9.2.2, r13.2.2, r17.2.2, r19.2.2, Pro, Pde, Pdk, Pam))) rfl (fun H locs hC => ?_)
                      refine lv_aload_n hx hb dX1_readZone_162 rfl (lv_at hl 0 rfl) ?_
                      refine lv_bipush (v := 114) hx hb dX1_readZone_163 (by decide) ?_
                      refine lv_iconst (v := 4) hx hb dX1_readZone_165 (by decide) ?_
                      obtain ⟨r21, hr21, hf⟩ := z_bind hf
                      refine z_calli (z_runV (n := 2) (rest := []) (As := [.int 114, .int 4]) S0 hC (c_X1_readMark l G c3 oP (Psg, Pln, r19.2.1, r19.2.2, r1.2.2, r5.2.2, r9.2.2, r13.2.2, r17.2.2, r19.2.2, Pro, Pde, Pdk, Pam) 114 4 hr21) [0, 1] (by decide) rfl gX1_readZone_X1_readMark rfl rfl rfl (by decide +kernel) ⟨Nat.le_of_ble_eq_true rfl, Nat.le_of_ble_eq_true rfl⟩ (ci := 1) (q0 := 0) rfl rfl rfl hl.1 rfl (Nat.le_of_ble_eq_true rfl) dX1_readZone_166) hC [0, 1] [] [0, 1] rfl (wr := ([] : va_W)) rfl (by decide) (by decide) (ws2 := (zwP c3.2.1 oP (Psg, Pln, r21.2.1, r21.2.2, r1.2.2, r5.2.2, r9.2.2, r13.2.2, r17.2.2, r19.2.2, Pro, Pde, Pdk, Pam))) rfl (by decide) (fun H locs hC => ?_)
                      refine lv_istore_n (lv' := [(1, .int r21.1), (0, .ref oP.1)]) hx hb dX1_readZone_169 rfl hl (by decide) rfl (fun ls hl => ?_)
                      refine lv_aload_n hx hb dX1_readZone_170 rfl (lv_at hl 1 rfl) ?_
                      refine lv_aload_n hx hb dX1_readZone_171 rfl (lv_at hl 1 rfl) ?_
                      refine z_get S0 hC (ci := 1) (C := RX1) (T := TX1) (N := 14) (v := .int r21.2.2) jX1_readZone_X1 0 rfl rfl 3 (by decide) kX1_readZone_47 rfl rfl dX1_readZone_172 ?_
                      refine z_put S0 hC (ci := 1) (C := RX1) (T := TX1) (N := 14) (v := .int r21.2.2) jX1_readZone_X1 tyX1 tyX1_ok nmX1 0 rfl rfl 10 (by decide) kX1_readZone_71 rfl rfl rfl rfl (Nat.le_of_ble_eq_true rfl) dX1_readZone_175 (ws2 := (zwP c3.2.1 oP (Psg, Pln, r21.2.1, r21.2.2, r1.2.2, r5.2.2, r9.2.2, r13.2.2, r17.2.2, r19.2.2, r21.2.2, Pde, Pdk, Pam))) rfl (fun H locs hC => ?_)
                      refine lv_iload_n hx hb dX1_readZone_178 rfl (lv_at hl 0 rfl) ?_
                      obtain ⟨w22, hw22, hf⟩ := z_bind hf
                      obtain ⟨e1, e2, e3, e4, e5, e6, e7, e8, e9, e10⟩ := z_s10 hf
                      subst e1
                      subst e2
                      subst e3
                      subst e4
                      subst e5
                      subst e6
                      subst e7
                      subst e8
                      subst e9
                      subst e10
                      exact z_zret S0 hr hlk (zbool_spec hw22) hC dX1_readZone_179
                    · replace hf := z_pos cd20 hf
                      refine lv_iconst (v := 0) hx hb dX1_readZone_152 (by decide) ?_
                      obtain ⟨e1, e2, e3, e4, e5, e6, e7, e8, e9, e10⟩ := z_s10 hf
                      subst e1
                      subst e2
                      subst e3
                      subst e4
                      subst e5
                      subst e6
                      subst e7
                      subst e8
                      subst e9
                      subst e10
                      exact z_zret S0 hr hlk rfl hC dX1_readZone_153
                  · replace hf := z_pos cd18 hf
                    refine lv_iconst (v := 0) hx hb dX1_readZone_132 (by decide) ?_
                    obtain ⟨e1, e2, e3, e4, e5, e6, e7, e8, e9, e10⟩ := z_s10 hf
                    subst e1
                    subst e2
                    subst e3
                    subst e4
                    subst e5
                    subst e6
                    subst e7
                    subst e8
                    subst e9
                    subst e10
                    exact z_zret S0 hr hlk rfl hC dX1_readZone_133
              · replace hf := z_pos cd14 hf
                refine lv_iconst (v := 0) hx hb dX1_readZone_103 (by decide) ?_
                obtain ⟨e1, e2, e3, e4, e5, e6, e7, e8, e9, e10⟩ := z_s10 hf
                subst e1
                subst e2
                subst e3
                subst e4
                subst e5
                subst e6
                subst e7
                subst e8
                subst e9
                subst e10
                exact z_zret S0 hr hlk rfl hC dX1_readZone_104
          · replace hf := z_pos cd10 hf
            refine lv_iconst (v := 0) hx hb dX1_readZone_71 (by decide) ?_
            obtain ⟨e1, e2, e3, e4, e5, e6, e7, e8, e9, e10⟩ := z_s10 hf
            subst e1
            subst e2
            subst e3
            subst e4
            subst e5
            subst e6
            subst e7
            subst e8
            subst e9
            subst e10
            exact z_zret S0 hr hlk rfl hC dX1_readZone_72
      · replace hf := z_pos cd6 hf
        refine lv_iconst (v := 0) hx hb dX1_readZone_42 (by decide) ?_
        obtain ⟨e1, e2, e3, e4, e5, e6, e7, e8, e9, e10⟩ := z_s10 hf
        subst e1
        subst e2
        subst e3
        subst e4
        subst e5
        subst e6
        subst e7
        subst e8
        subst e9
        subst e10
        exact z_zret S0 hr hlk rfl hC dX1_readZone_43
  · replace hf := z_pos cd2 hf
    refine lv_iconst (v := 0) hx hb dX1_readZone_10 (by decide) ?_
    obtain ⟨e1, e2, e3, e4, e5, e6, e7, e8, e9, e10⟩ := z_s10 hf
    subst e1
    subst e2
    subst e3
    subst e4
    subst e5
    subst e6
    subst e7
    subst e8
    subst e9
    subst e10
    exact z_zret S0 hr hlk rfl hC dX1_readZone_11

-- X1 readDeed
def f_X1_readDeed (Psg : (Nat → Int32)) (Pln : Int32) (Pat : Int32) (Pvl : Int32) (Pde : Int32) (Pdk : Int32) (Pam : Int32) : Option (Int32 × Int32 × Int32 × Int32 × Int32 × Int32) :=
  (f_X1_sign Psg Pln Pat).bind fun r1 => if r1 = 110 then
    (f_X1_readDeedKey Psg Pln (Pat + 1) Pvl Pdk).bind fun r3 => if r3.1 = 0 then
      some (0, r3.2.1, r3.2.2.1, r1, r3.2.2.2, Pam)
    else
      (f_X1_readSign Psg Pln r3.2.1 46).bind fun r5 => if r5.1 = 0 then
        some (0, r5.2, r3.2.2.1, r1, r3.2.2.2, Pam)
      else
        (f_X1_readAmount Psg Pln r5.2 r3.2.2.1 Pam 9).bind fun r7 => if r7.1 = 0 then
          some (0, r7.2.1, r7.2.2.1, r1, r3.2.2.2, r7.2.2.2)
        else
          some (1, r7.2.1, r7.2.2.1, r1, r3.2.2.2, r7.2.2.2)
  else
    if r1 = 111 then
      (f_X1_readDeedKey Psg Pln (Pat + 1) Pvl Pdk).bind fun r10 => (zbool r10.1).bind fun _ => some (r10.1, r10.2.1, r10.2.2.1, r1, r10.2.2.2, Pam)
    else
      if r1 = 112 then
        some (1, (Pat + 1), Pvl, r1, Pdk, Pam)
      else
        if r1 = 116 then
          (f_X1_readAmount Psg Pln (Pat + 1) Pvl Pam 99).bind fun r14 => (zbool r14.1).bind fun _ => some (r14.1, r14.2.1, r14.2.2.1, r1, Pdk, r14.2.2.2)
        else
          some (0, Pat, Pvl, r1, Pdk, Pam)

theorem kX1_readDeed_74 : Cond.fieldLink RX1 74 "ZoneSampler$Pad" "deed" "I" ∈ wsX1_readDeed := by decide +kernel
theorem kX1_readDeed_19 : Cond.fieldLink RX1 19 "ZoneSampler$Pad" "at" "I" ∈ wsX1_readDeed := by decide +kernel
theorem jX1_readDeed_X1 : ∀ w ∈ u_ws RX1 TX1 14, w ∈ wsX1_readDeed := by decide +kernel
set_option maxHeartbeats 4000000 in
set_option maxRecDepth 100000 in
theorem c_X1_readDeed (l : Launch) (G : va_G) (c3 : zT3) (oP : zR2) (BP : zPd) {r : Int32} {Pat' : Int32} {Pvl' : Int32} {Pde' : Int32} {Pdk' : Int32} {Pam' : Int32} (hf : f_X1_readDeed BP.1 BP.2.1 BP.2.2.1 BP.2.2.2.1 BP.2.2.2.2.2.2.2.2.2.2.2.1 BP.2.2.2.2.2.2.2.2.2.2.2.2.1 BP.2.2.2.2.2.2.2.2.2.2.2.2.2 = some (r, Pat', Pvl', Pde', Pdk', Pam')) : zM l yX1_readDeed wsX1_readDeed ⟨3, 0, 0, 73⟩ G c3 (zwP c3.2.1 oP (BP.1, BP.2.1, BP.2.2.1, BP.2.2.2.1, BP.2.2.2.2.1, BP.2.2.2.2.2.1, BP.2.2.2.2.2.2.1, BP.2.2.2.2.2.2.2.1, BP.2.2.2.2.2.2.2.2.1, BP.2.2.2.2.2.2.2.2.2.1, BP.2.2.2.2.2.2.2.2.2.2.1, BP.2.2.2.2.2.2.2.2.2.2.2.1, BP.2.2.2.2.2.2.2.2.2.2.2.2.1, BP.2.2.2.2.2.2.2.2.2.2.2.2.2)) [.ref oP.1] (some (.int r)) (zwP c3.2.1 oP (BP.1, BP.2.1, Pat', Pvl', BP.2.2.2.2.1, BP.2.2.2.2.2.1, BP.2.2.2.2.2.2.1, BP.2.2.2.2.2.2.2.1, BP.2.2.2.2.2.2.2.2.1, BP.2.2.2.2.2.2.2.2.2.1, BP.2.2.2.2.2.2.2.2.2.2.1, Pde', Pdk', Pam')) := by
  obtain ⟨Psg, Pln, Pat, Pvl, Plo, Phi, Pso, Pha, Pla, Pgr, Pro, Pde, Pdk, Pam⟩ := BP
  have hf : f_X1_readDeed Psg Pln Pat Pvl Pde Pdk Pam = some (r, Pat', Pvl', Pde', Pdk', Pam') := hf
  show zM l yX1_readDeed wsX1_readDeed ⟨3, 0, 0, 73⟩ G c3 (zwP c3.2.1 oP (Psg, Pln, Pat, Pvl, Plo, Phi, Pso, Pha, Pla, Pgr, Pro, Pde, Pdk, Pam)) [.ref oP.1] (some (.int r)) (zwP c3.2.1 oP (Psg, Pln, Pat', Pvl', Plo, Phi, Pso, Pha, Pla, Pgr, Pro, Pde', Pdk', Pam'))
  refine zM.of (cc := cX1_readDeed) (maxL := 1) (ret := (some .boolean)) (by decide) rfl (Nat.le_of_ble_eq_true rfl) ?_
  intro p e s m args below meth c A ls S0 hr hlk hC hl
  have S0 : CallFix p m c cX1_readDeed 1 s args wsX1_readDeed RX1 := S0
  have hl : lv_has ls 1 [(0, .ref oP.1)] := hl
  have hx := S0.1
  have hb := S0.2.1
  obtain ⟨H, hH⟩ : ∃ y, y = s.heap := ⟨_, rfl⟩
  rw [← hH] at hC ⊢
  obtain ⟨locs, hlo⟩ : ∃ y : List Loc, y = [] := ⟨_, rfl⟩
  rw [← hlo] at hC ⊢
  clear hH hlo
  unfold f_X1_readDeed at hf
  refine lv_aload_n hx hb dX1_readDeed_0 rfl (lv_at hl 0 rfl) ?_
  refine lv_aload_n hx hb dX1_readDeed_1 rfl (lv_at hl 0 rfl) ?_
  obtain ⟨r1, hr1, hf⟩ := z_bind hf
  refine z_callPi (z_runV (n := 0) (rest := [.ref oP.1]) (As := []) S0 hC (c_X1_sign l G c3 oP (Psg, Pln, Pat, Pvl, Plo, Phi, Pso, Pha, Pla, Pgr, Pro, Pde, Pdk, Pam) hr1) [0, 1] (by decide) rfl gX1_readDeed_X1_sign rfl rfl rfl (by decide +kernel) ⟨Nat.le_of_ble_eq_true rfl, Nat.le_of_ble_eq_true rfl⟩ (ci := 1) (q0 := 0) rfl rfl rfl hl.1 rfl (Nat.le_of_ble_eq_true rfl) dX1_readDeed_2) hC [0, 1] rfl (fun H locs hC => ?_)
  refine z_put S0 hC (ci := 1) (C := RX1) (T := TX1) (N := 14) (v := .int r1) jX1_readDeed_X1 tyX1 tyX1_ok nmX1 0 rfl rfl 11 (by decide) kX1_readDeed_74 rfl rfl rfl rfl (Nat.le_of_ble_eq_true rfl) dX1_readDeed_5 (ws2 := (zwP c3.2.1 oP (Psg, Pln, Pat, Pvl, Plo, Phi, Pso, Pha, Pla, Pgr, Pro, r1, Pdk, Pam))) rfl (fun H locs hC => ?_)
  refine lv_aload_n hx hb dX1_readDeed_8 rfl (lv_at hl 0 rfl) ?_
  refine z_get S0 hC (ci := 1) (C := RX1) (T := TX1) (N := 14) (v := .int r1) jX1_readDeed_X1 0 rfl rfl 11 (by decide) kX1_readDeed_74 rfl rfl dX1_readDeed_9 ?_
  by_cases cd2 : r1 = 110
  · replace hf := z_pos cd2 hf
    refine lv_tableIn (off := 44) (tgt := 56) hx hb dX1_readDeed_12 (by rw [cd2]; decide) (by rw [cd2]; decide) (by rw [cd2]; rfl) (by decide) ?_
    refine lv_aload_n hx hb dX1_readDeed_56 rfl (lv_at hl 0 rfl) ?_
    refine lv_dup hx hb dX1_readDeed_57 rfl ?_
    refine z_get S0 hC (ci := 1) (C := RX1) (T := TX1) (N := 14) (v := .int Pat) jX1_readDeed_X1 0 rfl rfl 2 (by decide) kX1_readDeed_19 rfl rfl dX1_readDeed_58 ?_
    refine lv_iconst (v := 1) hx hb dX1_readDeed_61 (by decide) ?_
    refine lv_iadd hx hb dX1_readDeed_62 ?_
    refine z_put S0 hC (ci := 1) (C := RX1) (T := TX1) (N := 14) (v := .int (Pat + 1)) jX1_readDeed_X1 tyX1 tyX1_ok nmX1 0 rfl rfl 2 (by decide) kX1_readDeed_19 rfl rfl rfl rfl (Nat.le_of_ble_eq_true rfl) dX1_readDeed_63 (ws2 := (zwP c3.2.1 oP (Psg, Pln, (Pat + 1), Pvl, Plo, Phi, Pso, Pha, Pla, Pgr, Pro, r1, Pdk, Pam))) rfl (fun H locs hC => ?_)
    refine lv_aload_n hx hb dX1_readDeed_66 rfl (lv_at hl 0 rfl) ?_
    obtain ⟨r3, hr3, hf⟩ := z_bind hf
    refine z_calli (z_runV (n := 0) (rest := []) (As := []) S0 hC (c_X1_readDeedKey l G c3 oP (Psg, Pln, (Pat + 1), Pvl, Plo, Phi, Pso, Pha, Pla, Pgr, Pro, r1, Pdk, Pam) hr3) [0, 1] (by decide) rfl gX1_readDeed_X1_readDeedKey rfl rfl rfl (by decide +kernel) ⟨Nat.le_of_ble_eq_true rfl, Nat.le_of_ble_eq_true rfl⟩ (ci := 1) (q0 := 0) rfl rfl rfl hl.1 rfl (Nat.le_of_ble_eq_true rfl) dX1_readDeed_67) hC [0, 1] [] [0, 1] rfl (wr := ([] : va_W)) rfl (by decide) (by decide) (ws2 := (zwP c3.2.1 oP (Psg, Pln, r3.2.1, r3.2.2.1, Plo, Phi, Pso, Pha, Pla, Pgr, Pro, r1, r3.2.2.2, Pam))) rfl (by decide) (fun H locs hC => ?_)
    refine lv_if_eq (tgt := 95) hx hb dX1_readDeed_70 (by decide) (fun cd4 => ?_) (fun cd4 => ?_)
    · replace hf := z_pos cd4 hf
      refine lv_iconst (v := 0) hx hb dX1_readDeed_95 (by decide) ?_
      obtain ⟨e1, e2, e3, e4, e5, e6⟩ := z_s6 hf
      subst e1
      subst e2
      subst e3
      subst e4
      subst e5
      subst e6
      exact z_zret S0 hr hlk rfl hC dX1_readDeed_96
    · replace hf := z_neg cd4 hf
      refine lv_aload_n hx hb dX1_readDeed_73 rfl (lv_at hl 0 rfl) ?_
      refine lv_bipush (v := 46) hx hb dX1_readDeed_74 (by decide) ?_
      obtain ⟨r5, hr5, hf⟩ := z_bind hf
      refine z_calli (z_runV (n := 1) (rest := []) (As := [.int 46]) S0 hC (c_X1_readSign l G c3 oP (Psg, Pln, r3.2.1, r3.2.2.1, Plo, Phi, Pso, Pha, Pla, Pgr, Pro, r1, r3.2.2.2, Pam) 46 hr5) [0, 1] (by decide) rfl gX1_readDeed_X1_readSign rfl rfl rfl (by decide +kernel) ⟨Nat.le_of_ble_eq_true rfl, Nat.le_of_ble_eq_true rfl⟩ (ci := 1) (q0 := 0) rfl rfl rfl hl.1 rfl (Nat.le_of_ble_eq_true rfl) dX1_readDeed_76) hC [0, 1] [] [0, 1] rfl (wr := ([] : va_W)) rfl (by decide) (by decide) (ws2 := (zwP c3.2.1 oP (Psg, Pln, r5.2, r3.2.2.1, Plo, Phi, Pso, Pha, Pla, Pgr, Pro, r1, r3.2.2.2, Pam))) rfl (by decide) (fun H locs hC => ?_)
      refine lv_if_eq (tgt := 95) hx hb dX1_readDeed_79 (by decide) (fun cd6 => ?_) (fun cd6 => ?_)
      · replace hf := z_pos cd6 hf
        refine lv_iconst (v := 0) hx hb dX1_readDeed_95 (by decide) ?_
        obtain ⟨e1, e2, e3, e4, e5, e6⟩ := z_s6 hf
        subst e1
        subst e2
        subst e3
        subst e4
        subst e5
        subst e6
        exact z_zret S0 hr hlk rfl hC dX1_readDeed_96
      · replace hf := z_neg cd6 hf
        refine lv_aload_n hx hb dX1_readDeed_82 rfl (lv_at hl 0 rfl) ?_
        refine lv_bipush (v := 9) hx hb dX1_readDeed_83 (by decide) ?_
        obtain ⟨r7, hr7, hf⟩ := z_bind hf
        refine z_calli (z_runV (n := 1) (rest := []) (As := [.int 9]) S0 hC (c_X1_readAmount l G c3 oP (Psg, Pln, r5.2, r3.2.2.1, Plo, Phi, Pso, Pha, Pla, Pgr, Pro, r1, r3.2.2.2, Pam) 9 hr7) [0, 1] (by decide) rfl gX1_readDeed_X1_readAmount rfl rfl rfl (by decide +kernel) ⟨Nat.le_of_ble_eq_true rfl, Nat.le_of_ble_eq_true rfl⟩ (ci := 1) (q0 := 0) rfl rfl rfl hl.1 rfl (Nat.le_of_ble_eq_true rfl) dX1_readDeed_85) hC [0, 1] [] [0, 1] rfl (wr := ([] : va_W)) rfl (by decide) (by decide) (ws2 := (zwP c3.2.1 oP (Psg, Pln, r7.2.1, r7.2.2.1, Plo, Phi, Pso, Pha, Pla, Pgr, Pro, r1, r3.2.2.2, r7.2.2.2))) rfl (by decide) (fun H locs hC => ?_)
        refine lv_if_eq (tgt := 95) hx hb dX1_readDeed_88 (by decide) (fun cd8 => ?_) (fun cd8 => ?_)
        · replace hf := z_pos cd8 hf
          refine lv_iconst (v := 0) hx hb dX1_readDeed_95 (by decide) ?_
          obtain ⟨e1, e2, e3, e4, e5, e6⟩ := z_s6 hf
          subst e1
          subst e2
          subst e3
          subst e4
          subst e5
          subst e6
          exact z_zret S0 hr hlk rfl hC dX1_readDeed_96
        · replace hf := z_neg cd8 hf
          refine lv_iconst (v := 1) hx hb dX1_readDeed_91 (by decide) ?_
          refine lv_goto (tgt := 96) hx hb dX1_readDeed_92 (by decide) ?_
          obtain ⟨e1, e2, e3, e4, e5, e6⟩ := z_s6 hf
          subst e1
          subst e2
          subst e3
          subst e4
          subst e5
          subst e6
          exact z_zret S0 hr hlk rfl hC dX1_readDeed_96
  replace hf := z_neg cd2 hf
  by_cases cd9 : r1 = 111
  · replace hf := z_pos cd9 hf
    refine lv_tableIn (off := 85) (tgt := 97) hx hb dX1_readDeed_12 (by rw [cd9]; decide) (by rw [cd9]; decide) (by rw [cd9]; rfl) (by decide) ?_
    refine lv_aload_n hx hb dX1_readDeed_97 rfl (lv_at hl 0 rfl) ?_
    refine lv_dup hx hb dX1_readDeed_98 rfl ?_
    refine z_get S0 hC (ci := 1) (C := RX1) (T := TX1) (N := 14) (v := .int Pat) jX1_readDeed_X1 0 rfl rfl 2 (by decide) kX1_readDeed_19 rfl rfl dX1_readDeed_99 ?_
    refine lv_iconst (v := 1) hx hb dX1_readDeed_102 (by decide) ?_
    refine lv_iadd hx hb dX1_readDeed_103 ?_
    refine z_put S0 hC (ci := 1) (C := RX1) (T := TX1) (N := 14) (v := .int (Pat + 1)) jX1_readDeed_X1 tyX1 tyX1_ok nmX1 0 rfl rfl 2 (by decide) kX1_readDeed_19 rfl rfl rfl rfl (Nat.le_of_ble_eq_true rfl) dX1_readDeed_104 (ws2 := (zwP c3.2.1 oP (Psg, Pln, (Pat + 1), Pvl, Plo, Phi, Pso, Pha, Pla, Pgr, Pro, r1, Pdk, Pam))) rfl (fun H locs hC => ?_)
    refine lv_aload_n hx hb dX1_readDeed_107 rfl (lv_at hl 0 rfl) ?_
    obtain ⟨r10, hr10, hf⟩ := z_bind hf
    refine z_calli (z_runV (n := 0) (rest := []) (As := []) S0 hC (c_X1_readDeedKey l G c3 oP (Psg, Pln, (Pat + 1), Pvl, Plo, Phi, Pso, Pha, Pla, Pgr, Pro, r1, Pdk, Pam) hr10) [0, 1] (by decide) rfl gX1_readDeed_X1_readDeedKey rfl rfl rfl (by decide +kernel) ⟨Nat.le_of_ble_eq_true rfl, Nat.le_of_ble_eq_true rfl⟩ (ci := 1) (q0 := 0) rfl rfl rfl hl.1 rfl (Nat.le_of_ble_eq_true rfl) dX1_readDeed_108) hC [0, 1] [] [0, 1] rfl (wr := ([] : va_W)) rfl (by decide) (by decide) (ws2 := (zwP c3.2.1 oP (Psg, Pln, r10.2.1, r10.2.2.1, Plo, Phi, Pso, Pha, Pla, Pgr, Pro, r1, r10.2.2.2, Pam))) rfl (by decide) (fun H locs hC => ?_)
    obtain ⟨w11, hw11, hf⟩ := z_bind hf
    obtain ⟨e1, e2, e3, e4, e5, e6⟩ := z_s6 hf
    subst e1
    subst e2
    subst e3
    subst e4
    subst e5
    subst e6
    exact z_zret S0 hr hlk (zbool_spec hw11) hC dX1_readDeed_111
  replace hf := z_neg cd9 hf
  by_cases cd12 : r1 = 112
  · replace hf := z_pos cd12 hf
    refine lv_tableIn (off := 100) (tgt := 112) hx hb dX1_readDeed_12 (by rw [cd12]; decide) (by rw [cd12]; decide) (by rw [cd12]; rfl) (by decide) ?_
    refine lv_aload_n hx hb dX1_readDeed_112 rfl (lv_at hl 0 rfl) ?_
    refine lv_dup hx hb dX1_readDeed_113 rfl ?_
    refine z_get S0 hC (ci := 1) (C := RX1) (T := TX1) (N := 14) (v := .int Pat) jX1_readDeed_X1 0 rfl rfl 2 (by decide) kX1_readDeed_19 rfl rfl dX1_readDeed_114 ?_
    refine lv_iconst (v := 1) hx hb dX1_readDeed_117 (by decide) ?_
    refine lv_iadd hx hb dX1_readDeed_118 ?_
    refine z_put S0 hC (ci := 1) (C := RX1) (T := TX1) (N := 14) (v := .int (Pat + 1)) jX1_readDeed_X1 tyX1 tyX1_ok nmX1 0 rfl rfl 2 (by decide) kX1_readDeed_19 rfl rfl rfl rfl (Nat.le_of_ble_eq_true rfl) dX1_readDeed_119 (ws2 := (zwP c3.2.1 oP (Psg, Pln, (Pat + 1), Pvl, Plo, Phi, Pso, Pha, Pla, Pgr, Pro, r1, Pdk, Pam))) rfl (fun H locs hC => ?_)
    refine lv_iconst (v := 1) hx hb dX1_readDeed_122 (by decide) ?_
    obtain ⟨e1, e2, e3, e4, e5, e6⟩ := z_s6 hf
    subst e1
    subst e2
    subst e3
    subst e4
    subst e5
    subst e6
    exact z_zret S0 hr hlk rfl hC dX1_readDeed_123
  replace hf := z_neg cd12 hf
  by_cases cd13 : r1 = 116
  · replace hf := z_pos cd13 hf
    refine lv_tableIn (off := 112) (tgt := 124) hx hb dX1_readDeed_12 (by rw [cd13]; decide) (by rw [cd13]; decide) (by rw [cd13]; rfl) (by decide) ?_
    refine lv_aload_n hx hb dX1_readDeed_124 rfl (lv_at hl 0 rfl) ?_
    refine lv_dup hx hb dX1_readDeed_125 rfl ?_
    refine z_get S0 hC (ci := 1) (C := RX1) (T := TX1) (N := 14) (v := .int Pat) jX1_readDeed_X1 0 rfl rfl 2 (by decide) kX1_readDeed_19 rfl rfl dX1_readDeed_126 ?_
    refine lv_iconst (v := 1) hx hb dX1_readDeed_129 (by decide) ?_
    refine lv_iadd hx hb dX1_readDeed_130 ?_
    refine z_put S0 hC (ci := 1) (C := RX1) (T := TX1) (N := 14) (v := .int (Pat + 1)) jX1_readDeed_X1 tyX1 tyX1_ok nmX1 0 rfl rfl 2 (by decide) kX1_readDeed_19 rfl rfl rfl rfl (Nat.le_of_ble_eq_true rfl) dX1_readDeed_131 (ws2 := (zwP c3.2.1 oP (Psg, Pln, (Pat + 1), Pvl, Plo, Phi, Pso, Pha, Pla, Pgr, Pro, r1, Pdk, Pam))) rfl (fun H locs hC => ?_)
    refine lv_aload_n hx hb dX1_readDeed_134 rfl (lv_at hl 0 rfl) ?_
    refine lv_bipush (v := 99) hx hb dX1_readDeed_135 (by decide) ?_
    obtain ⟨r14, hr14, hf⟩ := z_bind hf
    refine z_calli (z_runV (n := 1) (rest := []) (As := [.int 99]) S0 hC (c_X1_readAmount l G c3 oP (Psg, Pln, (Pat + 1), Pvl, Plo, Phi, Pso, Pha, Pla, Pgr, Pro, r1, Pdk, Pam) 99 hr14) [0, 1] (by decide) rfl gX1_readDeed_X1_readAmount rfl rfl rfl (by decide +kernel) ⟨Nat.le_of_ble_eq_true rfl, Nat.le_of_ble_eq_true rfl⟩ (ci := 1) (q0 := 0) rfl rfl rfl hl.1 rfl (Nat.le_of_ble_eq_true rfl) dX1_readDeed_137) hC [0, 1] [] [0, 1] rfl (wr := ([] : va_W)) rfl (by decide) (by decide) (ws2 := (zwP c3.2.1 oP (Psg, Pln, r14.2.1, r14.2.2.1, Plo, Phi, Pso, Pha, Pla, Pgr, Pro, r1, Pdk, r14.2.2.2))) rfl (by decide) (fun H locs hC => ?_)
    obtain ⟨w15, hw15, hf⟩ := z_bind hf
    obtain ⟨e1, e2, e3, e4, e5, e6⟩ := z_s6 hf
    subst e1
    subst e2
    subst e3
    subst e4
    subst e5
    subst e6
    exact z_zret S0 hr hlk (zbool_spec hw15) hC dX1_readDeed_140
  replace hf := z_neg cd13 hf
  have D12 : W p l e ⟨3, 0, 0, 73⟩ s m args below meth c H locs 0 0 (MQ below (zPost G (zwP c3.2.1 oP (Psg, Pln, Pat', Pvl', Plo, Phi, Pso, Pha, Pla, Pgr, Pro, Pde', Pdk', Pam')) (some (.int r)) A) args s 0 0 A) (F0 m 141 ls []) := by
    refine lv_iconst (v := 0) hx hb dX1_readDeed_141 (by decide) ?_
    obtain ⟨e1, e2, e3, e4, e5, e6⟩ := z_s6 hf
    subst e1
    subst e2
    subst e3
    subst e4
    subst e5
    subst e6
    exact z_zret S0 hr hlk rfl hC dX1_readDeed_142
  by_cases cd16 : r1 = 113
  · exact lv_tableIn (off := 129) (tgt := 141) hx hb dX1_readDeed_12 (by rw [cd16]; decide) (by rw [cd16]; decide) (by rw [cd16]; rfl) (by decide) D12
  by_cases cd17 : r1 = 114
  · exact lv_tableIn (off := 129) (tgt := 141) hx hb dX1_readDeed_12 (by rw [cd17]; decide) (by rw [cd17]; decide) (by rw [cd17]; rfl) (by decide) D12
  by_cases cd18 : r1 = 115
  · exact lv_tableIn (off := 129) (tgt := 141) hx hb dX1_readDeed_12 (by rw [cd18]; decide) (by rw [cd18]; decide) (by rw [cd18]; rfl) (by decide) D12
  have e110_12 : (r1).toInt ≠ 110 := fun h => cd2 (Int32.toInt_inj.mp (h.trans (by decide)))
  have e111_12 : (r1).toInt ≠ 111 := fun h => cd9 (Int32.toInt_inj.mp (h.trans (by decide)))
  have e112_12 : (r1).toInt ≠ 112 := fun h => cd12 (Int32.toInt_inj.mp (h.trans (by decide)))
  have e116_12 : (r1).toInt ≠ 116 := fun h => cd13 (Int32.toInt_inj.mp (h.trans (by decide)))
  have e113_12 : (r1).toInt ≠ 113 := fun h => cd16 (Int32.toInt_inj.mp (h.trans (by decide)))
  have e114_12 : (r1).toInt ≠ 114 := fun h => cd17 (Int32.toInt_inj.mp (h.trans (by decide)))
  have e115_12 : (r1).toInt ≠ 115 := fun h => cd18 (Int32.toInt_inj.mp (h.trans (by decide)))
  exact lv_tableOut (tgt := 141) hx hb dX1_readDeed_12 (by omega) (by decide) D12

-- X1 faultAs
def f_X1_faultAs_11 (y1 : Int32) (y2 : Int32) (Psg : (Nat → Int32)) (Pln : Int32) (kk : Int32 × Int32 × Int32 × Int32 × Int32 × Int32 × Int32 × Int32 × Int32 × Int32 × Int32 × Int32 × Int32 → Option (Int32 × Int32 × Int32 × Int32 × Int32 × Int32 × Int32 × Int32 × Int32 × Int32 × Int32 × Int32 × Int32)) : Nat → Int32 → Int32 → Int32 → Int32 → Int32 → Int32 → Int32 → Int32 → Int32 → Int32 → Int32 → Int32 → Int32 → Option (Int32 × Int32 × Int32 × Int32 × Int32 × Int32 × Int32 × Int32 × Int32 × Int32 × Int32 × Int32 × Int32)
  | 0, _, _, _, _, _, _, _, _, _, _, _, _, _ => none
  | fu + 1, y3, Pat, Pvl, Plo, Phi, Pso, Pha, Pla, Pgr, Pro, Pde, Pdk, Pam =>
    if y2 ≤ y3 then
      kk (y3, Pat, Pvl, Plo, Phi, Pso, Pha, Pla, Pgr, Pro, Pde, Pdk, Pam)
    else
      Option.bind (α := Int32 × Int32 × Int32 × Int32 × Int32 × Int32 × Int32 × Int32 × Int32 × Int32 × Int32 × Int32 × Int32) (
        if y1 = 0 then
          (f_X1_readZone Psg Pln Pat Pvl Plo Phi Pso Pha Pla Pgr Pro).bind fun r16 => some (r16.1, r16.2.1, r16.2.2.1, r16.2.2.2.1, r16.2.2.2.2.1, r16.2.2.2.2.2.1, r16.2.2.2.2.2.2.1, r16.2.2.2.2.2.2.2.1, r16.2.2.2.2.2.2.2.2.1, r16.2.2.2.2.2.2.2.2.2, Pde, Pdk, Pam)
        else
          (f_X1_readDeed Psg Pln Pat Pvl Pde Pdk Pam).bind fun r15 => some (r15.1, r15.2.1, r15.2.2.1, Plo, Phi, Pso, Pha, Pla, Pgr, Pro, r15.2.2.2.1, r15.2.2.2.2.1, r15.2.2.2.2.2)
      ) fun t6 =>
        if t6.1 = 0 then
          if t6.1 = 0 then
            some (t6.2.1, t6.2.1, t6.2.2.1, t6.2.2.2.1, t6.2.2.2.2.1, t6.2.2.2.2.2.1, t6.2.2.2.2.2.2.1, t6.2.2.2.2.2.2.2.1, t6.2.2.2.2.2.2.2.2.1, t6.2.2.2.2.2.2.2.2.2.1, t6.2.2.2.2.2.2.2.2.2.2.1, t6.2.2.2.2.2.2.2.2.2.2.2.1, t6.2.2.2.2.2.2.2.2.2.2.2.2)
          else
            (f_X1_readSign Psg Pln t6.2.1 59).bind fun r9 => if r9.1 = 0 then
              some (r9.2, r9.2, t6.2.2.1, t6.2.2.2.1, t6.2.2.2.2.1, t6.2.2.2.2.2.1, t6.2.2.2.2.2.2.1, t6.2.2.2.2.2.2.2.1, t6.2.2.2.2.2.2.2.2.1, t6.2.2.2.2.2.2.2.2.2.1, t6.2.2.2.2.2.2.2.2.2.2.1, t6.2.2.2.2.2.2.2.2.2.2.2.1, t6.2.2.2.2.2.2.2.2.2.2.2.2)
            else
              f_X1_faultAs_11 y1 y2 Psg Pln kk fu (y3 + 1) r9.2 t6.2.2.1 t6.2.2.2.1 t6.2.2.2.2.1 t6.2.2.2.2.2.1 t6.2.2.2.2.2.2.1 t6.2.2.2.2.2.2.2.1 t6.2.2.2.2.2.2.2.2.1 t6.2.2.2.2.2.2.2.2.2.1 t6.2.2.2.2.2.2.2.2.2.2.1 t6.2.2.2.2.2.2.2.2.2.2.2.1 t6.2.2.2.2.2.2.2.2.2.2.2.2
        else
          if t6.2.1 < Pln then
            if t6.1 = 0 then
              some (t6.2.1, t6.2.1, t6.2.2.1, t6.2.2.2.1, t6.2.2.2.2.1, t6.2.2.2.2.2.1, t6.2.2.2.2.2.2.1, t6.2.2.2.2.2.2.2.1, t6.2.2.2.2.2.2.2.2.1, t6.2.2.2.2.2.2.2.2.2.1, t6.2.2.2.2.2.2.2.2.2.2.1, t6.2.2.2.2.2.2.2.2.2.2.2.1, t6.2.2.2.2.2.2.2.2.2.2.2.2)
            else
              (f_X1_readSign Psg Pln t6.2.1 59).bind fun r13 => if r13.1 = 0 then
                some (r13.2, r13.2, t6.2.2.1, t6.2.2.2.1, t6.2.2.2.2.1, t6.2.2.2.2.2.1, t6.2.2.2.2.2.2.1, t6.2.2.2.2.2.2.2.1, t6.2.2.2.2.2.2.2.2.1, t6.2.2.2.2.2.2.2.2.2.1, t6.2.2.2.2.2.2.2.2.2.2.1, t6.2.2.2.2.2.2.2.2.2.2.2.1, t6.2.2.2.2.2.2.2.2.2.2.2.2)
              else
                f_X1_faultAs_11 y1 y2 Psg Pln kk fu (y3 + 1) r13.2 t6.2.2.1 t6.2.2.2.1 t6.2.2.2.2.1 t6.2.2.2.2.2.1 t6.2.2.2.2.2.2.1 t6.2.2.2.2.2.2.2.1 t6.2.2.2.2.2.2.2.2.1 t6.2.2.2.2.2.2.2.2.2.1 t6.2.2.2.2.2.2.2.2.2.2.1 t6.2.2.2.2.2.2.2.2.2.2.2.1 t6.2.2.2.2.2.2.2.2.2.2.2.2
          else
            some ((-4), t6.2.1, t6.2.2.1, t6.2.2.2.1, t6.2.2.2.2.1, t6.2.2.2.2.2.1, t6.2.2.2.2.2.2.1, t6.2.2.2.2.2.2.2.1, t6.2.2.2.2.2.2.2.2.1, t6.2.2.2.2.2.2.2.2.2.1, t6.2.2.2.2.2.2.2.2.2.2.1, t6.2.2.2.2.2.2.2.2.2.2.2.1, t6.2.2.2.2.2.2.2.2.2.2.2.2)

theorem f_X1_faultAs_11_s (y1 : Int32) (y2 : Int32) (Psg : (Nat → Int32)) (Pln : Int32) (y3 : Int32) (Pat : Int32) (Pvl : Int32) (Plo : Int32) (Phi : Int32) (Pso : Int32) (Pha : Int32) (Pla : Int32) (Pgr : Int32) (Pro : Int32) (Pde : Int32) (Pdk : Int32) (Pam : Int32) (kk : Int32 × Int32 × Int32 × Int32 × Int32 × Int32 × Int32 × Int32 × Int32 × Int32 × Int32 × Int32 × Int32 → Option (Int32 × Int32 × Int32 × Int32 × Int32 × Int32 × Int32 × Int32 × Int32 × Int32 × Int32 × Int32 × Int32)) (fu : Nat) : f_X1_faultAs_11 y1 y2 Psg Pln kk (fu + 1) y3 Pat Pvl Plo Phi Pso Pha Pla Pgr Pro Pde Pdk Pam = (
    if y2 ≤ y3 then
      kk (y3, Pat, Pvl, Plo, Phi, Pso, Pha, Pla, Pgr, Pro, Pde, Pdk, Pam)
    else
      Option.bind (α := Int32 × Int32 × Int32 × Int32 × Int32 × Int32 × Int32 × Int32 × Int32 × Int32 × Int32 × Int32 × Int32) (
        if y1 = 0 then
          (f_X1_readZone Psg Pln Pat Pvl Plo Phi Pso Pha Pla Pgr Pro).bind fun r16 => some (r16.1, r16.2.1, r16.2.2.1, r16.2.2.2.1, r16.2.2.2.2.1, r16.2.2.2.2.2.1, r16.2.2.2.2.2.2.1, r16.2.2.2.2.2.2.2.1, r16.2.2.2.2.2.2.2.2.1, r16.2.2.2.2.2.2.2.2.2, Pde, Pdk, Pam)
        else
          (f_X1_readDeed Psg Pln Pat Pvl Pde Pdk Pam).bind fun r15 => some (r15.1, r15.2.1, r15.2.2.1, Plo, Phi, Pso, Pha, Pla, Pgr, Pro, r15.2.2.2.1, r15.2.2.2.2.1, r15.2.2.2.2.2)
      ) fun t6 =>
        if t6.1 = 0 then
          if t6.1 = 0 then
            some (t6.2.1, t6.2.1, t6.2.2.1, t6.2.2.2.1, t6.2.2.2.2.1, t6.2.2.2.2.2.1, t6.2.2.2.2.2.2.1, t6.2.2.2.2.2.2.2.1, t6.2.2.2.2.2.2.2.2.1, t6.2.2.2.2.2.2.2.2.2.1, t6.2.2.2.2.2.2.2.2.2.2.1, t6.2.2.2.2.2.2.2.2.2.2.2.1, t6.2.2.2.2.2.2.2.2.2.2.2.2)
          else
            (f_X1_readSign Psg Pln t6.2.1 59).bind fun r9 => if r9.1 = 0 then
              some (r9.2, r9.2, t6.2.2.1, t6.2.2.2.1, t6.2.2.2.2.1, t6.2.2.2.2.2.1, t6.2.2.2.2.2.2.1, t6.2.2.2.2.2.2.2.1, t6.2.2.2.2.2.2.2.2.1, t6.2.2.2.2.2.2.2.2.2.1, t6.2.2.2.2.2.2.2.2.2.2.1, t6.2.2.2.2.2.2.2.2.2.2.2.1, t6.2.2.2.2.2.2.2.2.2.2.2.2)
            else
              f_X1_faultAs_11 y1 y2 Psg Pln kk fu (y3 + 1) r9.2 t6.2.2.1 t6.2.2.2.1 t6.2.2.2.2.1 t6.2.2.2.2.2.1 t6.2.2.2.2.2.2.1 t6.2.2.2.2.2.2.2.1 t6.2.2.2.2.2.2.2.2.1 t6.2.2.2.2.2.2.2.2.2.1 t6.2.2.2.2.2.2.2.2.2.2.1 t6.2.2.2.2.2.2.2.2.2.2.2.1 t6.2.2.2.2.2.2.2.2.2.2.2.2
        else
          if t6.2.1 < Pln then
            if t6.1 = 0 then
              some (t6.2.1, t6.2.1, t6.2.2.1, t6.2.2.2.1, t6.2.2.2.2.1, t6.2.2.2.2.2.1, t6.2.2.2.2.2.2.1, t6.2.2.2.2.2.2.2.1, t6.2.2.2.2.2.2.2.2.1, t6.2.2.2.2.2.2.2.2.2.1, t6.2.2.2.2.2.2.2.2.2.2.1, t6.2.2.2.2.2.2.2.2.2.2.2.1, t6.2.2.2.2.2.2.2.2.2.2.2.2)
            else
              (f_X1_readSign Psg Pln t6.2.1 59).bind fun r13 => if r13.1 = 0 then
                some (r13.2, r13.2, t6.2.2.1, t6.2.2.2.1, t6.2.2.2.2.1, t6.2.2.2.2.2.1, t6.2.2.2.2.2.2.1, t6.2.2.2.2.2.2.2.1, t6.2.2.2.2.2.2.2.2.1, t6.2.2.2.2.2.2.2.2.2.1, t6.2.2.2.2.2.2.2.2.2.2.1, t6.2.2.2.2.2.2.2.2.2.2.2.1, t6.2.2.2.2.2.2.2.2.2.2.2.2)
              else
                f_X1_faultAs_11 y1 y2 Psg Pln kk fu (y3 + 1) r13.2 t6.2.2.1 t6.2.2.2.1 t6.2.2.2.2.1 t6.2.2.2.2.2.1 t6.2.2.2.2.2.2.1 t6.2.2.2.2.2.2.2.1 t6.2.2.2.2.2.2.2.2.1 t6.2.2.2.2.2.2.2.2.2.1 t6.2.2.2.2.2.2.2.2.2.2.1 t6.2.2.2.2.2.2.2.2.2.2.2.1 t6.2.2.2.2.2.2.2.2.2.2.2.2
          else
            some ((-4), t6.2.1, t6.2.2.1, t6.2.2.2.1, t6.2.2.2.2.1, t6.2.2.2.2.2.1, t6.2.2.2.2.2.2.1, t6.2.2.2.2.2.2.2.1, t6.2.2.2.2.2.2.2.2.1, t6.2.2.2.2.2.2.2.2.2.1, t6.2.2.2.2.2.2.2.2.2.2.1, t6.2.2.2.2.2.2.2.2.2.2.2.1, t6.2.2.2.2.2.2.2.2.2.2.2.2)
    ) := rfl

def f_X1_faultAs (Psg : (Nat → Int32)) (Pln : Int32) (Pat : Int32) (Pvl : Int32) (Plo : Int32) (Phi : Int32) (Pso : Int32) (Pha : Int32) (Pla : Int32) (Pgr : Int32) (Pro : Int32) (Pde : Int32) (Pdk : Int32) (Pam : Int32) (p1 : Int32) : Option (Int32 × Int32 × Int32 × Int32 × Int32 × Int32 × Int32 × Int32 × Int32 × Int32 × Int32 × Int32 × Int32) :=
  (f_X1_rewind Pat).bind fun r1 => (f_X1_items Psg Pln).bind fun r2 => f_X1_faultAs_11 p1 r2 Psg Pln (fun t17 =>
    some (t17.2.1, t17.2.1, t17.2.2.1, t17.2.2.2.1, t17.2.2.2.2.1, t17.2.2.2.2.2.1, t17.2.2.2.2.2.2.1, t17.2.2.2.2.2.2.2.1, t17.2.2.2.2.2.2.2.2.1, t17.2.2.2.2.2.2.2.2.2.1, t17.2.2.2.2.2.2.2.2.2.2.1, t17.2.2.2.2.2.2.2.2.2.2.2.1, t17.2.2.2.2.2.2.2.2.2.2.2.2)
    ) zF 0 r1 Pvl Plo Phi Pso Pha Pla Pgr Pro Pde Pdk Pam

theorem kX1_faultAs_19 : Cond.fieldLink RX1 19 "ZoneSampler$Pad" "at" "I" ∈ wsX1_faultAs := by decide +kernel
theorem kX1_faultAs_15 : Cond.fieldLink RX1 15 "ZoneSampler$Pad" "length" "I" ∈ wsX1_faultAs := by decide +kernel
theorem jX1_faultAs_X1 : ∀ w ∈ u_ws RX1 TX1 14, w ∈ wsX1_faultAs := by decide +kernel
set_option maxHeartbeats 4000000 in
set_option maxRecDepth 100000 in
theorem c_X1_faultAs (l : Launch) (G : va_G) (c3 : zT3) (oP : zR2) (BP : zPd) (p1 : Int32) {r : Int32} {Pat' : Int32} {Pvl' : Int32} {Plo' : Int32} {Phi' : Int32} {Pso' : Int32} {Pha' : Int32} {Pla' : Int32} {Pgr' : Int32} {Pro' : Int32} {Pde' : Int32} {Pdk' : Int32} {Pam' : Int32} (hf : f_X1_faultAs BP.1 BP.2.1 BP.2.2.1 BP.2.2.2.1 BP.2.2.2.2.1 BP.2.2.2.2.2.1 BP.2.2.2.2.2.2.1 BP.2.2.2.2.2.2.2.1 BP.2.2.2.2.2.2.2.2.1 BP.2.2.2.2.2.2.2.2.2.1 BP.2.2.2.2.2.2.2.2.2.2.1 BP.2.2.2.2.2.2.2.2.2.2.2.1 BP.2.2.2.2.2.2.2.2.2.2.2.2.1 BP.2.2.2.2.2.2.2.2.2.2.2.2.2 p1 = some (r, Pat', Pvl', Plo', Phi', Pso', Pha', Pla', Pgr', Pro', Pde', Pdk', Pam')) : zM l yX1_faultAs wsX1_faultAs ⟨4, 0, 0, 94⟩ G c3 (zwP c3.2.1 oP (BP.1, BP.2.1, BP.2.2.1, BP.2.2.2.1, BP.2.2.2.2.1, BP.2.2.2.2.2.1, BP.2.2.2.2.2.2.1, BP.2.2.2.2.2.2.2.1, BP.2.2.2.2.2.2.2.2.1, BP.2.2.2.2.2.2.2.2.2.1, BP.2.2.2.2.2.2.2.2.2.2.1, BP.2.2.2.2.2.2.2.2.2.2.2.1, BP.2.2.2.2.2.2.2.2.2.2.2.2.1, BP.2.2.2.2.2.2.2.2.2.2.2.2.2)) [.ref oP.1, .int p1] (some (.int r)) (zwP c3.2.1 oP (BP.1, BP.2.1, Pat', Pvl', Plo', Phi', Pso', Pha', Pla', Pgr', Pro', Pde', Pdk', Pam')) := by
  obtain ⟨Psg, Pln, Pat, Pvl, Plo, Phi, Pso, Pha, Pla, Pgr, Pro, Pde, Pdk, Pam⟩ := BP
  have hf : f_X1_faultAs Psg Pln Pat Pvl Plo Phi Pso Pha Pla Pgr Pro Pde Pdk Pam p1 = some (r, Pat', Pvl', Plo', Phi', Pso', Pha', Pla', Pgr', Pro', Pde', Pdk', Pam') := hf
  show zM l yX1_faultAs wsX1_faultAs ⟨4, 0, 0, 94⟩ G c3 (zwP c3.2.1 oP (Psg, Pln, Pat, Pvl, Plo, Phi, Pso, Pha, Pla, Pgr, Pro, Pde, Pdk, Pam)) [.ref oP.1, .int p1] (some (.int r)) (zwP c3.2.1 oP (Psg, Pln, Pat', Pvl', Plo', Phi', Pso', Pha', Pla', Pgr', Pro', Pde', Pdk', Pam'))
  refine zM.of (cc := cX1_faultAs) (maxL := 5) (ret := (some .int)) (by decide) rfl (Nat.le_of_ble_eq_true rfl) ?_
  intro p e s m args below meth c A ls S0 hr hlk hC hl
  have S0 : CallFix p m c cX1_faultAs 5 s args wsX1_faultAs RX1 := S0
  have hl : lv_has ls 5 [(0, .ref oP.1), (1, .int p1)] := hl
  have hx := S0.1
  have hb := S0.2.1
  obtain ⟨H, hH⟩ : ∃ y, y = s.heap := ⟨_, rfl⟩
  rw [← hH] at hC ⊢
  obtain ⟨locs, hlo⟩ : ∃ y : List Loc, y = [] := ⟨_, rfl⟩
  rw [← hlo] at hC ⊢
  clear hH hlo
  unfold f_X1_faultAs at hf
  refine lv_aload_n hx hb dX1_faultAs_0 rfl (lv_at hl 0 rfl) ?_
  obtain ⟨r1, hr1, hf⟩ := z_bind hf
  refine z_callv (z_runV (n := 0) (rest := []) (As := []) S0 hC (c_X1_rewind l G c3 oP (Psg, Pln, Pat, Pvl, Plo, Phi, Pso, Pha, Pla, Pgr, Pro, Pde, Pdk, Pam) hr1) [0, 1] (by decide) rfl gX1_faultAs_X1_rewind rfl rfl rfl (by decide +kernel) ⟨Nat.le_of_ble_eq_true rfl, Nat.le_of_ble_eq_true rfl⟩ (ci := 1) (q0 := 0) rfl rfl rfl hl.1 rfl (Nat.le_of_ble_eq_true rfl) dX1_faultAs_1) hC [0, 1] [] [0, 1] rfl (wr := ([] : va_W)) rfl (by decide) (by decide) (ws2 := (zwP c3.2.1 oP (Psg, Pln, r1, Pvl, Plo, Phi, Pso, Pha, Pla, Pgr, Pro, Pde, Pdk, Pam))) rfl (by decide) (fun H locs hC => ?_)
  refine lv_aload_n hx hb dX1_faultAs_4 rfl (lv_at hl 0 rfl) ?_
  obtain ⟨r2, hr2, hf⟩ := z_bind hf
  refine z_callPi (z_runV (n := 0) (rest := []) (As := []) S0 hC (c_X1_items l G c3 oP (Psg, Pln, r1, Pvl, Plo, Phi, Pso, Pha, Pla, Pgr, Pro, Pde, Pdk, Pam) hr2) [0, 1] (by decide) rfl gX1_faultAs_X1_items rfl rfl rfl (by decide +kernel) ⟨Nat.le_of_ble_eq_true rfl, Nat.le_of_ble_eq_true rfl⟩ (ci := 1) (q0 := 0) rfl rfl rfl hl.1 rfl (Nat.le_of_ble_eq_true rfl) dX1_faultAs_5) hC [0, 1] rfl (fun H locs hC => ?_)
  refine lv_istore_n (lv' := [(2, .int r2), (0, .ref oP.1), (1, .int p1)]) hx hb dX1_faultAs_8 rfl hl (by decide) rfl (fun ls hl => ?_)
  refine lv_iconst (v := 0) hx hb dX1_faultAs_9 (by decide) ?_
  refine lv_istore_n (lv' := [(3, .int 0), (2, .int r2), (0, .ref oP.1), (1, .int p1)]) hx hb dX1_faultAs_10 rfl hl (by decide) rfl (fun ls hl => ?_)
  have L11 : ∀ (fu : Nat) (y1 : Int32) (y2 : Int32) (y3 : Int32) (Psg : (Nat → Int32)) (Pln : Int32) (Pat : Int32) (Pvl : Int32) (Plo : Int32) (Phi : Int32) (Pso : Int32) (Pha : Int32) (Pla : Int32) (Pgr : Int32) (Pro : Int32) (Pde : Int32) (Pdk : Int32) (Pam : Int32) (kk : Int32 × Int32 × Int32 × Int32 × Int32 × Int32 × Int32 × Int32 × Int32 × Int32 × Int32 × Int32 × Int32 → Option (Int32 × Int32 × Int32 × Int32 × Int32 × Int32 × Int32 × Int32 × Int32 × Int32 × Int32 × Int32 × Int32)), (∀ tt, kk tt = some (r, Pat', Pvl', Plo', Phi', Pso', Pha', Pla', Pgr', Pro', Pde', Pdk', Pam') → ∀ (H : Heap) (locs : List Loc) (ls : Array Slot), zC G c3 A s (zwP c3.2.1 oP (Psg, Pln, tt.2.1, tt.2.2.1, tt.2.2.2.1, tt.2.2.2.2.1, tt.2.2.2.2.2.1, tt.2.2.2.2.2.2.1, tt.2.2.2.2.2.2.2.1, tt.2.2.2.2.2.2.2.2.1, tt.2.2.2.2.2.2.2.2.2.1, tt.2.2.2.2.2.2.2.2.2.2.1, tt.2.2.2.2.2.2.2.2.2.2.2.1, tt.2.2.2.2.2.2.2.2.2.2.2.2)) H locs → lv_has ls 5 [(0, .ref oP.1), (1, .int y1), (2, .int y2), (3, .int tt.1)] → W p l e ⟨4, 0, 0, 94⟩ s m args below meth c H locs 0 0 (MQ below (zPost G (zwP c3.2.1 oP (Psg, Pln, Pat', Pvl', Plo', Phi', Pso', Pha', Pla', Pgr', Pro', Pde', Pdk', Pam')) (some (.int r)) A) args s 0 0 A) (F0 m 77 ls [])) → f_X1_faultAs_11 y1 y2 Psg Pln kk fu y3 Pat Pvl Plo Phi Pso Pha Pla Pgr Pro Pde Pdk Pam = some (r, Pat', Pvl', Plo', Phi', Pso', Pha', Pla', Pgr', Pro', Pde', Pdk', Pam') → ∀ (H : Heap) (locs : List Loc) (ls : Array Slot), zC G c3 A s (zwP c3.2.1 oP (Psg, Pln, Pat, Pvl, Plo, Phi, Pso, Pha, Pla, Pgr, Pro, Pde, Pdk, Pam)) H locs → lv_has ls 5 [(0, .ref oP.1), (1, .int y1), (2, .int y2), (3, .int y3)] → W p l e ⟨4, 0, 0, 94⟩ s m args below meth c H locs 0 0 (MQ below (zPost G (zwP c3.2.1 oP (Psg, Pln, Pat', Pvl', Plo', Phi', Pso', Pha', Pla', Pgr', Pro', Pde', Pdk', Pam')) (some (.int r)) A) args s 0 0 A) (F0 m 11 ls []) := by
    intro fu
    induction fu with
    | zero =>
      intro y1 y2 y3 Psg Pln Pat Pvl Plo Phi Pso Pha Pla Pgr Pro Pde Pdk Pam kk hk hf H locs ls hC hl
      exact (z_none hf).elim
    | succ fu ih11 =>
      intro y1 y2 y3 Psg Pln Pat Pvl Plo Phi Pso Pha Pla Pgr Pro Pde Pdk Pam kk hk hf H locs ls hC hl
      replace hf := (f_X1_faultAs_11_s y1 y2 Psg Pln y3 Pat Pvl Plo Phi Pso Pha Pla Pgr Pro Pde Pdk Pam kk fu).symm.trans hf
      refine lv_iload_n hx hb dX1_faultAs_11 rfl (lv_at hl 3 rfl) ?_
      refine lv_iload_n hx hb dX1_faultAs_12 rfl (lv_at hl 2 rfl) ?_
      refine lv_icmp_ge (tgt := 77) hx hb dX1_faultAs_13 (by decide) (fun cd4 => ?_) (fun cd4 => ?_)
      · replace hf := z_pos cd4 hf
        exact hk (y3, Pat, Pvl, Plo, Phi, Pso, Pha, Pla, Pgr, Pro, Pde, Pdk, Pam) hf H locs ls hC (lv_sub hl [0, 1, 2, 3] rfl)
      · replace hf := z_neg cd4 hf
        refine lv_iload_n hx hb dX1_faultAs_16 rfl (lv_at hl 1 rfl) ?_
        obtain ⟨t6, ht6, hf⟩ := z_bind hf
        have Jt6 : ∀ (H : Heap) (locs : List Loc) (ls : Array Slot), zC G c3 A s (zwP c3.2.1 oP (Psg, Pln, t6.2.1, t6.2.2.1, t6.2.2.2.1, t6.2.2.2.2.1, t6.2.2.2.2.2.1, t6.2.2.2.2.2.2.1, t6.2.2.2.2.2.2.2.1, t6.2.2.2.2.2.2.2.2.1, t6.2.2.2.2.2.2.2.2.2.1, t6.2.2.2.2.2.2.2.2.2.2.1, t6.2.2.2.2.2.2.2.2.2.2.2.1, t6.2.2.2.2.2.2.2.2.2.2.2.2)) H locs → lv_has ls 5 [(0, .ref oP.1), (1, .int y1), (2, .int y2), (3, .int y3)] → W p l e ⟨4, 0, 0, 94⟩ s m args below meth c H locs 0 0 (MQ below (zPost G (zwP c3.2.1 oP (Psg, Pln, Pat', Pvl', Plo', Phi', Pso', Pha', Pla', Pgr', Pro', Pde', Pdk', Pam')) (some (.int r)) A) args s 0 0 A) (F0 m 31 ls [.int t6.1]) := by
          intro H locs ls hC hl
          refine lv_istore (lv' := [(4, .int t6.1), (0, .ref oP.1), (1, .int y1), (2, .int y2), (3, .int y3)]) hx hb dX1_faultAs_31 hl (by decide) rfl (fun ls hl => ?_)
          refine lv_iload hx hb dX1_faultAs_33 (lv_at hl 0 rfl) ?_
          refine lv_if_eq (tgt := 52) hx hb dX1_faultAs_35 (by decide) (fun cd7 => ?_) (fun cd7 => ?_)
          · replace hf := z_pos cd7 hf
            refine lv_iload hx hb dX1_faultAs_52 (lv_at hl 0 rfl) ?_
            refine lv_if_eq (tgt := 66) hx hb dX1_faultAs_54 (by decide) (fun cd8 => ?_) (fun cd8 => ?_)
            · replace hf := z_pos cd8 hf
              refine lv_aload_n hx hb dX1_faultAs_66 rfl (lv_at hl 1 rfl) ?_
              refine z_get S0 hC (ci := 1) (C := RX1) (T := TX1) (N := 14) (v := .int t6.2.1) jX1_faultAs_X1 0 rfl rfl 2 (by decide) kX1_faultAs_19 rfl rfl dX1_faultAs_67 ?_
              obtain ⟨e1, e2, e3, e4, e5, e6, e7, e8, e9, e10, e11, e12, e13⟩ := z_s13 hf
              subst e1
              subst e2
              subst e3
              subst e4
              subst e5
              subst e6
              subst e7
              subst e8
              subst e9
              subst e10
              subst e11
              subst e12
              subst e13
              exact z_iret S0 hr hlk hC dX1_faultAs_70
            · replace hf := z_neg cd8 hf
              refine lv_aload_n hx hb dX1_faultAs_57 rfl (lv_at hl 1 rfl) ?_
              refine lv_bipush (v := 59) hx hb dX1_faultAs_58 (by decide) ?_
              obtain ⟨r9, hr9, hf⟩ := z_bind hf
              refine z_calli (z_runV (n := 1) (rest := []) (As := [.int 59]) S0 hC (c_X1_readSign l G c3 oP (Psg, Pln, t6.2.1, t6.2.2.1, t6.2.2.2.1, t6.2.2.2.2.1, t6.2.2.2.2.2.1, t6.2.2.2.2.2.2.1, t6.2.2.2.2.2.2.2.1, t6.2.2.2.2.2.2.2.2.1, t6.2.2.2.2.2.2.2.2.2.1, t6.2.2.2.2.2.2.2.2.2.2.1, t6.2.2.2.2.2.2.2.2.2.2.2.1, t6.2.2.2.2.2.2.2.2.2.2.2.2) 59 hr9) [0, 1] (by decide) rfl gX1_faultAs_X1_readSign rfl rfl rfl (by decide +kernel) ⟨Nat.le_of_ble_eq_true rfl, Nat.le_of_ble_eq_true rfl⟩ (ci := 1) (q0 := 0) rfl rfl rfl hl.1 rfl (Nat.le_of_ble_eq_true rfl) dX1_faultAs_60) hC [0, 1] [] [0, 1] rfl (wr := ([] : va_W)) rfl (by decide) (by decide) (ws2 := (zwP c3.2.1 oP (Psg, Pln, r9.2, t6.2.2.1, t6.2.2.2.1, t6.2.2.2.2.1, t6.2.2.2.2.2.1, t6.2.2.2.2.2.2.1, t6.2.2.2.2.2.2.2.1, t6.2.2.2.2.2.2.2.2.1, t6.2.2.2.2.2.2.2.2.2.1, t6.2.2.2.2.2.2.2.2.2.2.1, t6.2.2.2.2.2.2.2.2.2.2.2.1, t6.2.2.2.2.2.2.2.2.2.2.2.2))) rfl (by decide) (fun H locs hC => ?_)
              refine lv_if_ne (tgt := 71) hx hb dX1_faultAs_63 (by decide) (fun cd10 => ?_) (fun cd10 => ?_)
              · replace hf := z_neg cd10 hf
                refine lv_iinc (v := (y3 + 1)) (lv' := [(3, .int (y3 + 1)), (4, .int t6.1), (0, .ref oP.1), (1, .int y1), (2, .int y2)]) hx hb dX1_faultAs_71 hl (k := 4) rfl rfl (by decide) rfl (fun ls hl => ?_)
                refine lv_goto (tgt := 11) hx hb dX1_faultAs_74 (by decide) ?_
                exact ih11 y1 y2 (y3 + 1) Psg Pln r9.2 t6.2.2.1 t6.2.2.2.1 t6.2.2.2.2.1 t6.2.2.2.2.2.1 t6.2.2.2.2.2.2.1 t6.2.2.2.2.2.2.2.1 t6.2.2.2.2.2.2.2.2.1 t6.2.2.2.2.2.2.2.2.2.1 t6.2.2.2.2.2.2.2.2.2.2.1 t6.2.2.2.2.2.2.2.2.2.2.2.1 t6.2.2.2.2.2.2.2.2.2.2.2.2 kk hk hf H locs ls hC (lv_sub hl [2, 3, 4, 0] rfl)
              · replace hf := z_pos cd10 hf
                refine lv_aload_n hx hb dX1_faultAs_66 rfl (lv_at hl 1 rfl) ?_
                refine z_get S0 hC (ci := 1) (C := RX1) (T := TX1) (N := 14) (v := .int r9.2) jX1_faultAs_X1 0 rfl rfl 2 (by decide) kX1_faultAs_19 rfl rfl dX1_faultAs_67 ?_
                obtain ⟨e1, e2, e3, e4, e5, e6, e7, e8, e9, e10, e11, e12, e13⟩ := z_s13 hf
                subst e1
                subst e2
                subst e3
                subst e4
                subst e5
                subst e6
                subst e7
                subst e8
                subst e9
                subst e10
                subst e11
                subst e12
                subst e13
                exact z_iret S0 hr hlk hC dX1_faultAs_70
          · replace hf := z_neg cd7 hf
            refine lv_aload_n hx hb dX1_faultAs_38 rfl (lv_at hl 1 rfl) ?_
            refine z_get S0 hC (ci := 1) (C := RX1) (T := TX1) (N := 14) (v := .int t6.2.1) jX1_faultAs_X1 0 rfl rfl 2 (by decide) kX1_faultAs_19 rfl rfl dX1_faultAs_39 ?_
            refine lv_aload_n hx hb dX1_faultAs_42 rfl (lv_at hl 1 rfl) ?_
            refine z_get S0 hC (ci := 1) (C := RX1) (T := TX1) (N := 14) (v := .int Pln) jX1_faultAs_X1 0 rfl rfl 1 (by decide) kX1_faultAs_15 rfl rfl dX1_faultAs_43 ?_
            refine lv_icmp_lt (tgt := 52) hx hb dX1_faultAs_46 (by decide) (fun cd11 => ?_) (fun cd11 => ?_)
            · replace hf := z_pos cd11 hf
              refine lv_iload hx hb dX1_faultAs_52 (lv_at hl 0 rfl) ?_
              refine lv_if_eq (tgt := 66) hx hb dX1_faultAs_54 (by decide) (fun cd12 => ?_) (fun cd12 => ?_)
              · replace hf := z_pos cd12 hf
                refine lv_aload_n hx hb dX1_faultAs_66 rfl (lv_at hl 1 rfl) ?_
                refine z_get S0 hC (ci := 1) (C := RX1) (T := TX1) (N := 14) (v := .int t6.2.1) jX1_faultAs_X1 0 rfl rfl 2 (by decide) kX1_faultAs_19 rfl rfl dX1_faultAs_67 ?_
                obtain ⟨e1, e2, e3, e4, e5, e6, e7, e8, e9, e10, e11, e12, e13⟩ := z_s13 hf
                subst e1
                subst e2
                subst e3
                subst e4
                subst e5
                subst e6
                subst e7
                subst e8
                subst e9
                subst e10
                subst e11
                subst e12
                subst e13
                exact z_iret S0 hr hlk hC dX1_faultAs_70
              · replace hf := z_neg cd12 hf
                refine lv_aload_n hx hb dX1_faultAs_57 rfl (lv_at hl 1 rfl) ?_
                refine lv_bipush (v := 59) hx hb dX1_faultAs_58 (by decide) ?_
                obtain ⟨r13, hr13, hf⟩ := z_bind hf
                refine z_calli (z_runV (n := 1) (rest := []) (As := [.int 59]) S0 hC (c_X1_readSign l G c3 oP (Psg, Pln, t6.2.1, t6.2.2.1, t6.2.2.2.1, t6.2.2.2.2.1, t6.2.2.2.2.2.1, t6.2.2.2.2.2.2.1, t6.2.2.2.2.2.2.2.1, t6.2.2.2.2.2.2.2.2.1, t6.2.2.2.2.2.2.2.2.2.1, t6.2.2.2.2.2.2.2.2.2.2.1, t6.2.2.2.2.2.2.2.2.2.2.2.1, t6.2.2.2.2.2.2.2.2.2.2.2.2) 59 hr13) [0, 1] (by decide) rfl gX1_faultAs_X1_readSign rfl rfl rfl (by decide +kernel) ⟨Nat.le_of_ble_eq_true rfl, Nat.le_of_ble_eq_true rfl⟩ (ci := 1) (q0 := 0) rfl rfl rfl hl.1 rfl (Nat.le_of_ble_eq_true rfl) dX1_faultAs_60) hC [0, 1] [] [0, 1] rfl (wr := ([] : va_W)) rfl (by decide) (by decide) (ws2 := (zwP c3.2.1 oP (Psg, Pln, r13.2, t6.2.2.1, t6.2.2.2.1, t6.2.2.2.2.1, t6.2.2.2.2.2.1, t6.2.2.2.2.2.2.1, t6.2.2.2.2.2.2.2.1, t6.2.2.2.2.2.2.2.2.1, t6.2.2.2.2.2.2.2.2.2.1, t6.2.2.2.2.2.2.2.2.2.2.1, t6.2.2.2.2.2.2.2.2.2.2.2.1, t6.2.2.2.2.2.2.2.2.2.2.2.2))) rfl (by decide) (fun H locs hC => ?_)
                refine lv_if_ne (tgt := 71) hx hb dX1_faultAs_63 (by decide) (fun cd14 => ?_) (fun cd14 => ?_)
                · replace hf := z_neg cd14 hf
                  refine lv_iinc (v := (y3 + 1)) (lv' := [(3, .int (y3 + 1)), (4, .int t6.1), (0, .ref oP.1), (1, .int y1), (2, .int y2)]) hx hb dX1_faultAs_71 hl (k := 4) rfl rfl (by decide) rfl (fun ls hl => ?_)
                  refine lv_goto (tgt := 11) hx hb dX1_faultAs_74 (by decide) ?_
                  exact ih11 y1 y2 (y3 + 1) Psg Pln r13.2 t6.2.2.1 t6.2.2.2.1 t6.2.2.2.2.1 t6.2.2.2.2.2.1 t6.2.2.2.2.2.2.1 t6.2.2.2.2.2.2.2.1 t6.2.2.2.2.2.2.2.2.1 t6.2.2.2.2.2.2.2.2.2.1 t6.2.2.2.2.2.2.2.2.2.2.1 t6.2.2.2.2.2.2.2.2.2.2.2.1 t6.2.2.2.2.2.2.2.2.2.2.2.2 kk hk hf H locs ls hC (lv_sub hl [2, 3, 4, 0] rfl)
                · replace hf := z_pos cd14 hf
                  refine lv_aload_n hx hb dX1_faultAs_66 rfl (lv_at hl 1 rfl) ?_
                  refine z_get S0 hC (ci := 1) (C := RX1) (T := TX1) (N := 14) (v := .int r13.2) jX1_faultAs_X1 0 rfl rfl 2 (by decide) kX1_faultAs_19 rfl rfl dX1_faultAs_67 ?_
                  obtain ⟨e1, e2, e3, e4, e5, e6, e7, e8, e9, e10, e11, e12, e13⟩ := z_s13 hf
                  subst e1
                  subst e2
                  subst e3
                  subst e4
                  subst e5
                  subst e6
                  subst e7
                  subst e8
                  subst e9
                  subst e10
                  subst e11
                  subst e12
                  subst e13
                  exact z_iret S0 hr hlk hC dX1_faultAs_70
            · replace hf := z_neg cd11 hf
              refine lv_bipush (v := (-4)) hx hb dX1_faultAs_49 (by decide) ?_
              obtain ⟨e1, e2, e3, e4, e5, e6, e7, e8, e9, e10, e11, e12, e13⟩ := z_s13 hf
              subst e1
              subst e2
              subst e3
              subst e4
              subst e5
              subst e6
              subst e7
              subst e8
              subst e9
              subst e10
              subst e11
              subst e12
              subst e13
              exact z_iret S0 hr hlk hC dX1_faultAs_51
        refine lv_if_ne (tgt := 27) hx hb dX1_faultAs_17 (by decide) (fun cd5 => ?_) (fun cd5 => ?_)
        · replace ht6 := z_neg cd5 ht6
          refine lv_aload_n hx hb dX1_faultAs_27 rfl (lv_at hl 0 rfl) ?_
          obtain ⟨r15, hr15, ht6⟩ := z_bind ht6
          refine z_calli (z_runV (n := 0) (rest := []) (As := []) S0 hC (c_X1_readDeed l G c3 oP (Psg, Pln, Pat, Pvl, Plo, Phi, Pso, Pha, Pla, Pgr, Pro, Pde, Pdk, Pam) hr15) [0, 1] (by decide) rfl gX1_faultAs_X1_readDeed rfl rfl rfl (by decide +kernel) ⟨Nat.le_of_ble_eq_true rfl, Nat.le_of_ble_eq_true rfl⟩ (ci := 1) (q0 := 0) rfl rfl rfl hl.1 rfl (Nat.le_of_ble_eq_true rfl) dX1_faultAs_28) hC [0, 1] [] [0, 1] rfl (wr := ([] : va_W)) rfl (by decide) (by decide) (ws2 := (zwP c3.2.1 oP (Psg, Pln, r15.2.1, r15.2.2.1, Plo, Phi, Pso, Pha, Pla, Pgr, Pro, r15.2.2.2.1, r15.2.2.2.2.1, r15.2.2.2.2.2))) rfl (by decide) (fun H locs hC => ?_)
          have e1 := z_s1 ht6
          subst e1
          exact Jt6 H locs ls hC (lv_sub hl [0, 1, 2, 3] rfl)
        · replace ht6 := z_pos cd5 ht6
          refine lv_aload_n hx hb dX1_faultAs_20 rfl (lv_at hl 0 rfl) ?_
          obtain ⟨r16, hr16, ht6⟩ := z_bind ht6
          refine z_calli (z_runV (n := 0) (rest := []) (As := []) S0 hC (c_X1_readZone l G c3 oP (Psg, Pln, Pat, Pvl, Plo, Phi, Pso, Pha, Pla, Pgr, Pro, Pde, Pdk, Pam) hr16) [0, 1] (by decide) rfl gX1_faultAs_X1_readZone rfl rfl rfl (by decide +kernel) ⟨Nat.le_of_ble_eq_true rfl, Nat.le_of_ble_eq_true rfl⟩ (ci := 1) (q0 := 0) rfl rfl rfl hl.1 rfl (Nat.le_of_ble_eq_true rfl) dX1_faultAs_21) hC [0, 1] [] [0, 1] rfl (wr := ([] : va_W)) rfl (by decide) (by decide) (ws2 := (zwP c3.2.1 oP (Psg, Pln, r16.2.1, r16.2.2.1, r16.2.2.2.1, r16.2.2.2.2.1, r16.2.2.2.2.2.1, r16.2.2.2.2.2.2.1, r16.2.2.2.2.2.2.2.1, r16.2.2.2.2.2.2.2.2.1, r16.2.2.2.2.2.2.2.2.2, Pde, Pdk, Pam))) rfl (by decide) (fun H locs hC => ?_)
          refine lv_goto (tgt := 31) hx hb dX1_faultAs_24 (by decide) ?_
          have e1 := z_s1 ht6
          subst e1
          exact Jt6 H locs ls hC (lv_sub hl [0, 1, 2, 3] rfl)
  refine L11 zF p1 r2 0 Psg Pln r1 Pvl Plo Phi Pso Pha Pla Pgr Pro Pde Pdk Pam _ (fun t17 hf H locs ls hC hl => ?_) hf H locs ls hC (lv_sub hl [2, 3, 1, 0] rfl)
  refine lv_aload_n hx hb dX1_faultAs_77 rfl (lv_at hl 0 rfl) ?_
  refine z_get S0 hC (ci := 1) (C := RX1) (T := TX1) (N := 14) (v := .int t17.2.1) jX1_faultAs_X1 0 rfl rfl 2 (by decide) kX1_faultAs_19 rfl rfl dX1_faultAs_78 ?_
  obtain ⟨e1, e2, e3, e4, e5, e6, e7, e8, e9, e10, e11, e12, e13⟩ := z_s13 hf
  subst e1
  subst e2
  subst e3
  subst e4
  subst e5
  subst e6
  subst e7
  subst e8
  subst e9
  subst e10
  subst e11
  subst e12
  subst e13
  exact z_iret S0 hr hlk hC dX1_faultAs_81
