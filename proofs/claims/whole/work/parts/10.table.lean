-- X4 rows
def f_X4_rows (nT : Nat) (Tr : Int32) : Option (Int32) :=
  some (Tr)

theorem kX4_rows_17 : Cond.fieldLink RX4 17 "ZoneSampler$Table" "rows" "I" ∈ wsX4_rows := by decide +kernel
theorem jX4_rows_X4 : ∀ w ∈ u_ws RX4 TX4 3, w ∈ wsX4_rows := by decide +kernel
set_option maxHeartbeats 4000000 in
set_option maxRecDepth 100000 in
theorem c_X4_rows (l : Launch) (G : va_G) (c3 : zT3) (oT : zR2) (nT : Nat) (BT : zTb) {r : Int32} (hf : f_X4_rows nT BT.1 = some (r)) : zM l yX4_rows wsX4_rows ⟨0, 0, 0, 0⟩ G c3 (zwT c3.1 nT oT (BT.1, BT.2)) [.ref oT.1] (some (.int r)) (zwT c3.1 nT oT (BT.1, BT.2)) := by
  obtain ⟨Tr, Tf⟩ := BT
  have hf : f_X4_rows nT Tr = some (r) := hf
  show zM l yX4_rows wsX4_rows ⟨0, 0, 0, 0⟩ G c3 (zwT c3.1 nT oT (Tr, Tf)) [.ref oT.1] (some (.int r)) (zwT c3.1 nT oT (Tr, Tf))
  refine zM.of (cc := cX4_rows) (maxL := 1) (ret := (some .int)) (by decide) rfl (Nat.le_of_ble_eq_true rfl) ?_
  intro p e s m args below meth c A ls S0 hr hlk hC hl
  have S0 : CallFix p m c cX4_rows 1 s args wsX4_rows RX4 := S0
  have hl : lv_has ls 1 [(0, .ref oT.1)] := hl
  have hx := S0.1
  have hb := S0.2.1
  obtain ⟨H, hH⟩ : ∃ y, y = s.heap := ⟨_, rfl⟩
  rw [← hH] at hC ⊢
  obtain ⟨locs, hlo⟩ : ∃ y : List Loc, y = [] := ⟨_, rfl⟩
  rw [← hlo] at hC ⊢
  clear hH hlo
  unfold f_X4_rows at hf
  refine lv_aload_n hx hb dX4_rows_0 rfl (lv_at hl 0 rfl) ?_
  refine z_get S0 hC (ci := 4) (C := RX4) (T := TX4) (N := 3) (v := .int Tr) jX4_rows_X4 0 rfl rfl 2 (by decide) kX4_rows_17 rfl rfl dX4_rows_1 ?_
  have e1 := z_s1 hf
  subst e1
  exact z_iret S0 hr hlk hC dX4_rows_4

-- X4 has
def f_X4_has (nT : Nat) (Tr : Int32) (p1 : Int32) : Option (Int32) :=
  if p1 < 0 then
    some (0)
  else
    if Tr ≤ p1 then
      some (0)
    else
      some (1)

theorem kX4_has_17 : Cond.fieldLink RX4 17 "ZoneSampler$Table" "rows" "I" ∈ wsX4_has := by decide +kernel
theorem jX4_has_X4 : ∀ w ∈ u_ws RX4 TX4 3, w ∈ wsX4_has := by decide +kernel
set_option maxHeartbeats 4000000 in
set_option maxRecDepth 100000 in
theorem c_X4_has (l : Launch) (G : va_G) (c3 : zT3) (oT : zR2) (nT : Nat) (BT : zTb) (p1 : Int32) {r : Int32} (hf : f_X4_has nT BT.1 p1 = some (r)) : zM l yX4_has wsX4_has ⟨0, 0, 0, 0⟩ G c3 (zwT c3.1 nT oT (BT.1, BT.2)) [.ref oT.1, .int p1] (some (.int r)) (zwT c3.1 nT oT (BT.1, BT.2)) := by
  obtain ⟨Tr, Tf⟩ := BT
  have hf : f_X4_has nT Tr p1 = some (r) := hf
  show zM l yX4_has wsX4_has ⟨0, 0, 0, 0⟩ G c3 (zwT c3.1 nT oT (Tr, Tf)) [.ref oT.1, .int p1] (some (.int r)) (zwT c3.1 nT oT (Tr, Tf))
  refine zM.of (cc := cX4_has) (maxL := 2) (ret := (some .boolean)) (by decide) rfl (Nat.le_of_ble_eq_true rfl) ?_
  intro p e s m args below meth c A ls S0 hr hlk hC hl
  have S0 : CallFix p m c cX4_has 2 s args wsX4_has RX4 := S0
  have hl : lv_has ls 2 [(0, .ref oT.1), (1, .int p1)] := hl
  have hx := S0.1
  have hb := S0.2.1
  obtain ⟨H, hH⟩ : ∃ y, y = s.heap := ⟨_, rfl⟩
  rw [← hH] at hC ⊢
  obtain ⟨locs, hlo⟩ : ∃ y : List Loc, y = [] := ⟨_, rfl⟩
  rw [← hlo] at hC ⊢
  clear hH hlo
  unfold f_X4_has at hf
  refine lv_iload_n hx hb dX4_has_0 rfl (lv_at hl 1 rfl) ?_
  refine lv_if_lt (tgt := 16) hx hb dX4_has_1 (by decide) (fun cd1 => ?_) (fun cd1 => ?_)
  · replace hf := z_pos cd1 hf
    refine lv_iconst (v := 0) hx hb dX4_has_16 (by decide) ?_
    have e1 := z_s1 hf
    subst e1
    exact z_zret S0 hr hlk rfl hC dX4_has_17
  · replace hf := z_neg cd1 hf
    refine lv_iload_n hx hb dX4_has_4 rfl (lv_at hl 1 rfl) ?_
    refine lv_aload_n hx hb dX4_has_5 rfl (lv_at hl 0 rfl) ?_
    refine z_get S0 hC (ci := 4) (C := RX4) (T := TX4) (N := 3) (v := .int Tr) jX4_has_X4 0 rfl rfl 2 (by decide) kX4_has_17 rfl rfl dX4_has_6 ?_
    refine lv_icmp_ge (tgt := 16) hx hb dX4_has_9 (by decide) (fun cd2 => ?_) (fun cd2 => ?_)
    · replace hf := z_pos cd2 hf
      refine lv_iconst (v := 0) hx hb dX4_has_16 (by decide) ?_
      have e1 := z_s1 hf
      subst e1
      exact z_zret S0 hr hlk rfl hC dX4_has_17
    · replace hf := z_neg cd2 hf
      refine lv_iconst (v := 1) hx hb dX4_has_12 (by decide) ?_
      refine lv_goto (tgt := 17) hx hb dX4_has_13 (by decide) ?_
      have e1 := z_s1 hf
      subst e1
      exact z_zret S0 hr hlk rfl hC dX4_has_17

-- X4 get
def f_X4_get (nT : Nat) (Tr : Int32) (Tf : (Nat → Int32)) (p1 : Int32) (p2 : Int32) : Option (Int32) :=
  if p1 < 0 then
    some (0)
  else
    if Tr ≤ p1 then
      some (0)
    else
      if p2 < 0 then
        some (0)
      else
        if p2 < 7 then
          if (Int32.ofNat nT) ≤ ((p1 * 7) + p2) then
            some (0)
          else
            (zald nT Tf ((p1 * 7) + p2)).bind fun x6 => some (x6)
        else
          some (0)

theorem kX4_get_17 : Cond.fieldLink RX4 17 "ZoneSampler$Table" "rows" "I" ∈ wsX4_get := by decide +kernel
theorem kX4_get_7 : Cond.fieldLink RX4 7 "ZoneSampler$Table" "width" "I" ∈ wsX4_get := by decide +kernel
theorem kX4_get_13 : Cond.fieldLink RX4 13 "ZoneSampler$Table" "cells" "[I" ∈ wsX4_get := by decide +kernel
theorem jX4_get_X4 : ∀ w ∈ u_ws RX4 TX4 3, w ∈ wsX4_get := by decide +kernel
set_option maxHeartbeats 4000000 in
set_option maxRecDepth 100000 in
theorem c_X4_get (l : Launch) (G : va_G) (c3 : zT3) (oT : zR2) (nT : Nat) (BT : zTb) (p1 : Int32) (p2 : Int32) {r : Int32} (hf : f_X4_get nT BT.1 BT.2 p1 p2 = some (r)) : zM l yX4_get wsX4_get ⟨0, 0, 0, 0⟩ G c3 (zwT c3.1 nT oT (BT.1, BT.2)) [.ref oT.1, .int p1, .int p2] (some (.int r)) (zwT c3.1 nT oT (BT.1, BT.2)) := by
  obtain ⟨Tr, Tf⟩ := BT
  have hf : f_X4_get nT Tr Tf p1 p2 = some (r) := hf
  show zM l yX4_get wsX4_get ⟨0, 0, 0, 0⟩ G c3 (zwT c3.1 nT oT (Tr, Tf)) [.ref oT.1, .int p1, .int p2] (some (.int r)) (zwT c3.1 nT oT (Tr, Tf))
  refine zM.of (cc := cX4_get) (maxL := 4) (ret := (some .int)) (by decide) rfl (Nat.le_of_ble_eq_true rfl) ?_
  intro p e s m args below meth c A ls S0 hr hlk hC hl
  have S0 : CallFix p m c cX4_get 4 s args wsX4_get RX4 := S0
  have hl : lv_has ls 4 [(0, .ref oT.1), (1, .int p1), (2, .int p2)] := hl
  have hx := S0.1
  have hb := S0.2.1
  obtain ⟨H, hH⟩ : ∃ y, y = s.heap := ⟨_, rfl⟩
  rw [← hH] at hC ⊢
  obtain ⟨locs, hlo⟩ : ∃ y : List Loc, y = [] := ⟨_, rfl⟩
  rw [← hlo] at hC ⊢
  clear hH hlo
  unfold f_X4_get at hf
  refine lv_iload_n hx hb dX4_get_0 rfl (lv_at hl 1 rfl) ?_
  refine lv_if_lt (tgt := 24) hx hb dX4_get_1 (by decide) (fun cd1 => ?_) (fun cd1 => ?_)
  · replace hf := z_pos cd1 hf
    refine lv_iconst (v := 0) hx hb dX4_get_24 (by decide) ?_
    have e1 := z_s1 hf
    subst e1
    exact z_iret S0 hr hlk hC dX4_get_25
  · replace hf := z_neg cd1 hf
    refine lv_iload_n hx hb dX4_get_4 rfl (lv_at hl 1 rfl) ?_
    refine lv_aload_n hx hb dX4_get_5 rfl (lv_at hl 0 rfl) ?_
    refine z_get S0 hC (ci := 4) (C := RX4) (T := TX4) (N := 3) (v := .int Tr) jX4_get_X4 0 rfl rfl 2 (by decide) kX4_get_17 rfl rfl dX4_get_6 ?_
    refine lv_icmp_ge (tgt := 24) hx hb dX4_get_9 (by decide) (fun cd2 => ?_) (fun cd2 => ?_)
    · replace hf := z_pos cd2 hf
      refine lv_iconst (v := 0) hx hb dX4_get_24 (by decide) ?_
      have e1 := z_s1 hf
      subst e1
      exact z_iret S0 hr hlk hC dX4_get_25
    · replace hf := z_neg cd2 hf
      refine lv_iload_n hx hb dX4_get_12 rfl (lv_at hl 2 rfl) ?_
      refine lv_if_lt (tgt := 24) hx hb dX4_get_13 (by decide) (fun cd3 => ?_) (fun cd3 => ?_)
      · replace hf := z_pos cd3 hf
        refine lv_iconst (v := 0) hx hb dX4_get_24 (by decide) ?_
        have e1 := z_s1 hf
        subst e1
        exact z_iret S0 hr hlk hC dX4_get_25
      · replace hf := z_neg cd3 hf
        refine lv_iload_n hx hb dX4_get_16 rfl (lv_at hl 2 rfl) ?_
        refine lv_aload_n hx hb dX4_get_17 rfl (lv_at hl 0 rfl) ?_
        refine z_get S0 hC (ci := 4) (C := RX4) (T := TX4) (N := 3) (v := .int 7) jX4_get_X4 0 rfl rfl 0 (by decide) kX4_get_7 rfl rfl dX4_get_18 ?_
        refine lv_icmp_lt (tgt := 26) hx hb dX4_get_21 (by decide) (fun cd4 => ?_) (fun cd4 => ?_)
        · replace hf := z_pos cd4 hf
          refine lv_iload_n hx hb dX4_get_26 rfl (lv_at hl 1 rfl) ?_
          refine lv_aload_n hx hb dX4_get_27 rfl (lv_at hl 0 rfl) ?_
          refine z_get S0 hC (ci := 4) (C := RX4) (T := TX4) (N := 3) (v := .int 7) jX4_get_X4 0 rfl rfl 0 (by decide) kX4_get_7 rfl rfl dX4_get_28 ?_
          refine lv_imul hx hb dX4_get_31 ?_
          refine lv_iload_n hx hb dX4_get_32 rfl (lv_at hl 2 rfl) ?_
          refine lv_iadd hx hb dX4_get_33 ?_
          refine lv_istore_n (lv' := [(3, .int ((p1 * 7) + p2)), (0, .ref oT.1), (1, .int p1), (2, .int p2)]) hx hb dX4_get_34 rfl hl (by decide) rfl (fun ls hl => ?_)
          refine lv_iload_n hx hb dX4_get_35 rfl (lv_at hl 0 rfl) ?_
          refine lv_aload_n hx hb dX4_get_36 rfl (lv_at hl 1 rfl) ?_
          refine z_get S0 hC (ci := 4) (C := RX4) (T := TX4) (N := 3) (v := .ref oT.2) jX4_get_X4 0 rfl rfl 1 (by decide) kX4_get_13 rfl rfl dX4_get_37 ?_
          refine z_alen S0 hC 1 0 rfl rfl (v := (Int32.ofNat nT)) rfl dX4_get_40 ?_
          refine lv_icmp_ge (tgt := 53) hx hb dX4_get_41 (by decide) (fun cd5 => ?_) (fun cd5 => ?_)
          · replace hf := z_pos cd5 hf
            refine lv_iconst (v := 0) hx hb dX4_get_53 (by decide) ?_
            have e1 := z_s1 hf
            subst e1
            exact z_iret S0 hr hlk hC dX4_get_54
          · replace hf := z_neg cd5 hf
            refine lv_aload_n hx hb dX4_get_44 rfl (lv_at hl 1 rfl) ?_
            refine z_get S0 hC (ci := 4) (C := RX4) (T := TX4) (N := 3) (v := .ref oT.2) jX4_get_X4 0 rfl rfl 1 (by decide) kX4_get_13 rfl rfl dX4_get_45 ?_
            refine lv_iload_n hx hb dX4_get_48 rfl (lv_at hl 0 rfl) ?_
            obtain ⟨x6, hx6, hf⟩ := z_bind hf
            refine z_iald S0 hC 1 rfl hx6 dX4_get_49 ?_
            refine lv_goto (tgt := 54) hx hb dX4_get_50 (by decide) ?_
            have e1 := z_s1 hf
            subst e1
            exact z_iret S0 hr hlk hC dX4_get_54
        · replace hf := z_neg cd4 hf
          refine lv_iconst (v := 0) hx hb dX4_get_24 (by decide) ?_
          have e1 := z_s1 hf
          subst e1
          exact z_iret S0 hr hlk hC dX4_get_25

-- X4 put
def f_X4_put (nT : Nat) (Tr : Int32) (Tf : (Nat → Int32)) (p1 : Int32) (p2 : Int32) (p3 : Int32) : Option ((Nat → Int32)) :=
  if p1 < 0 then
    some (Tf)
  else
    if Tr ≤ p1 then
      some (Tf)
    else
      if p2 < 0 then
        some (Tf)
      else
        if p2 < 7 then
          if (Int32.ofNat nT) ≤ ((p1 * 7) + p2) then
            some (Tf)
          else
            (zast nT Tf ((p1 * 7) + p2) p3).bind fun g6 => some (g6)
        else
          some (Tf)

theorem kX4_put_17 : Cond.fieldLink RX4 17 "ZoneSampler$Table" "rows" "I" ∈ wsX4_put := by decide +kernel
theorem kX4_put_7 : Cond.fieldLink RX4 7 "ZoneSampler$Table" "width" "I" ∈ wsX4_put := by decide +kernel
theorem kX4_put_13 : Cond.fieldLink RX4 13 "ZoneSampler$Table" "cells" "[I" ∈ wsX4_put := by decide +kernel
theorem jX4_put_X4 : ∀ w ∈ u_ws RX4 TX4 3, w ∈ wsX4_put := by decide +kernel
set_option maxHeartbeats 4000000 in
set_option maxRecDepth 100000 in
theorem c_X4_put (l : Launch) (G : va_G) (c3 : zT3) (oT : zR2) (nT : Nat) (BT : zTb) (p1 : Int32) (p2 : Int32) (p3 : Int32) {Tf' : (Nat → Int32)} (hf : f_X4_put nT BT.1 BT.2 p1 p2 p3 = some (Tf')) : zM l yX4_put wsX4_put ⟨0, 0, 0, 0⟩ G c3 (zwT c3.1 nT oT (BT.1, BT.2)) [.ref oT.1, .int p1, .int p2, .int p3] none (zwT c3.1 nT oT (BT.1, Tf')) := by
  obtain ⟨Tr, Tf⟩ := BT
  have hf : f_X4_put nT Tr Tf p1 p2 p3 = some (Tf') := hf
  show zM l yX4_put wsX4_put ⟨0, 0, 0, 0⟩ G c3 (zwT c3.1 nT oT (Tr, Tf)) [.ref oT.1, .int p1, .int p2, .int p3] none (zwT c3.1 nT oT (Tr, Tf'))
  refine zM.of (cc := cX4_put) (maxL := 5) (ret := none) (by decide) rfl (Nat.le_of_ble_eq_true rfl) ?_
  intro p e s m args below meth c A ls S0 hr hlk hC hl
  have S0 : CallFix p m c cX4_put 5 s args wsX4_put RX4 := S0
  have hl : lv_has ls 5 [(0, .ref oT.1), (1, .int p1), (2, .int p2), (3, .int p3)] := hl
  have hx := S0.1
  have hb := S0.2.1
  obtain ⟨H, hH⟩ : ∃ y, y = s.heap := ⟨_, rfl⟩
  rw [← hH] at hC ⊢
  obtain ⟨locs, hlo⟩ : ∃ y : List Loc, y = [] := ⟨_, rfl⟩
  rw [← hlo] at hC ⊢
  clear hH hlo
  unfold f_X4_put at hf
  refine lv_iload_n hx hb dX4_put_0 rfl (lv_at hl 1 rfl) ?_
  refine lv_if_lt (tgt := 24) hx hb dX4_put_1 (by decide) (fun cd1 => ?_) (fun cd1 => ?_)
  · replace hf := z_pos cd1 hf
    have e1 := z_s1 hf
    subst e1
    exact z_vret S0 hr hlk hC dX4_put_24
  · replace hf := z_neg cd1 hf
    refine lv_iload_n hx hb dX4_put_4 rfl (lv_at hl 1 rfl) ?_
    refine lv_aload_n hx hb dX4_put_5 rfl (lv_at hl 0 rfl) ?_
    refine z_get S0 hC (ci := 4) (C := RX4) (T := TX4) (N := 3) (v := .int Tr) jX4_put_X4 0 rfl rfl 2 (by decide) kX4_put_17 rfl rfl dX4_put_6 ?_
    refine lv_icmp_ge (tgt := 24) hx hb dX4_put_9 (by decide) (fun cd2 => ?_) (fun cd2 => ?_)
    · replace hf := z_pos cd2 hf
      have e1 := z_s1 hf
      subst e1
      exact z_vret S0 hr hlk hC dX4_put_24
    · replace hf := z_neg cd2 hf
      refine lv_iload_n hx hb dX4_put_12 rfl (lv_at hl 2 rfl) ?_
      refine lv_if_lt (tgt := 24) hx hb dX4_put_13 (by decide) (fun cd3 => ?_) (fun cd3 => ?_)
      · replace hf := z_pos cd3 hf
        have e1 := z_s1 hf
        subst e1
        exact z_vret S0 hr hlk hC dX4_put_24
      · replace hf := z_neg cd3 hf
        refine lv_iload_n hx hb dX4_put_16 rfl (lv_at hl 2 rfl) ?_
        refine lv_aload_n hx hb dX4_put_17 rfl (lv_at hl 0 rfl) ?_
        refine z_get S0 hC (ci := 4) (C := RX4) (T := TX4) (N := 3) (v := .int 7) jX4_put_X4 0 rfl rfl 0 (by decide) kX4_put_7 rfl rfl dX4_put_18 ?_
        refine lv_icmp_lt (tgt := 25) hx hb dX4_put_21 (by decide) (fun cd4 => ?_) (fun cd4 => ?_)
        · replace hf := z_pos cd4 hf
          refine lv_iload_n hx hb dX4_put_25 rfl (lv_at hl 1 rfl) ?_
          refine lv_aload_n hx hb dX4_put_26 rfl (lv_at hl 0 rfl) ?_
          refine z_get S0 hC (ci := 4) (C := RX4) (T := TX4) (N := 3) (v := .int 7) jX4_put_X4 0 rfl rfl 0 (by decide) kX4_put_7 rfl rfl dX4_put_27 ?_
          refine lv_imul hx hb dX4_put_30 ?_
          refine lv_iload_n hx hb dX4_put_31 rfl (lv_at hl 2 rfl) ?_
          refine lv_iadd hx hb dX4_put_32 ?_
          refine lv_istore (lv' := [(4, .int ((p1 * 7) + p2)), (0, .ref oT.1), (1, .int p1), (2, .int p2), (3, .int p3)]) hx hb dX4_put_33 hl (by decide) rfl (fun ls hl => ?_)
          refine lv_iload hx hb dX4_put_35 (lv_at hl 0 rfl) ?_
          refine lv_aload_n hx hb dX4_put_37 rfl (lv_at hl 1 rfl) ?_
          refine z_get S0 hC (ci := 4) (C := RX4) (T := TX4) (N := 3) (v := .ref oT.2) jX4_put_X4 0 rfl rfl 1 (by decide) kX4_put_13 rfl rfl dX4_put_38 ?_
          refine z_alen S0 hC 1 0 rfl rfl (v := (Int32.ofNat nT)) rfl dX4_put_41 ?_
          refine lv_icmp_ge (tgt := 53) hx hb dX4_put_42 (by decide) (fun cd5 => ?_) (fun cd5 => ?_)
          · replace hf := z_pos cd5 hf
            have e1 := z_s1 hf
            subst e1
            exact z_vret S0 hr hlk hC dX4_put_53
          · replace hf := z_neg cd5 hf
            refine lv_aload_n hx hb dX4_put_45 rfl (lv_at hl 1 rfl) ?_
            refine z_get S0 hC (ci := 4) (C := RX4) (T := TX4) (N := 3) (v := .ref oT.2) jX4_put_X4 0 rfl rfl 1 (by decide) kX4_put_13 rfl rfl dX4_put_46 ?_
            refine lv_iload hx hb dX4_put_49 (lv_at hl 0 rfl) ?_
            refine lv_iload_n hx hb dX4_put_51 rfl (lv_at hl 4 rfl) ?_
            obtain ⟨g6, hg6, hf⟩ := z_bind hf
            refine z_iast S0 hC 1 rfl hg6 dX4_put_52 (ws2 := (zwT c3.1 nT oT (Tr, g6))) rfl (fun H locs hC => ?_)
            have e1 := z_s1 hf
            subst e1
            exact z_vret S0 hr hlk hC dX4_put_53
        · replace hf := z_neg cd4 hf
          have e1 := z_s1 hf
          subst e1
          exact z_vret S0 hr hlk hC dX4_put_24

-- X4 addRow
def f_X4_addRow (nT : Nat) (Tr : Int32) : Option (Int32 × Int32) :=
  if ((Tr + 1) * 7) ≤ (Int32.ofNat nT) then
    some (((Tr + 1) - 1), (Tr + 1))
  else
    some ((-1), Tr)

theorem kX4_addRow_17 : Cond.fieldLink RX4 17 "ZoneSampler$Table" "rows" "I" ∈ wsX4_addRow := by decide +kernel
theorem kX4_addRow_7 : Cond.fieldLink RX4 7 "ZoneSampler$Table" "width" "I" ∈ wsX4_addRow := by decide +kernel
theorem kX4_addRow_13 : Cond.fieldLink RX4 13 "ZoneSampler$Table" "cells" "[I" ∈ wsX4_addRow := by decide +kernel
theorem jX4_addRow_X4 : ∀ w ∈ u_ws RX4 TX4 3, w ∈ wsX4_addRow := by decide +kernel
set_option maxHeartbeats 4000000 in
set_option maxRecDepth 100000 in
theorem c_X4_addRow (l : Launch) (G : va_G) (c3 : zT3) (oT : zR2) (nT : Nat) (BT : zTb) {r : Int32} {Tr' : Int32} (hf : f_X4_addRow nT BT.1 = some (r, Tr')) : zM l yX4_addRow wsX4_addRow ⟨0, 0, 0, 0⟩ G c3 (zwT c3.1 nT oT (BT.1, BT.2)) [.ref oT.1] (some (.int r)) (zwT c3.1 nT oT (Tr', BT.2)) := by
  obtain ⟨Tr, Tf⟩ := BT
  have hf : f_X4_addRow nT Tr = some (r, Tr') := hf
  show zM l yX4_addRow wsX4_addRow ⟨0, 0, 0, 0⟩ G c3 (zwT c3.1 nT oT (Tr, Tf)) [.ref oT.1] (some (.int r)) (zwT c3.1 nT oT (Tr', Tf))
  refine zM.of (cc := cX4_addRow) (maxL := 1) (ret := (some .int)) (by decide) rfl (Nat.le_of_ble_eq_true rfl) ?_
  intro p e s m args below meth c A ls S0 hr hlk hC hl
  have S0 : CallFix p m c cX4_addRow 1 s args wsX4_addRow RX4 := S0
  have hl : lv_has ls 1 [(0, .ref oT.1)] := hl
  have hx := S0.1
  have hb := S0.2.1
  obtain ⟨H, hH⟩ : ∃ y, y = s.heap := ⟨_, rfl⟩
  rw [← hH] at hC ⊢
  obtain ⟨locs, hlo⟩ : ∃ y : List Loc, y = [] := ⟨_, rfl⟩
  rw [← hlo] at hC ⊢
  clear hH hlo
  unfold f_X4_addRow at hf
  refine lv_aload_n hx hb dX4_addRow_0 rfl (lv_at hl 0 rfl) ?_
  refine z_get S0 hC (ci := 4) (C := RX4) (T := TX4) (N := 3) (v := .int Tr) jX4_addRow_X4 0 rfl rfl 2 (by decide) kX4_addRow_17 rfl rfl dX4_addRow_1 ?_
  refine lv_iconst (v := 1) hx hb dX4_addRow_4 (by decide) ?_
  refine lv_iadd hx hb dX4_addRow_5 ?_
  refine lv_aload_n hx hb dX4_addRow_6 rfl (lv_at hl 0 rfl) ?_
  refine z_get S0 hC (ci := 4) (C := RX4) (T := TX4) (N := 3) (v := .int 7) jX4_addRow_X4 0 rfl rfl 0 (by decide) kX4_addRow_7 rfl rfl dX4_addRow_7 ?_
  refine lv_imul hx hb dX4_addRow_10 ?_
  refine lv_aload_n hx hb dX4_addRow_11 rfl (lv_at hl 0 rfl) ?_
  refine z_get S0 hC (ci := 4) (C := RX4) (T := TX4) (N := 3) (v := .ref oT.2) jX4_addRow_X4 0 rfl rfl 1 (by decide) kX4_addRow_13 rfl rfl dX4_addRow_12 ?_
  refine z_alen S0 hC 1 0 rfl rfl (v := (Int32.ofNat nT)) rfl dX4_addRow_15 ?_
  refine lv_icmp_le (tgt := 21) hx hb dX4_addRow_16 (by decide) (fun cd1 => ?_) (fun cd1 => ?_)
  · replace hf := z_pos cd1 hf
    refine lv_aload_n hx hb dX4_addRow_21 rfl (lv_at hl 0 rfl) ?_
    refine lv_dup hx hb dX4_addRow_22 rfl ?_
    refine z_get S0 hC (ci := 4) (C := RX4) (T := TX4) (N := 3) (v := .int Tr) jX4_addRow_X4 0 rfl rfl 2 (by decide) kX4_addRow_17 rfl rfl dX4_addRow_23 ?_
    refine lv_iconst (v := 1) hx hb dX4_addRow_26 (by decide) ?_
    refine lv_iadd hx hb dX4_addRow_27 ?_
    refine z_put S0 hC (ci := 4) (C := RX4) (T := TX4) (N := 3) (v := .int (Tr + 1)) jX4_addRow_X4 tyX4 tyX4_ok nmX4 0 rfl rfl 2 (by decide) kX4_addRow_17 rfl rfl rfl rfl (Nat.le_of_ble_eq_true rfl) dX4_addRow_28 (ws2 := (zwT c3.1 nT oT ((Tr + 1), Tf))) rfl (fun H locs hC => ?_)
    refine lv_aload_n hx hb dX4_addRow_31 rfl (lv_at hl 0 rfl) ?_
    refine z_get S0 hC (ci := 4) (C := RX4) (T := TX4) (N := 3) (v := .int (Tr + 1)) jX4_addRow_X4 0 rfl rfl 2 (by decide) kX4_addRow_17 rfl rfl dX4_addRow_32 ?_
    refine lv_iconst (v := 1) hx hb dX4_addRow_35 (by decide) ?_
    refine lv_isub hx hb dX4_addRow_36 ?_
    obtain ⟨e1, e2⟩ := z_s2 hf
    subst e1
    subst e2
    exact z_iret S0 hr hlk hC dX4_addRow_37
  · replace hf := z_neg cd1 hf
    refine lv_iconst (v := (-1)) hx hb dX4_addRow_19 (by decide) ?_
    obtain ⟨e1, e2⟩ := z_s2 hf
    subst e1
    subst e2
    exact z_iret S0 hr hlk hC dX4_addRow_20

-- X4 removeRow
def f_X4_removeRow_16 (nT : Nat) : Nat → Int32 → (Nat → Int32) → Option (Int32 × (Nat → Int32))
  | 0, _, _ => none
  | fu + 1, y2, Tf =>
    if ((Int32.ofNat nT) - 7) ≤ y2 then
      some (y2, Tf)
    else
      (zald nT Tf (y2 + 7)).bind fun x5 => (zast nT Tf y2 x5).bind fun g6 => f_X4_removeRow_16 nT fu (y2 + 1) g6

theorem f_X4_removeRow_16_s (nT : Nat) (y2 : Int32) (Tf : (Nat → Int32)) (fu : Nat) : f_X4_removeRow_16 nT (fu + 1) y2 Tf = (
    if ((Int32.ofNat nT) - 7) ≤ y2 then
      some (y2, Tf)
    else
      (zald nT Tf (y2 + 7)).bind fun x5 => (zast nT Tf y2 x5).bind fun g6 => f_X4_removeRow_16 nT fu (y2 + 1) g6
    ) := rfl

def f_X4_removeRow (nT : Nat) (Tr : Int32) (Tf : (Nat → Int32)) (p1 : Int32) : Option (Int32 × (Nat → Int32)) :=
  (f_X4_has nT Tr p1).bind fun r1 => if r1 = 0 then
    some (Tr, Tf)
  else
    (f_X4_removeRow_16 nT zF (p1 * 7) Tf).bind fun t7 =>
      some ((Tr - 1), t7.2)

theorem kX4_removeRow_7 : Cond.fieldLink RX4 7 "ZoneSampler$Table" "width" "I" ∈ wsX4_removeRow := by decide +kernel
theorem kX4_removeRow_13 : Cond.fieldLink RX4 13 "ZoneSampler$Table" "cells" "[I" ∈ wsX4_removeRow := by decide +kernel
theorem kX4_removeRow_17 : Cond.fieldLink RX4 17 "ZoneSampler$Table" "rows" "I" ∈ wsX4_removeRow := by decide +kernel
theorem jX4_removeRow_X4 : ∀ w ∈ u_ws RX4 TX4 3, w ∈ wsX4_removeRow := by decide +kernel
set_option maxHeartbeats 4000000 in
set_option maxRecDepth 100000 in
theorem c_X4_removeRow (l : Launch) (G : va_G) (c3 : zT3) (oT : zR2) (nT : Nat) (BT : zTb) (p1 : Int32) {Tr' : Int32} {Tf' : (Nat → Int32)} (hf : f_X4_removeRow nT BT.1 BT.2 p1 = some (Tr', Tf')) : zM l yX4_removeRow wsX4_removeRow ⟨1, 0, 0, 21⟩ G c3 (zwT c3.1 nT oT (BT.1, BT.2)) [.ref oT.1, .int p1] none (zwT c3.1 nT oT (Tr', Tf')) := by
  obtain ⟨Tr, Tf⟩ := BT
  have hf : f_X4_removeRow nT Tr Tf p1 = some (Tr', Tf') := hf
  show zM l yX4_removeRow wsX4_removeRow ⟨1, 0, 0, 21⟩ G c3 (zwT c3.1 nT oT (Tr, Tf)) [.ref oT.1, .int p1] none (zwT c3.1 nT oT (Tr', Tf'))
  refine zM.of (cc := cX4_removeRow) (maxL := 3) (ret := none) (by decide) rfl (Nat.le_of_ble_eq_true rfl) ?_
  intro p e s m args below meth c A ls S0 hr hlk hC hl
  have S0 : CallFix p m c cX4_removeRow 3 s args wsX4_removeRow RX4 := S0
  have hl : lv_has ls 3 [(0, .ref oT.1), (1, .int p1)] := hl
  have hx := S0.1
  have hb := S0.2.1
  obtain ⟨H, hH⟩ : ∃ y, y = s.heap := ⟨_, rfl⟩
  rw [← hH] at hC ⊢
  obtain ⟨locs, hlo⟩ : ∃ y : List Loc, y = [] := ⟨_, rfl⟩
  rw [← hlo] at hC ⊢
  clear hH hlo
  unfold f_X4_removeRow at hf
  refine lv_aload_n hx hb dX4_removeRow_0 rfl (lv_at hl 0 rfl) ?_
  refine lv_iload_n hx hb dX4_removeRow_1 rfl (lv_at hl 1 rfl) ?_
  obtain ⟨r1, hr1, hf⟩ := z_bind hf
  refine z_callPi (z_runV (n := 1) (rest := []) (As := [.int p1]) S0 hC (c_X4_has l G c3 oT nT (Tr, Tf) p1 hr1) [0, 1] (by decide) rfl gX4_removeRow_X4_has rfl rfl rfl (by decide +kernel) ⟨Nat.le_of_ble_eq_true rfl, Nat.le_of_ble_eq_true rfl⟩ (ci := 4) (q0 := 0) rfl rfl rfl hl.1 rfl (Nat.le_of_ble_eq_true rfl) dX4_removeRow_2) hC [0, 1] rfl (fun H locs hC => ?_)
  refine lv_if_ne (tgt := 9) hx hb dX4_removeRow_5 (by decide) (fun cd2 => ?_) (fun cd2 => ?_)
  · replace hf := z_neg cd2 hf
    refine lv_iload_n hx hb dX4_removeRow_9 rfl (lv_at hl 1 rfl) ?_
    refine lv_aload_n hx hb dX4_removeRow_10 rfl (lv_at hl 0 rfl) ?_
    refine z_get S0 hC (ci := 4) (C := RX4) (T := TX4) (N := 3) (v := .int 7) jX4_removeRow_X4 0 rfl rfl 0 (by decide) kX4_removeRow_7 rfl rfl dX4_removeRow_11 ?_
    refine lv_imul hx hb dX4_removeRow_14 ?_
    refine lv_istore_n (lv' := [(2, .int (p1 * 7)), (0, .ref oT.1), (1, .int p1)]) hx hb dX4_removeRow_15 rfl hl (by decide) rfl (fun ls hl => ?_)
    have L16 : ∀ (fu : Nat) (y1 : Int32) (y2 : Int32) (Tr : Int32) (Tf : (Nat → Int32)) (tt : Int32 × (Nat → Int32)), f_X4_removeRow_16 nT fu y2 Tf = some tt → ∀ (H : Heap) (locs : List Loc) (ls : Array Slot), zC G c3 A s (zwT c3.1 nT oT (Tr, Tf)) H locs → lv_has ls 3 [(0, .ref oT.1), (1, .int y1), (2, .int y2)] → (∀ (H : Heap) (locs : List Loc) (ls : Array Slot), zC G c3 A s (zwT c3.1 nT oT (Tr, tt.2)) H locs → lv_has ls 3 [(0, .ref oT.1), (1, .int y1), (2, .int tt.1)] → W p l e ⟨1, 0, 0, 21⟩ s m args below meth c H locs 0 0 (MQ below (zPost G (zwT c3.1 nT oT (Tr', Tf')) none A) args s 0 0 A) (F0 m 53 ls [])) → W p l e ⟨1, 0, 0, 21⟩ s m args below meth c H locs 0 0 (MQ below (zPost G (zwT c3.1 nT oT (Tr', Tf')) none A) args s 0 0 A) (F0 m 16 ls []) := by
      intro fu
      induction fu with
      | zero =>
        intro y1 y2 Tr Tf tt hf H locs ls hC hl hK
        exact (z_none hf).elim
      | succ fu ih16 =>
        intro y1 y2 Tr Tf tt hf H locs ls hC hl hK
        replace hf := (f_X4_removeRow_16_s nT y2 Tf fu).symm.trans hf
        refine lv_iload_n hx hb dX4_removeRow_16 rfl (lv_at hl 2 rfl) ?_
        refine lv_aload_n hx hb dX4_removeRow_17 rfl (lv_at hl 0 rfl) ?_
        refine z_get S0 hC (ci := 4) (C := RX4) (T := TX4) (N := 3) (v := .ref oT.2) jX4_removeRow_X4 0 rfl rfl 1 (by decide) kX4_removeRow_13 rfl rfl dX4_removeRow_18 ?_
        refine z_alen S0 hC 1 0 rfl rfl (v := (Int32.ofNat nT)) rfl dX4_removeRow_21 ?_
        refine lv_aload_n hx hb dX4_removeRow_22 rfl (lv_at hl 0 rfl) ?_
        refine z_get S0 hC (ci := 4) (C := RX4) (T := TX4) (N := 3) (v := .int 7) jX4_removeRow_X4 0 rfl rfl 0 (by decide) kX4_removeRow_7 rfl rfl dX4_removeRow_23 ?_
        refine lv_isub hx hb dX4_removeRow_26 ?_
        refine lv_icmp_ge (tgt := 53) hx hb dX4_removeRow_27 (by decide) (fun cd4 => ?_) (fun cd4 => ?_)
        · replace hf := z_pos cd4 hf
          have e1 := z_s1 hf
          subst e1
          exact hK H locs ls hC (lv_sub hl [0, 1, 2] rfl)
        · replace hf := z_neg cd4 hf
          refine lv_aload_n hx hb dX4_removeRow_30 rfl (lv_at hl 0 rfl) ?_
          refine z_get S0 hC (ci := 4) (C := RX4) (T := TX4) (N := 3) (v := .ref oT.2) jX4_removeRow_X4 0 rfl rfl 1 (by decide) kX4_removeRow_13 rfl rfl dX4_removeRow_31 ?_
          refine lv_iload_n hx hb dX4_removeRow_34 rfl (lv_at hl 2 rfl) ?_
          refine lv_aload_n hx hb dX4_removeRow_35 rfl (lv_at hl 0 rfl) ?_
          refine z_get S0 hC (ci := 4) (C := RX4) (T := TX4) (N := 3) (v := .ref oT.2) jX4_removeRow_X4 0 rfl rfl 1 (by decide) kX4_removeRow_13 rfl rfl dX4_removeRow_36 ?_
          refine lv_iload_n hx hb dX4_removeRow_39 rfl (lv_at hl 2 rfl) ?_
          refine lv_aload_n hx hb dX4_removeRow_40 rfl (lv_at hl 0 rfl) ?_
          refine z_get S0 hC (ci := 4) (C := RX4) (T := TX4) (N := 3) (v := .int 7) jX4_removeRow_X4 0 rfl rfl 0 (by decide) kX4_removeRow_7 rfl rfl dX4_removeRow_41 ?_
          refine lv_iadd hx hb dX4_removeRow_44 ?_
          obtain ⟨x5, hx5, hf⟩ := z_bind hf
          refine z_iald S0 hC 1 rfl hx5 dX4_removeRow_45 ?_
          obtain ⟨g6, hg6, hf⟩ := z_bind hf
          refine z_iast S0 hC 1 rfl hg6 dX4_removeRow_46 (ws2 := (zwT c3.1 nT oT (Tr, g6))) rfl (fun H locs hC => ?_)
          refine lv_iinc (v := (y2 + 1)) (lv' := [(2, .int (y2 + 1)), (0, .ref oT.1), (1, .int y1)]) hx hb dX4_removeRow_47 hl (k := 2) rfl rfl (by decide) rfl (fun ls hl => ?_)
          refine lv_goto (tgt := 16) hx hb dX4_removeRow_50 (by decide) ?_
          exact ih16 y1 (y2 + 1) Tr g6 _ hf H locs ls hC (lv_sub hl [1, 2, 0] rfl) hK
    obtain ⟨t7, ht7, hf⟩ := z_bind hf
    refine L16 zF p1 (p1 * 7) Tr Tf t7 ht7 H locs ls hC (lv_sub hl [1, 2, 0] rfl) (fun H locs ls hC hl => ?_)
    refine lv_aload_n hx hb dX4_removeRow_53 rfl (lv_at hl 0 rfl) ?_
    refine lv_dup hx hb dX4_removeRow_54 rfl ?_
    refine z_get S0 hC (ci := 4) (C := RX4) (T := TX4) (N := 3) (v := .int Tr) jX4_removeRow_X4 0 rfl rfl 2 (by decide) kX4_removeRow_17 rfl rfl dX4_removeRow_55 ?_
    refine lv_iconst (v := 1) hx hb dX4_removeRow_58 (by decide) ?_
    refine lv_isub hx hb dX4_removeRow_59 ?_
    refine z_put S0 hC (ci := 4) (C := RX4) (T := TX4) (N := 3) (v := .int (Tr - 1)) jX4_removeRow_X4 tyX4 tyX4_ok nmX4 0 rfl rfl 2 (by decide) kX4_removeRow_17 rfl rfl rfl rfl (Nat.le_of_ble_eq_true rfl) dX4_removeRow_60 (ws2 := (zwT c3.1 nT oT ((Tr - 1), t7.2))) rfl (fun H locs hC => ?_)
    obtain ⟨e1, e2⟩ := z_s2 hf
    subst e1
    subst e2
    exact z_vret S0 hr hlk hC dX4_removeRow_63
  · replace hf := z_pos cd2 hf
    obtain ⟨e1, e2⟩ := z_s2 hf
    subst e1
    subst e2
    exact z_vret S0 hr hlk hC dX4_removeRow_8

-- X4 rowsWith
def f_X4_rowsWith_5 (nT : Nat) (y1 : Int32) (y2 : Int32) (Tr : Int32) (Tf : (Nat → Int32)) : Nat → Int32 → Int32 → Option (Int32 × Int32)
  | 0, _, _ => none
  | fu + 1, y3, y4 =>
    if Tr ≤ y4 then
      some (y3, y4)
    else
      (f_X4_get nT Tr Tf y4 y1).bind fun r3 => Option.bind (α := Int32) (
        if r3 = y2 then
          some ((y3 + 1))
        else
          some (y3)
      ) fun t5 =>
        f_X4_rowsWith_5 nT y1 y2 Tr Tf fu t5 (y4 + 1)

theorem f_X4_rowsWith_5_s (nT : Nat) (y1 : Int32) (y2 : Int32) (Tr : Int32) (Tf : (Nat → Int32)) (y3 : Int32) (y4 : Int32) (fu : Nat) : f_X4_rowsWith_5 nT y1 y2 Tr Tf (fu + 1) y3 y4 = (
    if Tr ≤ y4 then
      some (y3, y4)
    else
      (f_X4_get nT Tr Tf y4 y1).bind fun r3 => Option.bind (α := Int32) (
        if r3 = y2 then
          some ((y3 + 1))
        else
          some (y3)
      ) fun t5 =>
        f_X4_rowsWith_5 nT y1 y2 Tr Tf fu t5 (y4 + 1)
    ) := rfl

def f_X4_rowsWith (nT : Nat) (Tr : Int32) (Tf : (Nat → Int32)) (p1 : Int32) (p2 : Int32) : Option (Int32) :=
  (f_X4_rowsWith_5 nT p1 p2 Tr Tf zF 0 0).bind fun t6 =>
    some (t6.1)

theorem kX4_rowsWith_17 : Cond.fieldLink RX4 17 "ZoneSampler$Table" "rows" "I" ∈ wsX4_rowsWith := by decide +kernel
theorem jX4_rowsWith_X4 : ∀ w ∈ u_ws RX4 TX4 3, w ∈ wsX4_rowsWith := by decide +kernel
set_option maxHeartbeats 4000000 in
set_option maxRecDepth 100000 in
theorem c_X4_rowsWith (l : Launch) (G : va_G) (c3 : zT3) (oT : zR2) (nT : Nat) (BT : zTb) (p1 : Int32) (p2 : Int32) {r : Int32} (hf : f_X4_rowsWith nT BT.1 BT.2 p1 p2 = some (r)) : zM l yX4_rowsWith wsX4_rowsWith ⟨1, 0, 0, 23⟩ G c3 (zwT c3.1 nT oT (BT.1, BT.2)) [.ref oT.1, .int p1, .int p2] (some (.int r)) (zwT c3.1 nT oT (BT.1, BT.2)) := by
  obtain ⟨Tr, Tf⟩ := BT
  have hf : f_X4_rowsWith nT Tr Tf p1 p2 = some (r) := hf
  show zM l yX4_rowsWith wsX4_rowsWith ⟨1, 0, 0, 23⟩ G c3 (zwT c3.1 nT oT (Tr, Tf)) [.ref oT.1, .int p1, .int p2] (some (.int r)) (zwT c3.1 nT oT (Tr, Tf))
  refine zM.of (cc := cX4_rowsWith) (maxL := 5) (ret := (some .int)) (by decide) rfl (Nat.le_of_ble_eq_true rfl) ?_
  intro p e s m args below meth c A ls S0 hr hlk hC hl
  have S0 : CallFix p m c cX4_rowsWith 5 s args wsX4_rowsWith RX4 := S0
  have hl : lv_has ls 5 [(0, .ref oT.1), (1, .int p1), (2, .int p2)] := hl
  have hx := S0.1
  have hb := S0.2.1
  obtain ⟨H, hH⟩ : ∃ y, y = s.heap := ⟨_, rfl⟩
  rw [← hH] at hC ⊢
  obtain ⟨locs, hlo⟩ : ∃ y : List Loc, y = [] := ⟨_, rfl⟩
  rw [← hlo] at hC ⊢
  clear hH hlo
  unfold f_X4_rowsWith at hf
  refine lv_iconst (v := 0) hx hb dX4_rowsWith_0 (by decide) ?_
  refine lv_istore_n (lv' := [(3, .int 0), (0, .ref oT.1), (1, .int p1), (2, .int p2)]) hx hb dX4_rowsWith_1 rfl hl (by decide) rfl (fun ls hl => ?_)
  refine lv_iconst (v := 0) hx hb dX4_rowsWith_2 (by decide) ?_
  refine lv_istore (lv' := [(4, .int 0), (3, .int 0), (0, .ref oT.1), (1, .int p1), (2, .int p2)]) hx hb dX4_rowsWith_3 hl (by decide) rfl (fun ls hl => ?_)
  have L5 : ∀ (fu : Nat) (y1 : Int32) (y2 : Int32) (y3 : Int32) (y4 : Int32) (Tr : Int32) (Tf : (Nat → Int32)) (tt : Int32 × Int32), f_X4_rowsWith_5 nT y1 y2 Tr Tf fu y3 y4 = some tt → ∀ (H : Heap) (locs : List Loc) (ls : Array Slot), zC G c3 A s (zwT c3.1 nT oT (Tr, Tf)) H locs → lv_has ls 5 [(0, .ref oT.1), (1, .int y1), (2, .int y2), (3, .int y3), (4, .int y4)] → (∀ (H : Heap) (locs : List Loc) (ls : Array Slot), zC G c3 A s (zwT c3.1 nT oT (Tr, Tf)) H locs → lv_has ls 5 [(0, .ref oT.1), (1, .int y1), (2, .int y2), (3, .int tt.1), (4, .int tt.2)] → W p l e ⟨1, 0, 0, 23⟩ s m args below meth c H locs 0 0 (MQ below (zPost G (zwT c3.1 nT oT (Tr, Tf)) (some (.int r)) A) args s 0 0 A) (F0 m 34 ls [])) → W p l e ⟨1, 0, 0, 23⟩ s m args below meth c H locs 0 0 (MQ below (zPost G (zwT c3.1 nT oT (Tr, Tf)) (some (.int r)) A) args s 0 0 A) (F0 m 5 ls []) := by
    intro fu
    induction fu with
    | zero =>
      intro y1 y2 y3 y4 Tr Tf tt hf H locs ls hC hl hK
      exact (z_none hf).elim
    | succ fu ih5 =>
      intro y1 y2 y3 y4 Tr Tf tt hf H locs ls hC hl hK
      replace hf := (f_X4_rowsWith_5_s nT y1 y2 Tr Tf y3 y4 fu).symm.trans hf
      refine lv_iload hx hb dX4_rowsWith_5 (lv_at hl 4 rfl) ?_
      refine lv_aload_n hx hb dX4_rowsWith_7 rfl (lv_at hl 0 rfl) ?_
      refine z_get S0 hC (ci := 4) (C := RX4) (T := TX4) (N := 3) (v := .int Tr) jX4_rowsWith_X4 0 rfl rfl 2 (by decide) kX4_rowsWith_17 rfl rfl dX4_rowsWith_8 ?_
      refine lv_icmp_ge (tgt := 34) hx hb dX4_rowsWith_11 (by decide) (fun cd2 => ?_) (fun cd2 => ?_)
      · replace hf := z_pos cd2 hf
        have e1 := z_s1 hf
        subst e1
        exact hK H locs ls hC (lv_sub hl [0, 1, 2, 3, 4] rfl)
      · replace hf := z_neg cd2 hf
        refine lv_aload_n hx hb dX4_rowsWith_14 rfl (lv_at hl 0 rfl) ?_
        refine lv_iload hx hb dX4_rowsWith_15 (lv_at hl 4 rfl) ?_
        refine lv_iload_n hx hb dX4_rowsWith_17 rfl (lv_at hl 1 rfl) ?_
        obtain ⟨r3, hr3, hf⟩ := z_bind hf
        refine z_callPi (z_runV (n := 2) (rest := []) (As := [.int y4, .int y1]) S0 hC (c_X4_get l G c3 oT nT (Tr, Tf) y4 y1 hr3) [0, 1] (by decide) rfl gX4_rowsWith_X4_get rfl rfl rfl (by decide +kernel) ⟨Nat.le_of_ble_eq_true rfl, Nat.le_of_ble_eq_true rfl⟩ (ci := 4) (q0 := 0) rfl rfl rfl hl.1 rfl (Nat.le_of_ble_eq_true rfl) dX4_rowsWith_18) hC [0, 1] rfl (fun H locs hC => ?_)
        refine lv_iload_n hx hb dX4_rowsWith_21 rfl (lv_at hl 2 rfl) ?_
        obtain ⟨t5, ht5, hf⟩ := z_bind hf
        have Jt5 : ∀ (H : Heap) (locs : List Loc) (ls : Array Slot), zC G c3 A s (zwT c3.1 nT oT (Tr, Tf)) H locs → lv_has ls 5 [(0, .ref oT.1), (1, .int y1), (2, .int y2), (3, .int t5), (4, .int y4)] → W p l e ⟨1, 0, 0, 23⟩ s m args below meth c H locs 0 0 (MQ below (zPost G (zwT c3.1 nT oT (Tr, Tf)) (some (.int r)) A) args s 0 0 A) (F0 m 28 ls []) := by
          intro H locs ls hC hl
          refine lv_iinc (v := (y4 + 1)) (lv' := [(4, .int (y4 + 1)), (0, .ref oT.1), (1, .int y1), (2, .int y2), (3, .int t5)]) hx hb dX4_rowsWith_28 hl (k := 4) rfl rfl (by decide) rfl (fun ls hl => ?_)
          refine lv_goto (tgt := 5) hx hb dX4_rowsWith_31 (by decide) ?_
          exact ih5 y1 y2 t5 (y4 + 1) Tr Tf _ hf H locs ls hC (lv_sub hl [1, 2, 3, 4, 0] rfl) hK
        refine lv_icmp_ne (tgt := 28) hx hb dX4_rowsWith_22 (by decide) (fun cd4 => ?_) (fun cd4 => ?_)
        · replace ht5 := z_neg cd4 ht5
          have e1 := z_s1 ht5
          subst e1
          exact Jt5 H locs ls hC (lv_sub hl [0, 1, 2, 3, 4] rfl)
        · replace ht5 := z_pos cd4 ht5
          refine lv_iinc (v := (y3 + 1)) (lv' := [(3, .int (y3 + 1)), (0, .ref oT.1), (1, .int y1), (2, .int y2), (4, .int y4)]) hx hb dX4_rowsWith_25 hl (k := 3) rfl rfl (by decide) rfl (fun ls hl => ?_)
          have e1 := z_s1 ht5
          subst e1
          exact Jt5 H locs ls hC (lv_sub hl [1, 2, 3, 0, 4] rfl)
  obtain ⟨t6, ht6, hf⟩ := z_bind hf
  refine L5 zF p1 p2 0 0 Tr Tf t6 ht6 H locs ls hC (lv_sub hl [2, 3, 4, 1, 0] rfl) (fun H locs ls hC hl => ?_)
  refine lv_iload_n hx hb dX4_rowsWith_34 rfl (lv_at hl 3 rfl) ?_
  have e1 := z_s1 hf
  subst e1
  exact z_iret S0 hr hlk hC dX4_rowsWith_35

-- X4 sumOf
def f_X4_sumOf_4 (nT : Nat) (y1 : Int32) (Tr : Int32) (Tf : (Nat → Int32)) : Nat → Int32 → Int32 → Option (Int32 × Int32)
  | 0, _, _ => none
  | fu + 1, y2, y3 =>
    if Tr ≤ y3 then
      some (y2, y3)
    else
      (f_X4_get nT Tr Tf y3 y1).bind fun r3 => f_X4_sumOf_4 nT y1 Tr Tf fu (y2 + r3) (y3 + 1)

theorem f_X4_sumOf_4_s (nT : Nat) (y1 : Int32) (Tr : Int32) (Tf : (Nat → Int32)) (y2 : Int32) (y3 : Int32) (fu : Nat) : f_X4_sumOf_4 nT y1 Tr Tf (fu + 1) y2 y3 = (
    if Tr ≤ y3 then
      some (y2, y3)
    else
      (f_X4_get nT Tr Tf y3 y1).bind fun r3 => f_X4_sumOf_4 nT y1 Tr Tf fu (y2 + r3) (y3 + 1)
    ) := rfl

def f_X4_sumOf (nT : Nat) (Tr : Int32) (Tf : (Nat → Int32)) (p1 : Int32) : Option (Int32) :=
  (f_X4_sumOf_4 nT p1 Tr Tf zF 0 0).bind fun t4 =>
    some (t4.1)

theorem kX4_sumOf_17 : Cond.fieldLink RX4 17 "ZoneSampler$Table" "rows" "I" ∈ wsX4_sumOf := by decide +kernel
theorem jX4_sumOf_X4 : ∀ w ∈ u_ws RX4 TX4 3, w ∈ wsX4_sumOf := by decide +kernel
set_option maxHeartbeats 4000000 in
set_option maxRecDepth 100000 in
theorem c_X4_sumOf (l : Launch) (G : va_G) (c3 : zT3) (oT : zR2) (nT : Nat) (BT : zTb) (p1 : Int32) {r : Int32} (hf : f_X4_sumOf nT BT.1 BT.2 p1 = some (r)) : zM l yX4_sumOf wsX4_sumOf ⟨1, 0, 0, 23⟩ G c3 (zwT c3.1 nT oT (BT.1, BT.2)) [.ref oT.1, .int p1] (some (.int r)) (zwT c3.1 nT oT (BT.1, BT.2)) := by
  obtain ⟨Tr, Tf⟩ := BT
  have hf : f_X4_sumOf nT Tr Tf p1 = some (r) := hf
  show zM l yX4_sumOf wsX4_sumOf ⟨1, 0, 0, 23⟩ G c3 (zwT c3.1 nT oT (Tr, Tf)) [.ref oT.1, .int p1] (some (.int r)) (zwT c3.1 nT oT (Tr, Tf))
  refine zM.of (cc := cX4_sumOf) (maxL := 4) (ret := (some .int)) (by decide) rfl (Nat.le_of_ble_eq_true rfl) ?_
  intro p e s m args below meth c A ls S0 hr hlk hC hl
  have S0 : CallFix p m c cX4_sumOf 4 s args wsX4_sumOf RX4 := S0
  have hl : lv_has ls 4 [(0, .ref oT.1), (1, .int p1)] := hl
  have hx := S0.1
  have hb := S0.2.1
  obtain ⟨H, hH⟩ : ∃ y, y = s.heap := ⟨_, rfl⟩
  rw [← hH] at hC ⊢
  obtain ⟨locs, hlo⟩ : ∃ y : List Loc, y = [] := ⟨_, rfl⟩
  rw [← hlo] at hC ⊢
  clear hH hlo
  unfold f_X4_sumOf at hf
  refine lv_iconst (v := 0) hx hb dX4_sumOf_0 (by decide) ?_
  refine lv_istore_n (lv' := [(2, .int 0), (0, .ref oT.1), (1, .int p1)]) hx hb dX4_sumOf_1 rfl hl (by decide) rfl (fun ls hl => ?_)
  refine lv_iconst (v := 0) hx hb dX4_sumOf_2 (by decide) ?_
  refine lv_istore_n (lv' := [(3, .int 0), (2, .int 0), (0, .ref oT.1), (1, .int p1)]) hx hb dX4_sumOf_3 rfl hl (by decide) rfl (fun ls hl => ?_)
  have L4 : ∀ (fu : Nat) (y1 : Int32) (y2 : Int32) (y3 : Int32) (Tr : Int32) (Tf : (Nat → Int32)) (tt : Int32 × Int32), f_X4_sumOf_4 nT y1 Tr Tf fu y2 y3 = some tt → ∀ (H : Heap) (locs : List Loc) (ls : Array Slot), zC G c3 A s (zwT c3.1 nT oT (Tr, Tf)) H locs → lv_has ls 4 [(0, .ref oT.1), (1, .int y1), (2, .int y2), (3, .int y3)] → (∀ (H : Heap) (locs : List Loc) (ls : Array Slot), zC G c3 A s (zwT c3.1 nT oT (Tr, Tf)) H locs → lv_has ls 4 [(0, .ref oT.1), (1, .int y1), (2, .int tt.1), (3, .int tt.2)] → W p l e ⟨1, 0, 0, 23⟩ s m args below meth c H locs 0 0 (MQ below (zPost G (zwT c3.1 nT oT (Tr, Tf)) (some (.int r)) A) args s 0 0 A) (F0 m 27 ls [])) → W p l e ⟨1, 0, 0, 23⟩ s m args below meth c H locs 0 0 (MQ below (zPost G (zwT c3.1 nT oT (Tr, Tf)) (some (.int r)) A) args s 0 0 A) (F0 m 4 ls []) := by
    intro fu
    induction fu with
    | zero =>
      intro y1 y2 y3 Tr Tf tt hf H locs ls hC hl hK
      exact (z_none hf).elim
    | succ fu ih4 =>
      intro y1 y2 y3 Tr Tf tt hf H locs ls hC hl hK
      replace hf := (f_X4_sumOf_4_s nT y1 Tr Tf y2 y3 fu).symm.trans hf
      refine lv_iload_n hx hb dX4_sumOf_4 rfl (lv_at hl 3 rfl) ?_
      refine lv_aload_n hx hb dX4_sumOf_5 rfl (lv_at hl 0 rfl) ?_
      refine z_get S0 hC (ci := 4) (C := RX4) (T := TX4) (N := 3) (v := .int Tr) jX4_sumOf_X4 0 rfl rfl 2 (by decide) kX4_sumOf_17 rfl rfl dX4_sumOf_6 ?_
      refine lv_icmp_ge (tgt := 27) hx hb dX4_sumOf_9 (by decide) (fun cd2 => ?_) (fun cd2 => ?_)
      · replace hf := z_pos cd2 hf
        have e1 := z_s1 hf
        subst e1
        exact hK H locs ls hC (lv_sub hl [0, 1, 2, 3] rfl)
      · replace hf := z_neg cd2 hf
        refine lv_iload_n hx hb dX4_sumOf_12 rfl (lv_at hl 2 rfl) ?_
        refine lv_aload_n hx hb dX4_sumOf_13 rfl (lv_at hl 0 rfl) ?_
        refine lv_iload_n hx hb dX4_sumOf_14 rfl (lv_at hl 3 rfl) ?_
        refine lv_iload_n hx hb dX4_sumOf_15 rfl (lv_at hl 1 rfl) ?_
        obtain ⟨r3, hr3, hf⟩ := z_bind hf
        refine z_callPi (z_runV (n := 2) (rest := [.int y2]) (As := [.int y3, .int y1]) S0 hC (c_X4_get l G c3 oT nT (Tr, Tf) y3 y1 hr3) [0, 1] (by decide) rfl gX4_sumOf_X4_get rfl rfl rfl (by decide +kernel) ⟨Nat.le_of_ble_eq_true rfl, Nat.le_of_ble_eq_true rfl⟩ (ci := 4) (q0 := 0) rfl rfl rfl hl.1 rfl (Nat.le_of_ble_eq_true rfl) dX4_sumOf_16) hC [0, 1] rfl (fun H locs hC => ?_)
        refine lv_iadd hx hb dX4_sumOf_19 ?_
        refine lv_istore_n (lv' := [(2, .int (y2 + r3)), (0, .ref oT.1), (1, .int y1), (3, .int y3)]) hx hb dX4_sumOf_20 rfl hl (by decide) rfl (fun ls hl => ?_)
        refine lv_iinc (v := (y3 + 1)) (lv' := [(3, .int (y3 + 1)), (2, .int (y2 + r3)), (0, .ref oT.1), (1, .int y1)]) hx hb dX4_sumOf_21 hl (k := 3) rfl rfl (by decide) rfl (fun ls hl => ?_)
        refine lv_goto (tgt := 4) hx hb dX4_sumOf_24 (by decide) ?_
        exact ih4 y1 (y2 + r3) (y3 + 1) Tr Tf _ hf H locs ls hC (lv_sub hl [2, 3, 1, 0] rfl) hK
  obtain ⟨t4, ht4, hf⟩ := z_bind hf
  refine L4 zF p1 0 0 Tr Tf t4 ht4 H locs ls hC (lv_sub hl [2, 3, 1, 0] rfl) (fun H locs ls hC hl => ?_)
  refine lv_iload_n hx hb dX4_sumOf_27 rfl (lv_at hl 2 rfl) ?_
  have e1 := z_s1 hf
  subst e1
  exact z_iret S0 hr hlk hC dX4_sumOf_28

-- X4 removeAll
def f_X4_removeAll (nT : Nat) (Tr : Int32) : Option (Int32) :=
  some (0)

theorem kX4_removeAll_17 : Cond.fieldLink RX4 17 "ZoneSampler$Table" "rows" "I" ∈ wsX4_removeAll := by decide +kernel
theorem jX4_removeAll_X4 : ∀ w ∈ u_ws RX4 TX4 3, w ∈ wsX4_removeAll := by decide +kernel
set_option maxHeartbeats 4000000 in
set_option maxRecDepth 100000 in
theorem c_X4_removeAll (l : Launch) (G : va_G) (c3 : zT3) (oT : zR2) (nT : Nat) (BT : zTb) {Tr' : Int32} (hf : f_X4_removeAll nT BT.1 = some (Tr')) : zM l yX4_removeAll wsX4_removeAll ⟨0, 0, 0, 0⟩ G c3 (zwT c3.1 nT oT (BT.1, BT.2)) [.ref oT.1] none (zwT c3.1 nT oT (Tr', BT.2)) := by
  obtain ⟨Tr, Tf⟩ := BT
  have hf : f_X4_removeAll nT Tr = some (Tr') := hf
  show zM l yX4_removeAll wsX4_removeAll ⟨0, 0, 0, 0⟩ G c3 (zwT c3.1 nT oT (Tr, Tf)) [.ref oT.1] none (zwT c3.1 nT oT (Tr', Tf))
  refine zM.of (cc := cX4_removeAll) (maxL := 1) (ret := none) (by decide) rfl (Nat.le_of_ble_eq_true rfl) ?_
  intro p e s m args below meth c A ls S0 hr hlk hC hl
  have S0 : CallFix p m c cX4_removeAll 1 s args wsX4_removeAll RX4 := S0
  have hl : lv_has ls 1 [(0, .ref oT.1)] := hl
  have hx := S0.1
  have hb := S0.2.1
  obtain ⟨H, hH⟩ : ∃ y, y = s.heap := ⟨_, rfl⟩
  rw [← hH] at hC ⊢
  obtain ⟨locs, hlo⟩ : ∃ y : List Loc, y = [] := ⟨_, rfl⟩
  rw [← hlo] at hC ⊢
  clear hH hlo
  unfold f_X4_removeAll at hf
  refine lv_aload_n hx hb dX4_removeAll_0 rfl (lv_at hl 0 rfl) ?_
  refine lv_iconst (v := 0) hx hb dX4_removeAll_1 (by decide) ?_
  refine z_put S0 hC (ci := 4) (C := RX4) (T := TX4) (N := 3) (v := .int 0) jX4_removeAll_X4 tyX4 tyX4_ok nmX4 0 rfl rfl 2 (by decide) kX4_removeAll_17 rfl rfl rfl rfl (Nat.le_of_ble_eq_true rfl) dX4_removeAll_2 (ws2 := (zwT c3.1 nT oT (0, Tf))) rfl (fun H locs hC => ?_)
  have e1 := z_s1 hf
  subst e1
  exact z_vret S0 hr hlk hC dX4_removeAll_5
