-- X3 finding
def f_X3_finding (Vho : Int32) (Vov : Int32) (Vdd : Int32) (Vfh : Int32) (p1 : Int32) : Option (Int32) :=
  if p1 = 0 then
    some (Vho)
  else
    if p1 = 1 then
      some (Vov)
    else
      if p1 = 2 then
        some (Vdd)
      else
        some (Vfh)

theorem kX3_finding_15 : Cond.fieldLink RX3 15 "ZoneSampler$Survey" "holes" "I" ∈ wsX3_finding := by decide +kernel
theorem kX3_finding_19 : Cond.fieldLink RX3 19 "ZoneSampler$Survey" "overlaps" "I" ∈ wsX3_finding := by decide +kernel
theorem kX3_finding_22 : Cond.fieldLink RX3 22 "ZoneSampler$Survey" "deepest" "I" ∈ wsX3_finding := by decide +kernel
theorem kX3_finding_25 : Cond.fieldLink RX3 25 "ZoneSampler$Survey" "firstHole" "I" ∈ wsX3_finding := by decide +kernel
theorem jX3_finding_X3 : ∀ w ∈ u_ws RX3 TX3 5, w ∈ wsX3_finding := by decide +kernel
set_option maxHeartbeats 4000000 in
set_option maxRecDepth 100000 in
theorem c_X3_finding (l : Launch) (G : va_G) (c3 : zT3) (oV : zR2) (BV : zSv) (p1 : Int32) {r : Int32} (hf : f_X3_finding BV.2.1 BV.2.2.1 BV.2.2.2.1 BV.2.2.2.2 p1 = some (r)) : zM l yX3_finding wsX3_finding ⟨0, 0, 0, 0⟩ G c3 (zwV c3.1 oV (BV.1, BV.2.1, BV.2.2.1, BV.2.2.2.1, BV.2.2.2.2)) [.ref oV.1, .int p1] (some (.int r)) (zwV c3.1 oV (BV.1, BV.2.1, BV.2.2.1, BV.2.2.2.1, BV.2.2.2.2)) := by
  obtain ⟨Vdp, Vho, Vov, Vdd, Vfh⟩ := BV
  have hf : f_X3_finding Vho Vov Vdd Vfh p1 = some (r) := hf
  show zM l yX3_finding wsX3_finding ⟨0, 0, 0, 0⟩ G c3 (zwV c3.1 oV (Vdp, Vho, Vov, Vdd, Vfh)) [.ref oV.1, .int p1] (some (.int r)) (zwV c3.1 oV (Vdp, Vho, Vov, Vdd, Vfh))
  refine zM.of (cc := cX3_finding) (maxL := 2) (ret := (some .int)) (by decide) rfl (Nat.le_of_ble_eq_true rfl) ?_
  intro p e s m args below meth c A ls S0 hr hlk hC hl
  have S0 : CallFix p m c cX3_finding 2 s args wsX3_finding RX3 := S0
  have hl : lv_has ls 2 [(0, .ref oV.1), (1, .int p1)] := hl
  have hx := S0.1
  have hb := S0.2.1
  obtain ⟨H, hH⟩ : ∃ y, y = s.heap := ⟨_, rfl⟩
  rw [← hH] at hC ⊢
  obtain ⟨locs, hlo⟩ : ∃ y : List Loc, y = [] := ⟨_, rfl⟩
  rw [← hlo] at hC ⊢
  clear hH hlo
  unfold f_X3_finding at hf
  refine lv_iload_n hx hb dX3_finding_0 rfl (lv_at hl 1 rfl) ?_
  by_cases cd1 : p1 = 0
  · replace hf := z_pos cd1 hf
    refine lv_tableIn (off := 27) (tgt := 28) hx hb dX3_finding_1 (by rw [cd1]; decide) (by rw [cd1]; decide) (by rw [cd1]; rfl) (by decide) ?_
    refine lv_aload_n hx hb dX3_finding_28 rfl (lv_at hl 0 rfl) ?_
    refine z_get S0 hC (ci := 3) (C := RX3) (T := TX3) (N := 5) (v := .int Vho) jX3_finding_X3 0 rfl rfl 1 (by decide) kX3_finding_15 rfl rfl dX3_finding_29 ?_
    have e1 := z_s1 hf
    subst e1
    exact z_iret S0 hr hlk hC dX3_finding_32
  replace hf := z_neg cd1 hf
  by_cases cd2 : p1 = 1
  · replace hf := z_pos cd2 hf
    refine lv_tableIn (off := 32) (tgt := 33) hx hb dX3_finding_1 (by rw [cd2]; decide) (by rw [cd2]; decide) (by rw [cd2]; rfl) (by decide) ?_
    refine lv_aload_n hx hb dX3_finding_33 rfl (lv_at hl 0 rfl) ?_
    refine z_get S0 hC (ci := 3) (C := RX3) (T := TX3) (N := 5) (v := .int Vov) jX3_finding_X3 0 rfl rfl 2 (by decide) kX3_finding_19 rfl rfl dX3_finding_34 ?_
    have e1 := z_s1 hf
    subst e1
    exact z_iret S0 hr hlk hC dX3_finding_37
  replace hf := z_neg cd2 hf
  by_cases cd3 : p1 = 2
  · replace hf := z_pos cd3 hf
    refine lv_tableIn (off := 37) (tgt := 38) hx hb dX3_finding_1 (by rw [cd3]; decide) (by rw [cd3]; decide) (by rw [cd3]; rfl) (by decide) ?_
    refine lv_aload_n hx hb dX3_finding_38 rfl (lv_at hl 0 rfl) ?_
    refine z_get S0 hC (ci := 3) (C := RX3) (T := TX3) (N := 5) (v := .int Vdd) jX3_finding_X3 0 rfl rfl 3 (by decide) kX3_finding_22 rfl rfl dX3_finding_39 ?_
    have e1 := z_s1 hf
    subst e1
    exact z_iret S0 hr hlk hC dX3_finding_42
  replace hf := z_neg cd3 hf
  have D1 : W p l e ⟨0, 0, 0, 0⟩ s m args below meth c H locs 0 0 (MQ below (zPost G (zwV c3.1 oV (Vdp, Vho, Vov, Vdd, Vfh)) (some (.int r)) A) args s 0 0 A) (F0 m 43 ls []) := by
    refine lv_aload_n hx hb dX3_finding_43 rfl (lv_at hl 0 rfl) ?_
    refine z_get S0 hC (ci := 3) (C := RX3) (T := TX3) (N := 5) (v := .int Vfh) jX3_finding_X3 0 rfl rfl 4 (by decide) kX3_finding_25 rfl rfl dX3_finding_44 ?_
    have e1 := z_s1 hf
    subst e1
    exact z_iret S0 hr hlk hC dX3_finding_47
  have e0_1 : (p1).toInt ≠ 0 := fun h => cd1 (Int32.toInt_inj.mp (h.trans (by decide)))
  have e1_1 : (p1).toInt ≠ 1 := fun h => cd2 (Int32.toInt_inj.mp (h.trans (by decide)))
  have e2_1 : (p1).toInt ≠ 2 := fun h => cd3 (Int32.toInt_inj.mp (h.trans (by decide)))
  exact lv_tableOut (tgt := 43) hx hb dX3_finding_1 (by omega) (by decide) D1

-- X3 start
def f_X3_start_2  : Nat → Int32 → (Nat → Int32) → Option (Int32 × (Nat → Int32))
  | 0, _, _ => none
  | fu + 1, y1, Vdp =>
    if 9 ≤ y1 then
      some (y1, Vdp)
    else
      (zast 9 Vdp y1 0).bind fun g3 => f_X3_start_2 fu (y1 + 1) g3

theorem f_X3_start_2_s (y1 : Int32) (Vdp : (Nat → Int32)) (fu : Nat) : f_X3_start_2 (fu + 1) y1 Vdp = (
    if 9 ≤ y1 then
      some (y1, Vdp)
    else
      (zast 9 Vdp y1 0).bind fun g3 => f_X3_start_2 fu (y1 + 1) g3
    ) := rfl

def f_X3_start (Vdp : (Nat → Int32)) (Vho : Int32) (Vov : Int32) (Vdd : Int32) (Vfh : Int32) : Option ((Nat → Int32) × Int32 × Int32 × Int32 × Int32) :=
  (f_X3_start_2 zF 0 Vdp).bind fun t4 =>
    some (t4.2, 0, 0, 0, (-4))

theorem kX3_start_9 : Cond.fieldLink RX3 9 "ZoneSampler$Survey" "depths" "[I" ∈ wsX3_start := by decide +kernel
theorem kX3_start_15 : Cond.fieldLink RX3 15 "ZoneSampler$Survey" "holes" "I" ∈ wsX3_start := by decide +kernel
theorem kX3_start_19 : Cond.fieldLink RX3 19 "ZoneSampler$Survey" "overlaps" "I" ∈ wsX3_start := by decide +kernel
theorem kX3_start_22 : Cond.fieldLink RX3 22 "ZoneSampler$Survey" "deepest" "I" ∈ wsX3_start := by decide +kernel
theorem kX3_start_25 : Cond.fieldLink RX3 25 "ZoneSampler$Survey" "firstHole" "I" ∈ wsX3_start := by decide +kernel
theorem jX3_start_X3 : ∀ w ∈ u_ws RX3 TX3 5, w ∈ wsX3_start := by decide +kernel
set_option maxHeartbeats 4000000 in
set_option maxRecDepth 100000 in
theorem c_X3_start (l : Launch) (G : va_G) (c3 : zT3) (oV : zR2) (BV : zSv) {Vdp' : (Nat → Int32)} {Vho' : Int32} {Vov' : Int32} {Vdd' : Int32} {Vfh' : Int32} (hf : f_X3_start BV.1 BV.2.1 BV.2.2.1 BV.2.2.2.1 BV.2.2.2.2 = some (Vdp', Vho', Vov', Vdd', Vfh')) : zM l yX3_start wsX3_start ⟨0, 0, 0, 0⟩ G c3 (zwV c3.1 oV (BV.1, BV.2.1, BV.2.2.1, BV.2.2.2.1, BV.2.2.2.2)) [.ref oV.1] none (zwV c3.1 oV (Vdp', Vho', Vov', Vdd', Vfh')) := by
  obtain ⟨Vdp, Vho, Vov, Vdd, Vfh⟩ := BV
  have hf : f_X3_start Vdp Vho Vov Vdd Vfh = some (Vdp', Vho', Vov', Vdd', Vfh') := hf
  show zM l yX3_start wsX3_start ⟨0, 0, 0, 0⟩ G c3 (zwV c3.1 oV (Vdp, Vho, Vov, Vdd, Vfh)) [.ref oV.1] none (zwV c3.1 oV (Vdp', Vho', Vov', Vdd', Vfh'))
  refine zM.of (cc := cX3_start) (maxL := 2) (ret := none) (by decide) rfl (Nat.le_of_ble_eq_true rfl) ?_
  intro p e s m args below meth c A ls S0 hr hlk hC hl
  have S0 : CallFix p m c cX3_start 2 s args wsX3_start RX3 := S0
  have hl : lv_has ls 2 [(0, .ref oV.1)] := hl
  have hx := S0.1
  have hb := S0.2.1
  obtain ⟨H, hH⟩ : ∃ y, y = s.heap := ⟨_, rfl⟩
  rw [← hH] at hC ⊢
  obtain ⟨locs, hlo⟩ : ∃ y : List Loc, y = [] := ⟨_, rfl⟩
  rw [← hlo] at hC ⊢
  clear hH hlo
  unfold f_X3_start at hf
  refine lv_iconst (v := 0) hx hb dX3_start_0 (by decide) ?_
  refine lv_istore_n (lv' := [(1, .int 0), (0, .ref oV.1)]) hx hb dX3_start_1 rfl hl (by decide) rfl (fun ls hl => ?_)
  have L2 : ∀ (fu : Nat) (y1 : Int32) (Vdp : (Nat → Int32)) (Vho : Int32) (Vov : Int32) (Vdd : Int32) (Vfh : Int32) (tt : Int32 × (Nat → Int32)), f_X3_start_2 fu y1 Vdp = some tt → ∀ (H : Heap) (locs : List Loc) (ls : Array Slot), zC G c3 A s (zwV c3.1 oV (Vdp, Vho, Vov, Vdd, Vfh)) H locs → lv_has ls 2 [(0, .ref oV.1), (1, .int y1)] → (∀ (H : Heap) (locs : List Loc) (ls : Array Slot), zC G c3 A s (zwV c3.1 oV (tt.2, Vho, Vov, Vdd, Vfh)) H locs → lv_has ls 2 [(0, .ref oV.1), (1, .int tt.1)] → W p l e ⟨0, 0, 0, 0⟩ s m args below meth c H locs 0 0 (MQ below (zPost G (zwV c3.1 oV (Vdp', Vho', Vov', Vdd', Vfh')) none A) args s 0 0 A) (F0 m 24 ls [])) → W p l e ⟨0, 0, 0, 0⟩ s m args below meth c H locs 0 0 (MQ below (zPost G (zwV c3.1 oV (Vdp', Vho', Vov', Vdd', Vfh')) none A) args s 0 0 A) (F0 m 2 ls []) := by
    intro fu
    induction fu with
    | zero =>
      intro y1 Vdp Vho Vov Vdd Vfh tt hf H locs ls hC hl hK
      exact (z_none hf).elim
    | succ fu ih2 =>
      intro y1 Vdp Vho Vov Vdd Vfh tt hf H locs ls hC hl hK
      replace hf := (f_X3_start_2_s y1 Vdp fu).symm.trans hf
      refine lv_iload_n hx hb dX3_start_2 rfl (lv_at hl 1 rfl) ?_
      refine lv_aload_n hx hb dX3_start_3 rfl (lv_at hl 0 rfl) ?_
      refine z_get S0 hC (ci := 3) (C := RX3) (T := TX3) (N := 5) (v := .ref oV.2) jX3_start_X3 0 rfl rfl 0 (by decide) kX3_start_9 rfl rfl dX3_start_4 ?_
      refine z_alen S0 hC 1 0 rfl rfl (v := 9) rfl dX3_start_7 ?_
      refine lv_icmp_ge (tgt := 24) hx hb dX3_start_8 (by decide) (fun cd2 => ?_) (fun cd2 => ?_)
      · replace hf := z_pos cd2 hf
        have e1 := z_s1 hf
        subst e1
        exact hK H locs ls hC (lv_sub hl [0, 1] rfl)
      · replace hf := z_neg cd2 hf
        refine lv_aload_n hx hb dX3_start_11 rfl (lv_at hl 0 rfl) ?_
        refine z_get S0 hC (ci := 3) (C := RX3) (T := TX3) (N := 5) (v := .ref oV.2) jX3_start_X3 0 rfl rfl 0 (by decide) kX3_start_9 rfl rfl dX3_start_12 ?_
        refine lv_iload_n hx hb dX3_start_15 rfl (lv_at hl 1 rfl) ?_
        refine lv_iconst (v := 0) hx hb dX3_start_16 (by decide) ?_
        obtain ⟨g3, hg3, hf⟩ := z_bind hf
        refine z_iast S0 hC 1 rfl hg3 dX3_start_17 (ws2 := (zwV c3.1 oV (g3, Vho, Vov, Vdd, Vfh))) rfl (fun H locs hC => ?_)
        refine lv_iinc (v := (y1 + 1)) (lv' := [(1, .int (y1 + 1)), (0, .ref oV.1)]) hx hb dX3_start_18 hl (k := 1) rfl rfl (by decide) rfl (fun ls hl => ?_)
        refine lv_goto (tgt := 2) hx hb dX3_start_21 (by decide) ?_
        exact ih2 (y1 + 1) g3 Vho Vov Vdd Vfh _ hf H locs ls hC (lv_sub hl [1, 0] rfl) hK
  obtain ⟨t4, ht4, hf⟩ := z_bind hf
  refine L2 zF 0 Vdp Vho Vov Vdd Vfh t4 ht4 H locs ls hC (lv_sub hl [1, 0] rfl) (fun H locs ls hC hl => ?_)
  refine lv_aload_n hx hb dX3_start_24 rfl (lv_at hl 0 rfl) ?_
  refine lv_iconst (v := 0) hx hb dX3_start_25 (by decide) ?_
  refine z_put S0 hC (ci := 3) (C := RX3) (T := TX3) (N := 5) (v := .int 0) jX3_start_X3 tyX3 tyX3_ok nmX3 0 rfl rfl 1 (by decide) kX3_start_15 rfl rfl rfl rfl (Nat.le_of_ble_eq_true rfl) dX3_start_26 (ws2 := (zwV c3.1 oV (t4.2, 0, Vov, Vdd, Vfh))) rfl (fun H locs hC => ?_)
  refine lv_aload_n hx hb dX3_start_29 rfl (lv_at hl 0 rfl) ?_
  refine lv_iconst (v := 0) hx hb dX3_start_30 (by decide) ?_
  refine z_put S0 hC (ci := 3) (C := RX3) (T := TX3) (N := 5) (v := .int 0) jX3_start_X3 tyX3 tyX3_ok nmX3 0 rfl rfl 2 (by decide) kX3_start_19 rfl rfl rfl rfl (Nat.le_of_ble_eq_true rfl) dX3_start_31 (ws2 := (zwV c3.1 oV (t4.2, 0, 0, Vdd, Vfh))) rfl (fun H locs hC => ?_)
  refine lv_aload_n hx hb dX3_start_34 rfl (lv_at hl 0 rfl) ?_
  refine lv_iconst (v := 0) hx hb dX3_start_35 (by decide) ?_
  refine z_put S0 hC (ci := 3) (C := RX3) (T := TX3) (N := 5) (v := .int 0) jX3_start_X3 tyX3 tyX3_ok nmX3 0 rfl rfl 3 (by decide) kX3_start_22 rfl rfl rfl rfl (Nat.le_of_ble_eq_true rfl) dX3_start_36 (ws2 := (zwV c3.1 oV (t4.2, 0, 0, 0, Vfh))) rfl (fun H locs hC => ?_)
  refine lv_aload_n hx hb dX3_start_39 rfl (lv_at hl 0 rfl) ?_
  refine lv_bipush (v := (-4)) hx hb dX3_start_40 (by decide) ?_
  refine z_put S0 hC (ci := 3) (C := RX3) (T := TX3) (N := 5) (v := .int (-4)) jX3_start_X3 tyX3 tyX3_ok nmX3 0 rfl rfl 4 (by decide) kX3_start_25 rfl rfl rfl rfl (Nat.le_of_ble_eq_true rfl) dX3_start_42 (ws2 := (zwV c3.1 oV (t4.2, 0, 0, 0, (-4)))) rfl (fun H locs hC => ?_)
  obtain ⟨e1, e2, e3, e4, e5⟩ := z_s5 hf
  subst e1
  subst e2
  subst e3
  subst e4
  subst e5
  exact z_vret S0 hr hlk hC dX3_start_45

-- X3 see
def f_X3_see (Vho : Int32) (Vov : Int32) (Vdd : Int32) (Vfh : Int32) (p1 : Int32) (p2 : Int32) : Option (Int32 × Int32 × Int32 × Int32) :=
  Option.bind (α := Int32 × Int32) (
    if p2 = 0 then
      Option.bind (α := Int32) (
        if Vfh = (-4) then
          some (p1)
        else
          some (Vfh)
      ) fun t6 =>
        some ((Vho + 1), t6)
    else
      some (Vho, Vfh)
  ) fun t2 =>
    Option.bind (α := Int32) (
      if p2 < 2 then
        some (0)
      else
        some (1)
    ) fun t4 =>
      some (t2.1, (Vov + t4), (if Vdd < p2 then p2 else Vdd), t2.2)

theorem kX3_see_15 : Cond.fieldLink RX3 15 "ZoneSampler$Survey" "holes" "I" ∈ wsX3_see := by decide +kernel
theorem kX3_see_25 : Cond.fieldLink RX3 25 "ZoneSampler$Survey" "firstHole" "I" ∈ wsX3_see := by decide +kernel
theorem kX3_see_19 : Cond.fieldLink RX3 19 "ZoneSampler$Survey" "overlaps" "I" ∈ wsX3_see := by decide +kernel
theorem kX3_see_22 : Cond.fieldLink RX3 22 "ZoneSampler$Survey" "deepest" "I" ∈ wsX3_see := by decide +kernel
theorem kX3_see_58 : Cond.methodLink RX3 58 Lib.Math.max.name ∈ wsX3_see := by decide +kernel
theorem kX3_see_58st : Cond.static Lib.Math.max.name ∈ wsX3_see := by decide +kernel
theorem kX3_see_58in : Cond.initialized "java/lang/Math" ∈ wsX3_see := by decide +kernel
theorem kX3_see_58co : Cond.code Lib.Math.max.name Lib.Math.max.code 2 (some .int) ∈ wsX3_see := by decide +kernel
theorem jX3_see_X3 : ∀ w ∈ u_ws RX3 TX3 5, w ∈ wsX3_see := by decide +kernel
set_option maxHeartbeats 4000000 in
set_option maxRecDepth 100000 in
theorem c_X3_see (l : Launch) (G : va_G) (c3 : zT3) (oV : zR2) (BV : zSv) (p1 : Int32) (p2 : Int32) {Vho' : Int32} {Vov' : Int32} {Vdd' : Int32} {Vfh' : Int32} (hf : f_X3_see BV.2.1 BV.2.2.1 BV.2.2.2.1 BV.2.2.2.2 p1 p2 = some (Vho', Vov', Vdd', Vfh')) : zM l yX3_see wsX3_see ⟨1, 0, 0, 21⟩ G c3 (zwV c3.1 oV (BV.1, BV.2.1, BV.2.2.1, BV.2.2.2.1, BV.2.2.2.2)) [.ref oV.1, .int p1, .int p2] none (zwV c3.1 oV (BV.1, Vho', Vov', Vdd', Vfh')) := by
  obtain ⟨Vdp, Vho, Vov, Vdd, Vfh⟩ := BV
  have hf : f_X3_see Vho Vov Vdd Vfh p1 p2 = some (Vho', Vov', Vdd', Vfh') := hf
  show zM l yX3_see wsX3_see ⟨1, 0, 0, 21⟩ G c3 (zwV c3.1 oV (Vdp, Vho, Vov, Vdd, Vfh)) [.ref oV.1, .int p1, .int p2] none (zwV c3.1 oV (Vdp, Vho', Vov', Vdd', Vfh'))
  refine zM.of (cc := cX3_see) (maxL := 3) (ret := none) (by decide) rfl (Nat.le_of_ble_eq_true rfl) ?_
  intro p e s m args below meth c A ls S0 hr hlk hC hl
  have S0 : CallFix p m c cX3_see 3 s args wsX3_see RX3 := S0
  have hl : lv_has ls 3 [(0, .ref oV.1), (1, .int p1), (2, .int p2)] := hl
  have hx := S0.1
  have hb := S0.2.1
  obtain ⟨H, hH⟩ : ∃ y, y = s.heap := ⟨_, rfl⟩
  rw [← hH] at hC ⊢
  obtain ⟨locs, hlo⟩ : ∃ y : List Loc, y = [] := ⟨_, rfl⟩
  rw [← hlo] at hC ⊢
  clear hH hlo
  unfold f_X3_see at hf
  refine lv_iload_n hx hb dX3_see_0 rfl (lv_at hl 2 rfl) ?_
  obtain ⟨t2, ht2, hf⟩ := z_bind hf
  have Jt2 : ∀ (H : Heap) (locs : List Loc) (ls : Array Slot), zC G c3 A s (zwV c3.1 oV (Vdp, t2.1, Vov, Vdd, t2.2)) H locs → lv_has ls 3 [(0, .ref oV.1), (1, .int p1), (2, .int p2)] → W p l e ⟨1, 0, 0, 21⟩ s m args below meth c H locs 0 0 (MQ below (zPost G (zwV c3.1 oV (Vdp, Vho', Vov', Vdd', Vfh')) none A) args s 0 0 A) (F0 m 35 ls []) := by
    intro H locs ls hC hl
    refine lv_aload_n hx hb dX3_see_35 rfl (lv_at hl 0 rfl) ?_
    refine lv_dup hx hb dX3_see_36 rfl ?_
    refine z_get S0 hC (ci := 3) (C := RX3) (T := TX3) (N := 5) (v := .int Vov) jX3_see_X3 0 rfl rfl 2 (by decide) kX3_see_19 rfl rfl dX3_see_37 ?_
    refine lv_iload_n hx hb dX3_see_40 rfl (lv_at hl 2 rfl) ?_
    refine lv_iconst (v := 2) hx hb dX3_see_41 (by decide) ?_
    obtain ⟨t4, ht4, hf⟩ := z_bind hf
    have Jt4 : ∀ (H : Heap) (locs : List Loc) (ls : Array Slot), zC G c3 A s (zwV c3.1 oV (Vdp, t2.1, Vov, Vdd, t2.2)) H locs → lv_has ls 3 [(0, .ref oV.1), (1, .int p1), (2, .int p2)] → W p l e ⟨1, 0, 0, 21⟩ s m args below meth c H locs 0 0 (MQ below (zPost G (zwV c3.1 oV (Vdp, Vho', Vov', Vdd', Vfh')) none A) args s 0 0 A) (F0 m 50 ls [.int t4, .int Vov, .ref oV.1]) := by
      intro H locs ls hC hl
      refine lv_iadd hx hb dX3_see_50 ?_
      refine z_put S0 hC (ci := 3) (C := RX3) (T := TX3) (N := 5) (v := .int (Vov + t4)) jX3_see_X3 tyX3 tyX3_ok nmX3 0 rfl rfl 2 (by decide) kX3_see_19 rfl rfl rfl rfl (Nat.le_of_ble_eq_true rfl) dX3_see_51 (ws2 := (zwV c3.1 oV (Vdp, t2.1, (Vov + t4), Vdd, t2.2))) rfl (fun H locs hC => ?_)
      refine lv_aload_n hx hb dX3_see_54 rfl (lv_at hl 0 rfl) ?_
      refine lv_aload_n hx hb dX3_see_55 rfl (lv_at hl 0 rfl) ?_
      refine z_get S0 hC (ci := 3) (C := RX3) (T := TX3) (N := 5) (v := .int Vdd) jX3_see_X3 0 rfl rfl 3 (by decide) kX3_see_22 rfl rfl dX3_see_56 ?_
      refine lv_iload_n hx hb dX3_see_59 rfl (lv_at hl 2 rfl) ?_
      refine z_mmax S0 hl.1 kX3_see_58 kX3_see_58st kX3_see_58in kX3_see_58co (Nat.le_of_ble_eq_true rfl) (Nat.le_of_ble_eq_true rfl) dX3_see_60 ?_
      refine z_put S0 hC (ci := 3) (C := RX3) (T := TX3) (N := 5) (v := .int (if Vdd < p2 then p2 else Vdd)) jX3_see_X3 tyX3 tyX3_ok nmX3 0 rfl rfl 3 (by decide) kX3_see_22 rfl rfl rfl rfl (Nat.le_of_ble_eq_true rfl) dX3_see_63 (ws2 := (zwV c3.1 oV (Vdp, t2.1, (Vov + t4), (if Vdd < p2 then p2 else Vdd), t2.2))) rfl (fun H locs hC => ?_)
      obtain ⟨e1, e2, e3, e4⟩ := z_s4 hf
      subst e1
      subst e2
      subst e3
      subst e4
      exact z_vret S0 hr hlk hC dX3_see_66
    refine lv_icmp_lt (tgt := 49) hx hb dX3_see_42 (by decide) (fun cd3 => ?_) (fun cd3 => ?_)
    · replace ht4 := z_pos cd3 ht4
      refine lv_iconst (v := 0) hx hb dX3_see_49 (by decide) ?_
      have e1 := z_s1 ht4
      subst e1
      exact Jt4 H locs ls hC (lv_sub hl [0, 1, 2] rfl)
    · replace ht4 := z_neg cd3 ht4
      refine lv_iconst (v := 1) hx hb dX3_see_45 (by decide) ?_
      refine lv_goto (tgt := 50) hx hb dX3_see_46 (by decide) ?_
      have e1 := z_s1 ht4
      subst e1
      exact Jt4 H locs ls hC (lv_sub hl [0, 1, 2] rfl)
  refine lv_if_ne (tgt := 35) hx hb dX3_see_1 (by decide) (fun cd1 => ?_) (fun cd1 => ?_)
  · replace ht2 := z_neg cd1 ht2
    have e1 := z_s1 ht2
    subst e1
    exact Jt2 H locs ls hC (lv_sub hl [0, 1, 2] rfl)
  · replace ht2 := z_pos cd1 ht2
    refine lv_aload_n hx hb dX3_see_4 rfl (lv_at hl 0 rfl) ?_
    refine lv_dup hx hb dX3_see_5 rfl ?_
    refine z_get S0 hC (ci := 3) (C := RX3) (T := TX3) (N := 5) (v := .int Vho) jX3_see_X3 0 rfl rfl 1 (by decide) kX3_see_15 rfl rfl dX3_see_6 ?_
    refine lv_iconst (v := 1) hx hb dX3_see_9 (by decide) ?_
    refine lv_iadd hx hb dX3_see_10 ?_
    refine z_put S0 hC (ci := 3) (C := RX3) (T := TX3) (N := 5) (v := .int (Vho + 1)) jX3_see_X3 tyX3 tyX3_ok nmX3 0 rfl rfl 1 (by decide) kX3_see_15 rfl rfl rfl rfl (Nat.le_of_ble_eq_true rfl) dX3_see_11 (ws2 := (zwV c3.1 oV (Vdp, (Vho + 1), Vov, Vdd, Vfh))) rfl (fun H locs hC => ?_)
    refine lv_aload_n hx hb dX3_see_14 rfl (lv_at hl 0 rfl) ?_
    refine lv_aload_n hx hb dX3_see_15 rfl (lv_at hl 0 rfl) ?_
    refine z_get S0 hC (ci := 3) (C := RX3) (T := TX3) (N := 5) (v := .int Vfh) jX3_see_X3 0 rfl rfl 4 (by decide) kX3_see_25 rfl rfl dX3_see_16 ?_
    refine lv_bipush (v := (-4)) hx hb dX3_see_19 (by decide) ?_
    obtain ⟨t6, ht6, ht2⟩ := z_bind ht2
    have Jt6 : ∀ (H : Heap) (locs : List Loc) (ls : Array Slot), zC G c3 A s (zwV c3.1 oV (Vdp, (Vho + 1), Vov, Vdd, Vfh)) H locs → lv_has ls 3 [(0, .ref oV.1), (1, .int p1), (2, .int p2)] → W p l e ⟨1, 0, 0, 21⟩ s m args below meth c H locs 0 0 (MQ below (zPost G (zwV c3.1 oV (Vdp, Vho', Vov', Vdd', Vfh')) none A) args s 0 0 A) (F0 m 32 ls [.int t6, .ref oV.1]) := by
      intro H locs ls hC hl
      refine z_put S0 hC (ci := 3) (C := RX3) (T := TX3) (N := 5) (v := .int t6) jX3_see_X3 tyX3 tyX3_ok nmX3 0 rfl rfl 4 (by decide) kX3_see_25 rfl rfl rfl rfl (Nat.le_of_ble_eq_true rfl) dX3_see_32 (ws2 := (zwV c3.1 oV (Vdp, (Vho + 1), Vov, Vdd, t6))) rfl (fun H locs hC => ?_)
      have e1 := z_s1 ht2
      subst e1
      exact Jt2 H locs ls hC (lv_sub hl [0, 1, 2] rfl)
    refine lv_icmp_ne (tgt := 28) hx hb dX3_see_21 (by decide) (fun cd5 => ?_) (fun cd5 => ?_)
    · replace ht6 := z_neg cd5 ht6
      refine lv_aload_n hx hb dX3_see_28 rfl (lv_at hl 0 rfl) ?_
      refine z_get S0 hC (ci := 3) (C := RX3) (T := TX3) (N := 5) (v := .int Vfh) jX3_see_X3 0 rfl rfl 4 (by decide) kX3_see_25 rfl rfl dX3_see_29 ?_
      have e1 := z_s1 ht6
      subst e1
      exact Jt6 H locs ls hC (lv_sub hl [0, 1, 2] rfl)
    · replace ht6 := z_pos cd5 ht6
      refine lv_iload_n hx hb dX3_see_24 rfl (lv_at hl 1 rfl) ?_
      refine lv_goto (tgt := 32) hx hb dX3_see_25 (by decide) ?_
      have e1 := z_s1 ht6
      subst e1
      exact Jt6 H locs ls hC (lv_sub hl [0, 1, 2] rfl)

-- X3 deepen
def f_X3_deepen_3 (nT : Nat) (y2 : Int32) (y3 : Int32) (Tr : Int32) (Tf : (Nat → Int32)) : Nat → Int32 → (Nat → Int32) → Option (Int32 × (Nat → Int32))
  | 0, _, _ => none
  | fu + 1, y4, Vdp =>
    if 9 ≤ y4 then
      some (y4, Vdp)
    else
      (f_X4_get nT Tr Tf y2 2).bind fun r3 => Option.bind (α := (Nat → Int32)) (
        if (y4 + 1) < r3 then
          some (Vdp)
        else
          (f_X4_get nT Tr Tf y2 3).bind fun r6 => if r6 < (y4 + 1) then
            some (Vdp)
          else
            (zald 9 Vdp y4).bind fun x8 => (zast 9 Vdp y4 (x8 + y3)).bind fun g9 => some (g9)
      ) fun t5 =>
        f_X3_deepen_3 nT y2 y3 Tr Tf fu (y4 + 1) t5

theorem f_X3_deepen_3_s (nT : Nat) (y2 : Int32) (y3 : Int32) (Tr : Int32) (Tf : (Nat → Int32)) (y4 : Int32) (Vdp : (Nat → Int32)) (fu : Nat) : f_X3_deepen_3 nT y2 y3 Tr Tf (fu + 1) y4 Vdp = (
    if 9 ≤ y4 then
      some (y4, Vdp)
    else
      (f_X4_get nT Tr Tf y2 2).bind fun r3 => Option.bind (α := (Nat → Int32)) (
        if (y4 + 1) < r3 then
          some (Vdp)
        else
          (f_X4_get nT Tr Tf y2 3).bind fun r6 => if r6 < (y4 + 1) then
            some (Vdp)
          else
            (zald 9 Vdp y4).bind fun x8 => (zast 9 Vdp y4 (x8 + y3)).bind fun g9 => some (g9)
      ) fun t5 =>
        f_X3_deepen_3 nT y2 y3 Tr Tf fu (y4 + 1) t5
    ) := rfl

def f_X3_deepen (nT : Nat) (Vdp : (Nat → Int32)) (Tr : Int32) (Tf : (Nat → Int32)) (p2 : Int32) (p3 : Int32) : Option ((Nat → Int32)) :=
  (f_X3_deepen_3 nT p2 p3 Tr Tf zF 0 Vdp).bind fun t10 =>
    some (t10.2)

theorem kX3_deepen_9 : Cond.fieldLink RX3 9 "ZoneSampler$Survey" "depths" "[I" ∈ wsX3_deepen := by decide +kernel
theorem jX3_deepen_X3 : ∀ w ∈ u_ws RX3 TX3 5, w ∈ wsX3_deepen := by decide +kernel
set_option maxHeartbeats 4000000 in
set_option maxRecDepth 100000 in
theorem c_X3_deepen (l : Launch) (G : va_G) (c3 : zT3) (oV : zR2) (BV : zSv) (oT : zR2) (nT : Nat) (BT : zTb) (p2 : Int32) (p3 : Int32) {Vdp' : (Nat → Int32)} (hf : f_X3_deepen nT BV.1 BT.1 BT.2 p2 p3 = some (Vdp')) : zM l yX3_deepen wsX3_deepen ⟨1, 0, 0, 23⟩ G c3 (zwV c3.1 oV (BV.1, BV.2.1, BV.2.2.1, BV.2.2.2.1, BV.2.2.2.2) ++ zwT c3.1 nT oT (BT.1, BT.2)) [.ref oV.1, .ref oT.1, .int p2, .int p3] none (zwV c3.1 oV (Vdp', BV.2.1, BV.2.2.1, BV.2.2.2.1, BV.2.2.2.2) ++ zwT c3.1 nT oT (BT.1, BT.2)) := by
  obtain ⟨Vdp, Vho, Vov, Vdd, Vfh⟩ := BV
  obtain ⟨Tr, Tf⟩ := BT
  have hf : f_X3_deepen nT Vdp Tr Tf p2 p3 = some (Vdp') := hf
  show zM l yX3_deepen wsX3_deepen ⟨1, 0, 0, 23⟩ G c3 (zwV c3.1 oV (Vdp, Vho, Vov, Vdd, Vfh) ++ zwT c3.1 nT oT (Tr, Tf)) [.ref oV.1, .ref oT.1, .int p2, .int p3] none (zwV c3.1 oV (Vdp', Vho, Vov, Vdd, Vfh) ++ zwT c3.1 nT oT (Tr, Tf))
  refine zM.of (cc := cX3_deepen) (maxL := 5) (ret := none) (by decide) rfl (Nat.le_of_ble_eq_true rfl) ?_
  intro p e s m args below meth c A ls S0 hr hlk hC hl
  have S0 : CallFix p m c cX3_deepen 5 s args wsX3_deepen RX3 := S0
  have hl : lv_has ls 5 [(0, .ref oV.1), (1, .ref oT.1), (2, .int p2), (3, .int p3)] := hl
  have hx := S0.1
  have hb := S0.2.1
  obtain ⟨H, hH⟩ : ∃ y, y = s.heap := ⟨_, rfl⟩
  rw [← hH] at hC ⊢
  obtain ⟨locs, hlo⟩ : ∃ y : List Loc, y = [] := ⟨_, rfl⟩
  rw [← hlo] at hC ⊢
  clear hH hlo
  unfold f_X3_deepen at hf
  refine lv_iconst (v := 0) hx hb dX3_deepen_0 (by decide) ?_
  refine lv_istore (lv' := [(4, .int 0), (0, .ref oV.1), (1, .ref oT.1), (2, .int p2), (3, .int p3)]) hx hb dX3_deepen_1 hl (by decide) rfl (fun ls hl => ?_)
  have L3 : ∀ (fu : Nat) (y2 : Int32) (y3 : Int32) (y4 : Int32) (Vdp : (Nat → Int32)) (Vho : Int32) (Vov : Int32) (Vdd : Int32) (Vfh : Int32) (Tr : Int32) (Tf : (Nat → Int32)) (tt : Int32 × (Nat → Int32)), f_X3_deepen_3 nT y2 y3 Tr Tf fu y4 Vdp = some tt → ∀ (H : Heap) (locs : List Loc) (ls : Array Slot), zC G c3 A s (zwV c3.1 oV (Vdp, Vho, Vov, Vdd, Vfh) ++ zwT c3.1 nT oT (Tr, Tf)) H locs → lv_has ls 5 [(0, .ref oV.1), (1, .ref oT.1), (2, .int y2), (3, .int y3), (4, .int y4)] → (∀ (H : Heap) (locs : List Loc) (ls : Array Slot), zC G c3 A s (zwV c3.1 oV (tt.2, Vho, Vov, Vdd, Vfh) ++ zwT c3.1 nT oT (Tr, Tf)) H locs → lv_has ls 5 [(0, .ref oV.1), (1, .ref oT.1), (2, .int y2), (3, .int y3), (4, .int tt.1)] → W p l e ⟨1, 0, 0, 23⟩ s m args below meth c H locs 0 0 (MQ below (zPost G (zwV c3.1 oV (Vdp', Vho, Vov, Vdd, Vfh) ++ zwT c3.1 nT oT (Tr, Tf)) none A) args s 0 0 A) (F0 m 56 ls [])) → W p l e ⟨1, 0, 0, 23⟩ s m args below meth c H locs 0 0 (MQ below (zPost G (zwV c3.1 oV (Vdp', Vho, Vov, Vdd, Vfh) ++ zwT c3.1 nT oT (Tr, Tf)) none A) args s 0 0 A) (F0 m 3 ls []) := by
    intro fu
    induction fu with
    | zero =>
      intro y2 y3 y4 Vdp Vho Vov Vdd Vfh Tr Tf tt hf H locs ls hC hl hK
      exact (z_none hf).elim
    | succ fu ih3 =>
      intro y2 y3 y4 Vdp Vho Vov Vdd Vfh Tr Tf tt hf H locs ls hC hl hK
      replace hf := (f_X3_deepen_3_s nT y2 y3 Tr Tf y4 Vdp fu).symm.trans hf
      refine lv_iload hx hb dX3_deepen_3 (lv_at hl 4 rfl) ?_
      refine lv_aload_n hx hb dX3_deepen_5 rfl (lv_at hl 0 rfl) ?_
      refine z_get S0 hC (ci := 3) (C := RX3) (T := TX3) (N := 5) (v := .ref oV.2) jX3_deepen_X3 0 rfl rfl 0 (by decide) kX3_deepen_9 rfl rfl dX3_deepen_6 ?_
      refine z_alen S0 hC 1 0 rfl rfl (v := 9) rfl dX3_deepen_9 ?_
      refine lv_icmp_ge (tgt := 56) hx hb dX3_deepen_10 (by decide) (fun cd2 => ?_) (fun cd2 => ?_)
      · replace hf := z_pos cd2 hf
        have e1 := z_s1 hf
        subst e1
        exact hK H locs ls hC (lv_sub hl [0, 1, 2, 3, 4] rfl)
      · replace hf := z_neg cd2 hf
        refine lv_iload hx hb dX3_deepen_13 (lv_at hl 4 rfl) ?_
        refine lv_iconst (v := 1) hx hb dX3_deepen_15 (by decide) ?_
        refine lv_iadd hx hb dX3_deepen_16 ?_
        refine lv_aload_n hx hb dX3_deepen_17 rfl (lv_at hl 1 rfl) ?_
        refine lv_iload_n hx hb dX3_deepen_18 rfl (lv_at hl 2 rfl) ?_
        refine lv_iconst (v := 2) hx hb dX3_deepen_19 (by decide) ?_
        obtain ⟨r3, hr3, hf⟩ := z_bind hf
        refine z_callPi (z_runV (n := 2) (rest := [.int (y4 + 1)]) (As := [.int y2, .int 2]) S0 hC (c_X4_get l G c3 oT nT (Tr, Tf) y2 2 hr3) [2, 3] (by decide) rfl gX3_deepen_X4_get rfl rfl rfl (by decide +kernel) ⟨Nat.le_of_ble_eq_true rfl, Nat.le_of_ble_eq_true rfl⟩ (ci := 4) (q0 := 2) rfl rfl rfl hl.1 rfl (Nat.le_of_ble_eq_true rfl) dX3_deepen_20) hC [2, 3] rfl (fun H locs hC => ?_)
        obtain ⟨t5, ht5, hf⟩ := z_bind hf
        have Jt5 : ∀ (H : Heap) (locs : List Loc) (ls : Array Slot), zC G c3 A s (zwV c3.1 oV (t5, Vho, Vov, Vdd, Vfh) ++ zwT c3.1 nT oT (Tr, Tf)) H locs → lv_has ls 5 [(0, .ref oV.1), (1, .ref oT.1), (2, .int y2), (3, .int y3), (4, .int y4)] → W p l e ⟨1, 0, 0, 23⟩ s m args below meth c H locs 0 0 (MQ below (zPost G (zwV c3.1 oV (Vdp', Vho, Vov, Vdd, Vfh) ++ zwT c3.1 nT oT (Tr, Tf)) none A) args s 0 0 A) (F0 m 50 ls []) := by
          intro H locs ls hC hl
          refine lv_iinc (v := (y4 + 1)) (lv' := [(4, .int (y4 + 1)), (0, .ref oV.1), (1, .ref oT.1), (2, .int y2), (3, .int y3)]) hx hb dX3_deepen_50 hl (k := 4) rfl rfl (by decide) rfl (fun ls hl => ?_)
          refine lv_goto (tgt := 3) hx hb dX3_deepen_53 (by decide) ?_
          exact ih3 y2 y3 (y4 + 1) t5 Vho Vov Vdd Vfh Tr Tf _ hf H locs ls hC (lv_sub hl [1, 2, 3, 4, 0] rfl) hK
        refine lv_icmp_lt (tgt := 50) hx hb dX3_deepen_23 (by decide) (fun cd4 => ?_) (fun cd4 => ?_)
        · replace ht5 := z_pos cd4 ht5
          have e1 := z_s1 ht5
          subst e1
          exact Jt5 H locs ls hC (lv_sub hl [0, 1, 2, 3, 4] rfl)
        · replace ht5 := z_neg cd4 ht5
          refine lv_iload hx hb dX3_deepen_26 (lv_at hl 4 rfl) ?_
          refine lv_iconst (v := 1) hx hb dX3_deepen_28 (by decide) ?_
          refine lv_iadd hx hb dX3_deepen_29 ?_
          refine lv_aload_n hx hb dX3_deepen_30 rfl (lv_at hl 1 rfl) ?_
          refine lv_iload_n hx hb dX3_deepen_31 rfl (lv_at hl 2 rfl) ?_
          refine lv_iconst (v := 3) hx hb dX3_deepen_32 (by decide) ?_
          obtain ⟨r6, hr6, ht5⟩ := z_bind ht5
          refine z_callPi (z_runV (n := 2) (rest := [.int (y4 + 1)]) (As := [.int y2, .int 3]) S0 hC (c_X4_get l G c3 oT nT (Tr, Tf) y2 3 hr6) [2, 3] (by decide) rfl gX3_deepen_X4_get rfl rfl rfl (by decide +kernel) ⟨Nat.le_of_ble_eq_true rfl, Nat.le_of_ble_eq_true rfl⟩ (ci := 4) (q0 := 2) rfl rfl rfl hl.1 rfl (Nat.le_of_ble_eq_true rfl) dX3_deepen_33) hC [2, 3] rfl (fun H locs hC => ?_)
          refine lv_icmp_gt (tgt := 50) hx hb dX3_deepen_36 (by decide) (fun cd7 => ?_) (fun cd7 => ?_)
          · replace ht5 := z_pos cd7 ht5
            have e1 := z_s1 ht5
            subst e1
            exact Jt5 H locs ls hC (lv_sub hl [0, 1, 2, 3, 4] rfl)
          · replace ht5 := z_neg cd7 ht5
            refine lv_aload_n hx hb dX3_deepen_39 rfl (lv_at hl 0 rfl) ?_
            refine z_get S0 hC (ci := 3) (C := RX3) (T := TX3) (N := 5) (v := .ref oV.2) jX3_deepen_X3 0 rfl rfl 0 (by decide) kX3_deepen_9 rfl rfl dX3_deepen_40 ?_
            refine lv_iload hx hb dX3_deepen_43 (lv_at hl 4 rfl) ?_
            refine lv_dup2_11 hx hb dX3_deepen_45 rfl rfl ?_
            obtain ⟨x8, hx8, ht5⟩ := z_bind ht5
            refine z_iald S0 hC 1 rfl hx8 dX3_deepen_46 ?_
            refine lv_iload_n hx hb dX3_deepen_47 rfl (lv_at hl 3 rfl) ?_
            refine lv_iadd hx hb dX3_deepen_48 ?_
            obtain ⟨g9, hg9, ht5⟩ := z_bind ht5
            refine z_iast S0 hC 1 rfl hg9 dX3_deepen_49 (ws2 := (zwV c3.1 oV (g9, Vho, Vov, Vdd, Vfh) ++ zwT c3.1 nT oT (Tr, Tf))) rfl (fun H locs hC => ?_)
            have e1 := z_s1 ht5
            subst e1
            exact Jt5 H locs ls hC (lv_sub hl [0, 1, 2, 3, 4] rfl)
  obtain ⟨t10, ht10, hf⟩ := z_bind hf
  refine L3 zF p2 p3 0 Vdp Vho Vov Vdd Vfh Tr Tf t10 ht10 H locs ls hC (lv_sub hl [1, 2, 3, 4, 0] rfl) (fun H locs ls hC hl => ?_)
  have e1 := z_s1 hf
  subst e1
  exact z_vret S0 hr hlk hC dX3_deepen_56

-- X3 goByPlaces
def f_X3_goByPlaces_14 (y2 : Int32) (bzr : Int32) (bzf : (Nat → Int32)) : Nat → Int32 → Int32 → Int32 → Int32 → Int32 → Option (Int32 × Int32 × Int32 × Int32 × Int32)
  | 0, _, _, _, _, _ => none
  | fu + 1, y3, Vho, Vov, Vdd, Vfh =>
    if 9 < y3 then
      some (y3, Vho, Vov, Vdd, Vfh)
    else
      (f_X2_matching bzr bzf y2 y3).bind fun r6 => (f_X3_see Vho Vov Vdd Vfh y2 r6).bind fun r7 => f_X3_goByPlaces_14 y2 bzr bzf fu (y3 + 1) r7.1 r7.2.1 r7.2.2.1 r7.2.2.2

theorem f_X3_goByPlaces_14_s (y2 : Int32) (bzr : Int32) (bzf : (Nat → Int32)) (y3 : Int32) (Vho : Int32) (Vov : Int32) (Vdd : Int32) (Vfh : Int32) (fu : Nat) : f_X3_goByPlaces_14 y2 bzr bzf (fu + 1) y3 Vho Vov Vdd Vfh = (
    if 9 < y3 then
      some (y3, Vho, Vov, Vdd, Vfh)
    else
      (f_X2_matching bzr bzf y2 y3).bind fun r6 => (f_X3_see Vho Vov Vdd Vfh y2 r6).bind fun r7 => f_X3_goByPlaces_14 y2 bzr bzf fu (y3 + 1) r7.1 r7.2.1 r7.2.2.1 r7.2.2.2
    ) := rfl

def f_X3_goByPlaces_6 (bzr : Int32) (bzf : (Nat → Int32)) : Nat → Int32 → Int32 → Int32 → Int32 → Int32 → Option (Int32 × Int32 × Int32 × Int32 × Int32)
  | 0, _, _, _, _, _ => none
  | fu + 1, y2, Vho, Vov, Vdd, Vfh =>
    if 35 < y2 then
      some (y2, Vho, Vov, Vdd, Vfh)
    else
      (f_X3_goByPlaces_14 y2 bzr bzf zF 1 Vho Vov Vdd Vfh).bind fun t8 =>
        f_X3_goByPlaces_6 bzr bzf fu (y2 + 1) t8.2.1 t8.2.2.1 t8.2.2.2.1 t8.2.2.2.2

theorem f_X3_goByPlaces_6_s (bzr : Int32) (bzf : (Nat → Int32)) (y2 : Int32) (Vho : Int32) (Vov : Int32) (Vdd : Int32) (Vfh : Int32) (fu : Nat) : f_X3_goByPlaces_6 bzr bzf (fu + 1) y2 Vho Vov Vdd Vfh = (
    if 35 < y2 then
      some (y2, Vho, Vov, Vdd, Vfh)
    else
      (f_X3_goByPlaces_14 y2 bzr bzf zF 1 Vho Vov Vdd Vfh).bind fun t8 =>
        f_X3_goByPlaces_6 bzr bzf fu (y2 + 1) t8.2.1 t8.2.2.1 t8.2.2.2.1 t8.2.2.2.2
    ) := rfl

def f_X3_goByPlaces (Vdp : (Nat → Int32)) (Vho : Int32) (Vov : Int32) (Vdd : Int32) (Vfh : Int32) (bzr : Int32) (bzf : (Nat → Int32)) : Option ((Nat → Int32) × Int32 × Int32 × Int32 × Int32) :=
  (f_X3_start Vdp Vho Vov Vdd Vfh).bind fun r1 => (f_X3_goByPlaces_6 bzr bzf zF 0 r1.2.1 r1.2.2.1 r1.2.2.2.1 r1.2.2.2.2).bind fun t9 =>
    some (r1.1, t9.2.1, t9.2.2.1, t9.2.2.2.1, t9.2.2.2.2)

set_option maxHeartbeats 4000000 in
set_option maxRecDepth 100000 in
theorem c_X3_goByPlaces (l : Launch) (G : va_G) (c3 : zT3) (oV : zR2) (BV : zSv) (ob : zR6) (Bb : zSt) {Vdp' : (Nat → Int32)} {Vho' : Int32} {Vov' : Int32} {Vdd' : Int32} {Vfh' : Int32} (hf : f_X3_goByPlaces BV.1 BV.2.1 BV.2.2.1 BV.2.2.2.1 BV.2.2.2.2 Bb.1.1 Bb.1.2 = some (Vdp', Vho', Vov', Vdd', Vfh')) : zM l yX3_goByPlaces wsX3_goByPlaces ⟨3, 0, 0, 70⟩ G c3 (zwV c3.1 oV (BV.1, BV.2.1, BV.2.2.1, BV.2.2.2.1, BV.2.2.2.2) ++ zwS c3.1 ob ((Bb.1.1, Bb.1.2), (Bb.2.1.1, Bb.2.1.2), Bb.2.2.1, Bb.2.2.2.1, Bb.2.2.2.2)) [.ref oV.1, .ref ob.1] none (zwV c3.1 oV (Vdp', Vho', Vov', Vdd', Vfh') ++ zwS c3.1 ob ((Bb.1.1, Bb.1.2), (Bb.2.1.1, Bb.2.1.2), Bb.2.2.1, Bb.2.2.2.1, Bb.2.2.2.2)) := by
  obtain ⟨Vdp, Vho, Vov, Vdd, Vfh⟩ := BV
  obtain ⟨⟨bzr, bzf⟩, ⟨bvr, bvf⟩, bnm, bpd, bnt⟩ := Bb
  have hf : f_X3_goByPlaces Vdp Vho Vov Vdd Vfh bzr bzf = some (Vdp', Vho', Vov', Vdd', Vfh') := hf
  show zM l yX3_goByPlaces wsX3_goByPlaces ⟨3, 0, 0, 70⟩ G c3 (zwV c3.1 oV (Vdp, Vho, Vov, Vdd, Vfh) ++ zwS c3.1 ob ((bzr, bzf), (bvr, bvf), bnm, bpd, bnt)) [.ref oV.1, .ref ob.1] none (zwV c3.1 oV (Vdp', Vho', Vov', Vdd', Vfh') ++ zwS c3.1 ob ((bzr, bzf), (bvr, bvf), bnm, bpd, bnt))
  refine zM.of (cc := cX3_goByPlaces) (maxL := 4) (ret := none) (by decide) rfl (Nat.le_of_ble_eq_true rfl) ?_
  intro p e s m args below meth c A ls S0 hr hlk hC hl
  have S0 : CallFix p m c cX3_goByPlaces 4 s args wsX3_goByPlaces RX3 := S0
  have hl : lv_has ls 4 [(0, .ref oV.1), (1, .ref ob.1)] := hl
  have hx := S0.1
  have hb := S0.2.1
  obtain ⟨H, hH⟩ : ∃ y, y = s.heap := ⟨_, rfl⟩
  rw [← hH] at hC ⊢
  obtain ⟨locs, hlo⟩ : ∃ y : List Loc, y = [] := ⟨_, rfl⟩
  rw [← hlo] at hC ⊢
  clear hH hlo
  unfold f_X3_goByPlaces at hf
  refine lv_aload_n hx hb dX3_goByPlaces_0 rfl (lv_at hl 0 rfl) ?_
  obtain ⟨r1, hr1, hf⟩ := z_bind hf
  refine z_callv (z_runV (n := 0) (rest := []) (As := []) S0 hC (c_X3_start l G c3 oV (Vdp, Vho, Vov, Vdd, Vfh) hr1) [0, 1] (by decide) rfl gX3_goByPlaces_X3_start rfl rfl rfl (by decide +kernel) ⟨Nat.le_of_ble_eq_true rfl, Nat.le_of_ble_eq_true rfl⟩ (ci := 3) (q0 := 0) rfl rfl rfl hl.1 rfl (Nat.le_of_ble_eq_true rfl) dX3_goByPlaces_1) hC [0, 1] [2, 3, 4, 5, 6, 7] [6, 7, 0, 1, 2, 3, 4, 5] rfl (wr := (zwS c3.1 ob ((bzr, bzf), (bvr, bvf), bnm, bpd, bnt))) rfl (by decide) (by decide) (ws2 := (zwV c3.1 oV (r1.1, r1.2.1, r1.2.2.1, r1.2.2.2.1, r1.2.2.2.2) ++ zwS c3.1 ob ((bzr, bzf), (bvr, bvf), bnm, bpd, bnt))) rfl (by decide) (fun H locs hC => ?_)
  refine lv_iconst (v := 0) hx hb dX3_goByPlaces_4 (by decide) ?_
  refine lv_istore_n (lv' := [(2, .int 0), (0, .ref oV.1), (1, .ref ob.1)]) hx hb dX3_goByPlaces_5 rfl hl (by decide) rfl (fun ls hl => ?_)
  have L6 : ∀ (fu : Nat) (y2 : Int32) (Vdp : (Nat → Int32)) (Vho : Int32) (Vov : Int32) (Vdd : Int32) (Vfh : Int32) (bzr : Int32) (bzf : (Nat → Int32)) (bvr : Int32) (bvf : (Nat → Int32)) (bnm : (Nat → Int32)) (bpd : Int32) (bnt : Int32) (tt : Int32 × Int32 × Int32 × Int32 × Int32), f_X3_goByPlaces_6 bzr bzf fu y2 Vho Vov Vdd Vfh = some tt → ∀ (H : Heap) (locs : List Loc) (ls : Array Slot), zC G c3 A s (zwV c3.1 oV (Vdp, Vho, Vov, Vdd, Vfh) ++ zwS c3.1 ob ((bzr, bzf), (bvr, bvf), bnm, bpd, bnt)) H locs → lv_has ls 4 [(0, .ref oV.1), (1, .ref ob.1), (2, .int y2)] → (∀ (H : Heap) (locs : List Loc) (ls : Array Slot), zC G c3 A s (zwV c3.1 oV (Vdp, tt.2.1, tt.2.2.1, tt.2.2.2.1, tt.2.2.2.2) ++ zwS c3.1 ob ((bzr, bzf), (bvr, bvf), bnm, bpd, bnt)) H locs → lv_has ls 4 [(0, .ref oV.1), (1, .ref ob.1), (2, .int tt.1)] → W p l e ⟨3, 0, 0, 70⟩ s m args below meth c H locs 0 0 (MQ below (zPost G (zwV c3.1 oV (Vdp', Vho', Vov', Vdd', Vfh') ++ zwS c3.1 ob ((bzr, bzf), (bvr, bvf), bnm, bpd, bnt)) none A) args s 0 0 A) (F0 m 43 ls [])) → W p l e ⟨3, 0, 0, 70⟩ s m args below meth c H locs 0 0 (MQ below (zPost G (zwV c3.1 oV (Vdp', Vho', Vov', Vdd', Vfh') ++ zwS c3.1 ob ((bzr, bzf), (bvr, bvf), bnm, bpd, bnt)) none A) args s 0 0 A) (F0 m 6 ls []) := by
    intro fu
    induction fu with
    | zero =>
      intro y2 Vdp Vho Vov Vdd Vfh bzr bzf bvr bvf bnm bpd bnt tt hf H locs ls hC hl hK
      exact (z_none hf).elim
    | succ fu ih6 =>
      intro y2 Vdp Vho Vov Vdd Vfh bzr bzf bvr bvf bnm bpd bnt tt hf H locs ls hC hl hK
      replace hf := (f_X3_goByPlaces_6_s bzr bzf y2 Vho Vov Vdd Vfh fu).symm.trans hf
      refine lv_iload_n hx hb dX3_goByPlaces_6 rfl (lv_at hl 2 rfl) ?_
      refine lv_bipush (v := 35) hx hb dX3_goByPlaces_7 (by decide) ?_
      refine lv_icmp_gt (tgt := 43) hx hb dX3_goByPlaces_9 (by decide) (fun cd3 => ?_) (fun cd3 => ?_)
      · replace hf := z_pos cd3 hf
        have e1 := z_s1 hf
        subst e1
        exact hK H locs ls hC (lv_sub hl [0, 1, 2] rfl)
      · replace hf := z_neg cd3 hf
        refine lv_iconst (v := 1) hx hb dX3_goByPlaces_12 (by decide) ?_
        refine lv_istore_n (lv' := [(3, .int 1), (0, .ref oV.1), (1, .ref ob.1), (2, .int y2)]) hx hb dX3_goByPlaces_13 rfl hl (by decide) rfl (fun ls hl => ?_)
        have L14 : ∀ (fu : Nat) (y2 : Int32) (y3 : Int32) (Vdp : (Nat → Int32)) (Vho : Int32) (Vov : Int32) (Vdd : Int32) (Vfh : Int32) (bzr : Int32) (bzf : (Nat → Int32)) (bvr : Int32) (bvf : (Nat → Int32)) (bnm : (Nat → Int32)) (bpd : Int32) (bnt : Int32) (tt : Int32 × Int32 × Int32 × Int32 × Int32), f_X3_goByPlaces_14 y2 bzr bzf fu y3 Vho Vov Vdd Vfh = some tt → ∀ (H : Heap) (locs : List Loc) (ls : Array Slot), zC G c3 A s (zwV c3.1 oV (Vdp, Vho, Vov, Vdd, Vfh) ++ zwS c3.1 ob ((bzr, bzf), (bvr, bvf), bnm, bpd, bnt)) H locs → lv_has ls 4 [(0, .ref oV.1), (1, .ref ob.1), (2, .int y2), (3, .int y3)] → (∀ (H : Heap) (locs : List Loc) (ls : Array Slot), zC G c3 A s (zwV c3.1 oV (Vdp, tt.2.1, tt.2.2.1, tt.2.2.2.1, tt.2.2.2.2) ++ zwS c3.1 ob ((bzr, bzf), (bvr, bvf), bnm, bpd, bnt)) H locs → lv_has ls 4 [(0, .ref oV.1), (1, .ref ob.1), (2, .int y2), (3, .int tt.1)] → W p l e ⟨3, 0, 0, 70⟩ s m args below meth c H locs 0 0 (MQ below (zPost G (zwV c3.1 oV (Vdp', Vho', Vov', Vdd', Vfh') ++ zwS c3.1 ob ((bzr, bzf), (bvr, bvf), bnm, bpd, bnt)) none A) args s 0 0 A) (F0 m 37 ls [])) → W p l e ⟨3, 0, 0, 70⟩ s m args below meth c H locs 0 0 (MQ below (zPost G (zwV c3.1 oV (Vdp', Vho', Vov', Vdd', Vfh') ++ zwS c3.1 ob ((bzr, bzf), (bvr, bvf), bnm, bpd, bnt)) none A) args s 0 0 A) (F0 m 14 ls []) := by
          intro fu
          induction fu with
          | zero =>
            intro y2 y3 Vdp Vho Vov Vdd Vfh bzr bzf bvr bvf bnm bpd bnt tt hf H locs ls hC hl hK
            exact (z_none hf).elim
          | succ fu ih14 =>
            intro y2 y3 Vdp Vho Vov Vdd Vfh bzr bzf bvr bvf bnm bpd bnt tt hf H locs ls hC hl hK
            replace hf := (f_X3_goByPlaces_14_s y2 bzr bzf y3 Vho Vov Vdd Vfh fu).symm.trans hf
            refine lv_iload_n hx hb dX3_goByPlaces_14 rfl (lv_at hl 3 rfl) ?_
            refine lv_bipush (v := 9) hx hb dX3_goByPlaces_15 (by decide) ?_
            refine lv_icmp_gt (tgt := 37) hx hb dX3_goByPlaces_17 (by decide) (fun cd5 => ?_) (fun cd5 => ?_)
            · replace hf := z_pos cd5 hf
              have e1 := z_s1 hf
              subst e1
              exact hK H locs ls hC (lv_sub hl [0, 1, 2, 3] rfl)
            · replace hf := z_neg cd5 hf
              refine lv_aload_n hx hb dX3_goByPlaces_20 rfl (lv_at hl 0 rfl) ?_
              refine lv_iload_n hx hb dX3_goByPlaces_21 rfl (lv_at hl 2 rfl) ?_
              refine lv_aload_n hx hb dX3_goByPlaces_22 rfl (lv_at hl 1 rfl) ?_
              refine lv_iload_n hx hb dX3_goByPlaces_23 rfl (lv_at hl 2 rfl) ?_
              refine lv_iload_n hx hb dX3_goByPlaces_24 rfl (lv_at hl 3 rfl) ?_
              obtain ⟨r6, hr6, hf⟩ := z_bind hf
              refine z_callPi (z_runV (n := 2) (rest := [.int y2, .ref oV.1]) (As := [.int y2, .int y3]) S0 hC (c_X2_matching l G c3 ob ((bzr, bzf), (bvr, bvf), bnm, bpd, bnt) y2 y3 hr6) [2, 3, 4, 5, 6, 7] (by decide) rfl gX3_goByPlaces_X2_matching rfl rfl rfl (by decide +kernel) ⟨Nat.le_of_ble_eq_true rfl, Nat.le_of_ble_eq_true rfl⟩ (ci := 2) (q0 := 2) rfl rfl rfl hl.1 rfl (Nat.le_of_ble_eq_true rfl) dX3_goByPlaces_25) hC [2, 3, 4, 5, 6, 7] rfl (fun H locs hC => ?_)
              obtain ⟨r7, hr7, hf⟩ := z_bind hf
              refine z_callv (z_runV (n := 2) (rest := []) (As := [.int y2, .int r6]) S0 hC (c_X3_see l G c3 oV (Vdp, Vho, Vov, Vdd, Vfh) y2 r6 hr7) [0, 1] (by decide) rfl gX3_goByPlaces_X3_see rfl rfl rfl (by decide +kernel) ⟨Nat.le_of_ble_eq_true rfl, Nat.le_of_ble_eq_true rfl⟩ (ci := 3) (q0 := 0) rfl rfl rfl hl.1 rfl (Nat.le_of_ble_eq_true rfl) dX3_goByPlaces_28) hC [0, 1] [2, 3, 4, 5, 6, 7] [6, 7, 0, 1, 2, 3, 4, 5] rfl (wr := (zwS c3.1 ob ((bzr, bzf), (bvr, bvf), bnm, bpd, bnt))) rfl (by decide) (by decide) (ws2 := (zwV c3.1 oV (Vdp, r7.1, r7.2.1, r7.2.2.1, r7.2.2.2) ++ zwS c3.1 ob ((bzr, bzf), (bvr, bvf), bnm, bpd, bnt))) rfl (by decide) (fun H locs hC => ?_)
              refine lv_iinc (v := (y3 + 1)) (lv' := [(3, .int (y3 + 1)), (0, .ref oV.1), (1, .ref ob.1), (2, .int y2)]) hx hb dX3_goByPlaces_31 hl (k := 3) rfl rfl (by decide) rfl (fun ls hl => ?_)
              refine lv_goto (tgt := 14) hx hb dX3_goByPlaces_34 (by decide) ?_
              exact ih14 y2 (y3 + 1) Vdp r7.1 r7.2.1 r7.2.2.1 r7.2.2.2 bzr bzf bvr bvf bnm bpd bnt _ hf H locs ls hC (lv_sub hl [1, 2, 3, 0] rfl) hK
        obtain ⟨t8, ht8, hf⟩ := z_bind hf
        refine L14 zF y2 1 Vdp Vho Vov Vdd Vfh bzr bzf bvr bvf bnm bpd bnt t8 ht8 H locs ls hC (lv_sub hl [1, 2, 3, 0] rfl) (fun H locs ls hC hl => ?_)
        refine lv_iinc (v := (y2 + 1)) (lv' := [(2, .int (y2 + 1)), (0, .ref oV.1), (1, .ref ob.1), (3, .int t8.1)]) hx hb dX3_goByPlaces_37 hl (k := 2) rfl rfl (by decide) rfl (fun ls hl => ?_)
        refine lv_goto (tgt := 6) hx hb dX3_goByPlaces_40 (by decide) ?_
        exact ih6 (y2 + 1) Vdp t8.2.1 t8.2.2.1 t8.2.2.2.1 t8.2.2.2.2 bzr bzf bvr bvf bnm bpd bnt _ hf H locs ls hC (lv_sub hl [1, 2, 0] rfl) hK
  obtain ⟨t9, ht9, hf⟩ := z_bind hf
  refine L6 zF 0 r1.1 r1.2.1 r1.2.2.1 r1.2.2.2.1 r1.2.2.2.2 bzr bzf bvr bvf bnm bpd bnt t9 ht9 H locs ls hC (lv_sub hl [1, 2, 0] rfl) (fun H locs ls hC hl => ?_)
  obtain ⟨e1, e2, e3, e4, e5⟩ := z_s5 hf
  subst e1
  subst e2
  subst e3
  subst e4
  subst e5
  exact z_vret S0 hr hlk hC dX3_goByPlaces_43

-- X3 goByEdges
def f_X3_goByEdges_14 (y2 : Int32) (bzr : Int32) (bzf : (Nat → Int32)) : Nat → Int32 → (Nat → Int32) → Option (Int32 × (Nat → Int32))
  | 0, _, _ => none
  | fu + 1, y3, Vdp =>
    (f_X4_rows 70 bzr).bind fun r5 => if r5 ≤ y3 then
      some (y3, Vdp)
    else
      (f_X4_get 70 bzr bzf y3 0).bind fun r7 => Option.bind (α := (Nat → Int32)) (
        if r7 = y2 then
          (f_X3_deepen 70 Vdp bzr bzf y3 1).bind fun r14 => some (r14)
        else
          some (Vdp)
      ) fun t9 =>
        (f_X4_get 70 bzr bzf y3 1).bind fun r10 => Option.bind (α := (Nat → Int32)) (
          if r10 = (y2 - 1) then
            (f_X3_deepen 70 t9 bzr bzf y3 (-1)).bind fun r13 => some (r13)
          else
            some (t9)
        ) fun t12 =>
          f_X3_goByEdges_14 y2 bzr bzf fu (y3 + 1) t12

theorem f_X3_goByEdges_14_s (y2 : Int32) (bzr : Int32) (bzf : (Nat → Int32)) (y3 : Int32) (Vdp : (Nat → Int32)) (fu : Nat) : f_X3_goByEdges_14 y2 bzr bzf (fu + 1) y3 Vdp = (
    (f_X4_rows 70 bzr).bind fun r5 => if r5 ≤ y3 then
      some (y3, Vdp)
    else
      (f_X4_get 70 bzr bzf y3 0).bind fun r7 => Option.bind (α := (Nat → Int32)) (
        if r7 = y2 then
          (f_X3_deepen 70 Vdp bzr bzf y3 1).bind fun r14 => some (r14)
        else
          some (Vdp)
      ) fun t9 =>
        (f_X4_get 70 bzr bzf y3 1).bind fun r10 => Option.bind (α := (Nat → Int32)) (
          if r10 = (y2 - 1) then
            (f_X3_deepen 70 t9 bzr bzf y3 (-1)).bind fun r13 => some (r13)
          else
            some (t9)
        ) fun t12 =>
          f_X3_goByEdges_14 y2 bzr bzf fu (y3 + 1) t12
    ) := rfl

def f_X3_goByEdges_81 (y2 : Int32) (Vdp : (Nat → Int32)) : Nat → Int32 → Int32 → Int32 → Int32 → Int32 → Option (Int32 × Int32 × Int32 × Int32 × Int32)
  | 0, _, _, _, _, _ => none
  | fu + 1, y3, Vho, Vov, Vdd, Vfh =>
    if 9 ≤ y3 then
      some (y3, Vho, Vov, Vdd, Vfh)
    else
      (zald 9 Vdp y3).bind fun x18 => (f_X3_see Vho Vov Vdd Vfh y2 x18).bind fun r19 => f_X3_goByEdges_81 y2 Vdp fu (y3 + 1) r19.1 r19.2.1 r19.2.2.1 r19.2.2.2

theorem f_X3_goByEdges_81_s (y2 : Int32) (Vdp : (Nat → Int32)) (y3 : Int32) (Vho : Int32) (Vov : Int32) (Vdd : Int32) (Vfh : Int32) (fu : Nat) : f_X3_goByEdges_81 y2 Vdp (fu + 1) y3 Vho Vov Vdd Vfh = (
    if 9 ≤ y3 then
      some (y3, Vho, Vov, Vdd, Vfh)
    else
      (zald 9 Vdp y3).bind fun x18 => (f_X3_see Vho Vov Vdd Vfh y2 x18).bind fun r19 => f_X3_goByEdges_81 y2 Vdp fu (y3 + 1) r19.1 r19.2.1 r19.2.2.1 r19.2.2.2
    ) := rfl

def f_X3_goByEdges_6 (bzr : Int32) (bzf : (Nat → Int32)) : Nat → Int32 → (Nat → Int32) → Int32 → Int32 → Int32 → Int32 → Option (Int32 × (Nat → Int32) × Int32 × Int32 × Int32 × Int32)
  | 0, _, _, _, _, _, _ => none
  | fu + 1, y2, Vdp, Vho, Vov, Vdd, Vfh =>
    if 35 < y2 then
      some (y2, Vdp, Vho, Vov, Vdd, Vfh)
    else
      (f_X3_goByEdges_14 y2 bzr bzf zF 0 Vdp).bind fun t15 =>
        (f_X3_goByEdges_81 y2 t15.2 zF 0 Vho Vov Vdd Vfh).bind fun t20 =>
          f_X3_goByEdges_6 bzr bzf fu (y2 + 1) t15.2 t20.2.1 t20.2.2.1 t20.2.2.2.1 t20.2.2.2.2

theorem f_X3_goByEdges_6_s (bzr : Int32) (bzf : (Nat → Int32)) (y2 : Int32) (Vdp : (Nat → Int32)) (Vho : Int32) (Vov : Int32) (Vdd : Int32) (Vfh : Int32) (fu : Nat) : f_X3_goByEdges_6 bzr bzf (fu + 1) y2 Vdp Vho Vov Vdd Vfh = (
    if 35 < y2 then
      some (y2, Vdp, Vho, Vov, Vdd, Vfh)
    else
      (f_X3_goByEdges_14 y2 bzr bzf zF 0 Vdp).bind fun t15 =>
        (f_X3_goByEdges_81 y2 t15.2 zF 0 Vho Vov Vdd Vfh).bind fun t20 =>
          f_X3_goByEdges_6 bzr bzf fu (y2 + 1) t15.2 t20.2.1 t20.2.2.1 t20.2.2.2.1 t20.2.2.2.2
    ) := rfl

def f_X3_goByEdges (Vdp : (Nat → Int32)) (Vho : Int32) (Vov : Int32) (Vdd : Int32) (Vfh : Int32) (bzr : Int32) (bzf : (Nat → Int32)) : Option ((Nat → Int32) × Int32 × Int32 × Int32 × Int32) :=
  (f_X3_start Vdp Vho Vov Vdd Vfh).bind fun r1 => (f_X3_goByEdges_6 bzr bzf zF 0 r1.1 r1.2.1 r1.2.2.1 r1.2.2.2.1 r1.2.2.2.2).bind fun t21 =>
    some (t21.2.1, t21.2.2.1, t21.2.2.2.1, t21.2.2.2.2.1, t21.2.2.2.2.2)

theorem kX3_goByEdges_9 : Cond.fieldLink RX3 9 "ZoneSampler$Survey" "depths" "[I" ∈ wsX3_goByEdges := by decide +kernel
theorem jX3_goByEdges_X2 : ∀ w ∈ u_ws RX2 TX2 5, w ∈ wsX3_goByEdges := by decide +kernel
theorem jX3_goByEdges_X3 : ∀ w ∈ u_ws RX3 TX3 5, w ∈ wsX3_goByEdges := by decide +kernel
set_option maxHeartbeats 4000000 in
set_option maxRecDepth 100000 in
theorem c_X3_goByEdges (l : Launch) (G : va_G) (c3 : zT3) (oV : zR2) (BV : zSv) (ob : zR6) (Bb : zSt) {Vdp' : (Nat → Int32)} {Vho' : Int32} {Vov' : Int32} {Vdd' : Int32} {Vfh' : Int32} (hf : f_X3_goByEdges BV.1 BV.2.1 BV.2.2.1 BV.2.2.2.1 BV.2.2.2.2 Bb.1.1 Bb.1.2 = some (Vdp', Vho', Vov', Vdd', Vfh')) : zM l yX3_goByEdges wsX3_goByEdges ⟨2, 0, 0, 47⟩ G c3 (zwV c3.1 oV (BV.1, BV.2.1, BV.2.2.1, BV.2.2.2.1, BV.2.2.2.2) ++ zwS c3.1 ob ((Bb.1.1, Bb.1.2), (Bb.2.1.1, Bb.2.1.2), Bb.2.2.1, Bb.2.2.2.1, Bb.2.2.2.2)) [.ref oV.1, .ref ob.1] none (zwV c3.1 oV (Vdp', Vho', Vov', Vdd', Vfh') ++ zwS c3.1 ob ((Bb.1.1, Bb.1.2), (Bb.2.1.1, Bb.2.1.2), Bb.2.2.1, Bb.2.2.2.1, Bb.2.2.2.2)) := by
  obtain ⟨Vdp, Vho, Vov, Vdd, Vfh⟩ := BV
  obtain ⟨⟨bzr, bzf⟩, ⟨bvr, bvf⟩, bnm, bpd, bnt⟩ := Bb
  have hf : f_X3_goByEdges Vdp Vho Vov Vdd Vfh bzr bzf = some (Vdp', Vho', Vov', Vdd', Vfh') := hf
  show zM l yX3_goByEdges wsX3_goByEdges ⟨2, 0, 0, 47⟩ G c3 (zwV c3.1 oV (Vdp, Vho, Vov, Vdd, Vfh) ++ zwS c3.1 ob ((bzr, bzf), (bvr, bvf), bnm, bpd, bnt)) [.ref oV.1, .ref ob.1] none (zwV c3.1 oV (Vdp', Vho', Vov', Vdd', Vfh') ++ zwS c3.1 ob ((bzr, bzf), (bvr, bvf), bnm, bpd, bnt))
  refine zM.of (cc := cX3_goByEdges) (maxL := 4) (ret := none) (by decide) rfl (Nat.le_of_ble_eq_true rfl) ?_
  intro p e s m args below meth c A ls S0 hr hlk hC hl
  have S0 : CallFix p m c cX3_goByEdges 4 s args wsX3_goByEdges RX3 := S0
  have hl : lv_has ls 4 [(0, .ref oV.1), (1, .ref ob.1)] := hl
  have hx := S0.1
  have hb := S0.2.1
  obtain ⟨H, hH⟩ : ∃ y, y = s.heap := ⟨_, rfl⟩
  rw [← hH] at hC ⊢
  obtain ⟨locs, hlo⟩ : ∃ y : List Loc, y = [] := ⟨_, rfl⟩
  rw [← hlo] at hC ⊢
  clear hH hlo
  unfold f_X3_goByEdges at hf
  refine lv_aload_n hx hb dX3_goByEdges_0 rfl (lv_at hl 0 rfl) ?_
  obtain ⟨r1, hr1, hf⟩ := z_bind hf
  refine z_callv (z_runV (n := 0) (rest := []) (As := []) S0 hC (c_X3_start l G c3 oV (Vdp, Vho, Vov, Vdd, Vfh) hr1) [0, 1] (by decide) rfl gX3_goByEdges_X3_start rfl rfl rfl (by decide +kernel) ⟨Nat.le_of_ble_eq_true rfl, Nat.le_of_ble_eq_true rfl⟩ (ci := 3) (q0 := 0) rfl rfl rfl hl.1 rfl (Nat.le_of_ble_eq_true rfl) dX3_goByEdges_1) hC [0, 1] [2, 3, 4, 5, 6, 7] [6, 7, 0, 1, 2, 3, 4, 5] rfl (wr := (zwS c3.1 ob ((bzr, bzf), (bvr, bvf), bnm, bpd, bnt))) rfl (by decide) (by decide) (ws2 := (zwV c3.1 oV (r1.1, r1.2.1, r1.2.2.1, r1.2.2.2.1, r1.2.2.2.2) ++ zwS c3.1 ob ((bzr, bzf), (bvr, bvf), bnm, bpd, bnt))) rfl (by decide) (fun H locs hC => ?_)
  refine lv_iconst (v := 0) hx hb dX3_goByEdges_4 (by decide) ?_
  refine lv_istore_n (lv' := [(2, .int 0), (0, .ref oV.1), (1, .ref ob.1)]) hx hb dX3_goByEdges_5 rfl hl (by decide) rfl (fun ls hl => ?_)
  have L6 : ∀ (fu : Nat) (y2 : Int32) (Vdp : (Nat → Int32)) (Vho : Int32) (Vov : Int32) (Vdd : Int32) (Vfh : Int32) (bzr : Int32) (bzf : (Nat → Int32)) (bvr : Int32) (bvf : (Nat → Int32)) (bnm : (Nat → Int32)) (bpd : Int32) (bnt : Int32) (tt : Int32 × (Nat → Int32) × Int32 × Int32 × Int32 × Int32), f_X3_goByEdges_6 bzr bzf fu y2 Vdp Vho Vov Vdd Vfh = some tt → ∀ (H : Heap) (locs : List Loc) (ls : Array Slot), zC G c3 A s (zwV c3.1 oV (Vdp, Vho, Vov, Vdd, Vfh) ++ zwS c3.1 ob ((bzr, bzf), (bvr, bvf), bnm, bpd, bnt)) H locs → lv_has ls 4 [(0, .ref oV.1), (1, .ref ob.1), (2, .int y2)] → (∀ (H : Heap) (locs : List Loc) (ls : Array Slot), zC G c3 A s (zwV c3.1 oV (tt.2.1, tt.2.2.1, tt.2.2.2.1, tt.2.2.2.2.1, tt.2.2.2.2.2) ++ zwS c3.1 ob ((bzr, bzf), (bvr, bvf), bnm, bpd, bnt)) H locs → lv_has ls 4 [(0, .ref oV.1), (1, .ref ob.1), (2, .int tt.1)] → W p l e ⟨2, 0, 0, 47⟩ s m args below meth c H locs 0 0 (MQ below (zPost G (zwV c3.1 oV (Vdp', Vho', Vov', Vdd', Vfh') ++ zwS c3.1 ob ((bzr, bzf), (bvr, bvf), bnm, bpd, bnt)) none A) args s 0 0 A) (F0 m 113 ls [])) → W p l e ⟨2, 0, 0, 47⟩ s m args below meth c H locs 0 0 (MQ below (zPost G (zwV c3.1 oV (Vdp', Vho', Vov', Vdd', Vfh') ++ zwS c3.1 ob ((bzr, bzf), (bvr, bvf), bnm, bpd, bnt)) none A) args s 0 0 A) (F0 m 6 ls []) := by
    intro fu
    induction fu with
    | zero =>
      intro y2 Vdp Vho Vov Vdd Vfh bzr bzf bvr bvf bnm bpd bnt tt hf H locs ls hC hl hK
      exact (z_none hf).elim
    | succ fu ih6 =>
      intro y2 Vdp Vho Vov Vdd Vfh bzr bzf bvr bvf bnm bpd bnt tt hf H locs ls hC hl hK
      replace hf := (f_X3_goByEdges_6_s bzr bzf y2 Vdp Vho Vov Vdd Vfh fu).symm.trans hf
      refine lv_iload_n hx hb dX3_goByEdges_6 rfl (lv_at hl 2 rfl) ?_
      refine lv_bipush (v := 35) hx hb dX3_goByEdges_7 (by decide) ?_
      refine lv_icmp_gt (tgt := 113) hx hb dX3_goByEdges_9 (by decide) (fun cd3 => ?_) (fun cd3 => ?_)
      · replace hf := z_pos cd3 hf
        have e1 := z_s1 hf
        subst e1
        exact hK H locs ls hC (lv_sub hl [0, 1, 2] rfl)
      · replace hf := z_neg cd3 hf
        refine lv_iconst (v := 0) hx hb dX3_goByEdges_12 (by decide) ?_
        refine lv_istore_n (lv' := [(3, .int 0), (0, .ref oV.1), (1, .ref ob.1), (2, .int y2)]) hx hb dX3_goByEdges_13 rfl hl (by decide) rfl (fun ls hl => ?_)
        have L14 : ∀ (fu : Nat) (y2 : Int32) (y3 : Int32) (Vdp : (Nat → Int32)) (Vho : Int32) (Vov : Int32) (Vdd : Int32) (Vfh : Int32) (bzr : Int32) (bzf : (Nat → Int32)) (bvr : Int32) (bvf : (Nat → Int32)) (bnm : (Nat → Int32)) (bpd : Int32) (bnt : Int32) (tt : Int32 × (Nat → Int32)), f_X3_goByEdges_14 y2 bzr bzf fu y3 Vdp = some tt → ∀ (H : Heap) (locs : List Loc) (ls : Array Slot), zC G c3 A s (zwV c3.1 oV (Vdp, Vho, Vov, Vdd, Vfh) ++ zwS c3.1 ob ((bzr, bzf), (bvr, bvf), bnm, bpd, bnt)) H locs → lv_has ls 4 [(0, .ref oV.1), (1, .ref ob.1), (2, .int y2), (3, .int y3)] → (∀ (H : Heap) (locs : List Loc) (ls : Array Slot), zC G c3 A s (zwV c3.1 oV (tt.2, Vho, Vov, Vdd, Vfh) ++ zwS c3.1 ob ((bzr, bzf), (bvr, bvf), bnm, bpd, bnt)) H locs → lv_has ls 4 [(0, .ref oV.1), (1, .ref ob.1), (2, .int y2), (3, .int tt.1)] → W p l e ⟨2, 0, 0, 47⟩ s m args below meth c H locs 0 0 (MQ below (zPost G (zwV c3.1 oV (Vdp', Vho', Vov', Vdd', Vfh') ++ zwS c3.1 ob ((bzr, bzf), (bvr, bvf), bnm, bpd, bnt)) none A) args s 0 0 A) (F0 m 79 ls [])) → W p l e ⟨2, 0, 0, 47⟩ s m args below meth c H locs 0 0 (MQ below (zPost G (zwV c3.1 oV (Vdp', Vho', Vov', Vdd', Vfh') ++ zwS c3.1 ob ((bzr, bzf), (bvr, bvf), bnm, bpd, bnt)) none A) args s 0 0 A) (F0 m 14 ls []) := by
          intro fu
          induction fu with
          | zero =>
            intro y2 y3 Vdp Vho Vov Vdd Vfh bzr bzf bvr bvf bnm bpd bnt tt hf H locs ls hC hl hK
            exact (z_none hf).elim
          | succ fu ih14 =>
            intro y2 y3 Vdp Vho Vov Vdd Vfh bzr bzf bvr bvf bnm bpd bnt tt hf H locs ls hC hl hK
            replace hf := (f_X3_goByEdges_14_s y2 bzr bzf y3 Vdp fu).symm.trans hf
            refine lv_iload_n hx hb dX3_goByEdges_14 rfl (lv_at hl 3 rfl) ?_
            refine lv_aload_n hx hb dX3_goByEdges_15 rfl (lv_at hl 1 rfl) ?_
            refine z_getN S0 hC (host := "ZoneSampler") (ci := 2) (C := RX2) (T := TX2) (N := 5) (v := .ref ob.2.2.1.1) jX3_goByEdges_X2 2 rfl rfl 0 (by decide) (by decide +kernel : Cond.fieldLinkNest RX3 41 "ZoneSampler$State" "zones" "LZoneSampler$Table;" "ZoneSampler" ∈ zNW) rfl rfl dX3_goByEdges_16 ?_
            obtain ⟨r5, hr5, hf⟩ := z_bind hf
            refine z_callPi (z_runV (n := 0) (rest := [.int y3]) (As := []) S0 hC (c_X4_rows l G c3 ob.2.2.1 70 (bzr, bzf) hr5) [4, 5] (by decide) rfl gX3_goByEdges_X4_rows rfl rfl rfl (by decide +kernel) ⟨Nat.le_of_ble_eq_true rfl, Nat.le_of_ble_eq_true rfl⟩ (ci := 4) (q0 := 4) rfl rfl rfl hl.1 rfl (Nat.le_of_ble_eq_true rfl) dX3_goByEdges_19) hC [4, 5] rfl (fun H locs hC => ?_)
            refine lv_icmp_ge (tgt := 79) hx hb dX3_goByEdges_22 (by decide) (fun cd6 => ?_) (fun cd6 => ?_)
            · replace hf := z_pos cd6 hf
              have e1 := z_s1 hf
              subst e1
              exact hK H locs ls hC (lv_sub hl [0, 1, 2, 3] rfl)
            · replace hf := z_neg cd6 hf
              refine lv_aload_n hx hb dX3_goByEdges_25 rfl (lv_at hl 1 rfl) ?_
              refine z_getN S0 hC (host := "ZoneSampler") (ci := 2) (C := RX2) (T := TX2) (N := 5) (v := .ref ob.2.2.1.1) jX3_goByEdges_X2 2 rfl rfl 0 (by decide) (by decide +kernel : Cond.fieldLinkNest RX3 41 "ZoneSampler$State" "zones" "LZoneSampler$Table;" "ZoneSampler" ∈ zNW) rfl rfl dX3_goByEdges_26 ?_
              refine lv_iload_n hx hb dX3_goByEdges_29 rfl (lv_at hl 3 rfl) ?_
              refine lv_iconst (v := 0) hx hb dX3_goByEdges_30 (by decide) ?_
              obtain ⟨r7, hr7, hf⟩ := z_bind hf
              refine z_callPi (z_runV (n := 2) (rest := []) (As := [.int y3, .int 0]) S0 hC (c_X4_get l G c3 ob.2.2.1 70 (bzr, bzf) y3 0 hr7) [4, 5] (by decide) rfl gX3_goByEdges_X4_get rfl rfl rfl (by decide +kernel) ⟨Nat.le_of_ble_eq_true rfl, Nat.le_of_ble_eq_true rfl⟩ (ci := 4) (q0 := 4) rfl rfl rfl hl.1 rfl (Nat.le_of_ble_eq_true rfl) dX3_goByEdges_31) hC [4, 5] rfl (fun H locs hC => ?_)
              refine lv_iload_n hx hb dX3_goByEdges_34 rfl (lv_at hl 2 rfl) ?_
              obtain ⟨t9, ht9, hf⟩ := z_bind hf
              have Jt9 : ∀ (H : Heap) (locs : List Loc) (ls : Array Slot), zC G c3 A s (zwV c3.1 oV (t9, Vho, Vov, Vdd, Vfh) ++ zwS c3.1 ob ((bzr, bzf), (bvr, bvf), bnm, bpd, bnt)) H locs → lv_has ls 4 [(0, .ref oV.1), (1, .ref ob.1), (2, .int y2), (3, .int y3)] → W p l e ⟨2, 0, 0, 47⟩ s m args below meth c H locs 0 0 (MQ below (zPost G (zwV c3.1 oV (Vdp', Vho', Vov', Vdd', Vfh') ++ zwS c3.1 ob ((bzr, bzf), (bvr, bvf), bnm, bpd, bnt)) none A) args s 0 0 A) (F0 m 48 ls []) := by
                intro H locs ls hC hl
                refine lv_aload_n hx hb dX3_goByEdges_48 rfl (lv_at hl 1 rfl) ?_
                refine z_getN S0 hC (host := "ZoneSampler") (ci := 2) (C := RX2) (T := TX2) (N := 5) (v := .ref ob.2.2.1.1) jX3_goByEdges_X2 2 rfl rfl 0 (by decide) (by decide +kernel : Cond.fieldLinkNest RX3 41 "ZoneSampler$State" "zones" "LZoneSampler$Table;" "ZoneSampler" ∈ zNW) rfl rfl dX3_goByEdges_49 ?_
                refine lv_iload_n hx hb dX3_goByEdges_52 rfl (lv_at hl 3 rfl) ?_
                refine lv_iconst (v := 1) hx hb dX3_goByEdges_53 (by decide) ?_
                obtain ⟨r10, hr10, hf⟩ := z_bind hf
                refine z_callPi (z_runV (n := 2) (rest := []) (As := [.int y3, .int 1]) S0 hC (c_X4_get l G c3 ob.2.2.1 70 (bzr, bzf) y3 1 hr10) [4, 5] (by decide) rfl gX3_goByEdges_X4_get rfl rfl rfl (by decide +kernel) ⟨Nat.le_of_ble_eq_true rfl, Nat.le_of_ble_eq_true rfl⟩ (ci := 4) (q0 := 4) rfl rfl rfl hl.1 rfl (Nat.le_of_ble_eq_true rfl) dX3_goByEdges_54) hC [4, 5] rfl (fun H locs hC => ?_)
                refine lv_iload_n hx hb dX3_goByEdges_57 rfl (lv_at hl 2 rfl) ?_
                refine lv_iconst (v := 1) hx hb dX3_goByEdges_58 (by decide) ?_
                refine lv_isub hx hb dX3_goByEdges_59 ?_
                obtain ⟨t12, ht12, hf⟩ := z_bind hf
                have Jt12 : ∀ (H : Heap) (locs : List Loc) (ls : Array Slot), zC G c3 A s (zwV c3.1 oV (t12, Vho, Vov, Vdd, Vfh) ++ zwS c3.1 ob ((bzr, bzf), (bvr, bvf), bnm, bpd, bnt)) H locs → lv_has ls 4 [(0, .ref oV.1), (1, .ref ob.1), (2, .int y2), (3, .int y3)] → W p l e ⟨2, 0, 0, 47⟩ s m args below meth c H locs 0 0 (MQ below (zPost G (zwV c3.1 oV (Vdp', Vho', Vov', Vdd', Vfh') ++ zwS c3.1 ob ((bzr, bzf), (bvr, bvf), bnm, bpd, bnt)) none A) args s 0 0 A) (F0 m 73 ls []) := by
                  intro H locs ls hC hl
                  refine lv_iinc (v := (y3 + 1)) (lv' := [(3, .int (y3 + 1)), (0, .ref oV.1), (1, .ref ob.1), (2, .int y2)]) hx hb dX3_goByEdges_73 hl (k := 3) rfl rfl (by decide) rfl (fun ls hl => ?_)
                  refine lv_goto (tgt := 14) hx hb dX3_goByEdges_76 (by decide) ?_
                  exact ih14 y2 (y3 + 1) t12 Vho Vov Vdd Vfh bzr bzf bvr bvf bnm bpd bnt _ hf H locs ls hC (lv_sub hl [1, 2, 3, 0] rfl) hK
                refine lv_icmp_ne (tgt := 73) hx hb dX3_goByEdges_60 (by decide) (fun cd11 => ?_) (fun cd11 => ?_)
                · replace ht12 := z_neg cd11 ht12
                  have e1 := z_s1 ht12
                  subst e1
                  exact Jt12 H locs ls hC (lv_sub hl [0, 1, 2, 3] rfl)
                · replace ht12 := z_pos cd11 ht12
                  refine lv_aload_n hx hb dX3_goByEdges_63 rfl (lv_at hl 0 rfl) ?_
                  refine lv_aload_n hx hb dX3_goByEdges_64 rfl (lv_at hl 1 rfl) ?_
                  refine z_getN S0 hC (host := "ZoneSampler") (ci := 2) (C := RX2) (T := TX2) (N := 5) (v := .ref ob.2.2.1.1) jX3_goByEdges_X2 2 rfl rfl 0 (by decide) (by decide +kernel : Cond.fieldLinkNest RX3 41 "ZoneSampler$State" "zones" "LZoneSampler$Table;" "ZoneSampler" ∈ zNW) rfl rfl dX3_goByEdges_65 ?_
                  refine lv_iload_n hx hb dX3_goByEdges_68 rfl (lv_at hl 3 rfl) ?_
                  refine lv_iconst (v := (-1)) hx hb dX3_goByEdges_69 (by decide) ?_
                  obtain ⟨r13, hr13, ht12⟩ := z_bind ht12
                  refine z_callv (z_runV (n := 3) (rest := []) (As := [.ref ob.2.2.1.1, .int y3, .int (-1)]) S0 hC (c_X3_deepen l G c3 oV (t9, Vho, Vov, Vdd, Vfh) ob.2.2.1 70 (bzr, bzf) y3 (-1) hr13) [0, 1, 4, 5] (by decide) rfl gX3_goByEdges_X3_deepen rfl rfl rfl (by decide +kernel) ⟨Nat.le_of_ble_eq_true rfl, Nat.le_of_ble_eq_true rfl⟩ (ci := 3) (q0 := 0) rfl rfl rfl hl.1 rfl (Nat.le_of_ble_eq_true rfl) dX3_goByEdges_70) hC [0, 1, 4, 5] [2, 3, 6, 7] [4, 5, 0, 1, 6, 7, 2, 3] rfl (wr := [(ob.1, .inr (2, [.ref ob.2.2.1.1, .ref ob.2.2.2.1, .ref ob.2.1, .int bpd, .int bnt])), (ob.2.1, .inl (c3.1, 13, .inl bnm)), (ob.2.2.2.1, .inr (4, [.int 7, .ref ob.2.2.2.2, .int bvr])), (ob.2.2.2.2, .inl (c3.1, 56, .inl bvf))]) rfl (by decide) (by decide) (ws2 := (zwV c3.1 oV (r13, Vho, Vov, Vdd, Vfh) ++ zwS c3.1 ob ((bzr, bzf), (bvr, bvf), bnm, bpd, bnt))) rfl (by decide) (fun H locs hC => ?_)
                  have e1 := z_s1 ht12
                  subst e1
                  exact Jt12 H locs ls hC (lv_sub hl [0, 1, 2, 3] rfl)
              refine lv_icmp_ne (tgt := 48) hx hb dX3_goByEdges_35 (by decide) (fun cd8 => ?_) (fun cd8 => ?_)
              · replace ht9 := z_neg cd8 ht9
                have e1 := z_s1 ht9
                subst e1
                exact Jt9 H locs ls hC (lv_sub hl [0, 1, 2, 3] rfl)
              · replace ht9 := z_pos cd8 ht9
                refine lv_aload_n hx hb dX3_goByEdges_38 rfl (lv_at hl 0 rfl) ?_
                refine lv_aload_n hx hb dX3_goByEdges_39 rfl (lv_at hl 1 rfl) ?_
                refine z_getN S0 hC (host := "ZoneSampler") (ci := 2) (C := RX2) (T := TX2) (N := 5) (v := .ref ob.2.2.1.1) jX3_goByEdges_X2 2 rfl rfl 0 (by decide) (by decide +kernel : Cond.fieldLinkNest RX3 41 "ZoneSampler$State" "zones" "LZoneSampler$Table;" "ZoneSampler" ∈ zNW) rfl rfl dX3_goByEdges_40 ?_
                refine lv_iload_n hx hb dX3_goByEdges_43 rfl (lv_at hl 3 rfl) ?_
                refine lv_iconst (v := 1) hx hb dX3_goByEdges_44 (by decide) ?_
                obtain ⟨r14, hr14, ht9⟩ := z_bind ht9
                refine z_callv (z_runV (n := 3) (rest := []) (As := [.ref ob.2.2.1.1, .int y3, .int 1]) S0 hC (c_X3_deepen l G c3 oV (Vdp, Vho, Vov, Vdd, Vfh) ob.2.2.1 70 (bzr, bzf) y3 1 hr14) [0, 1, 4, 5] (by decide) rfl gX3_goByEdges_X3_deepen rfl rfl rfl (by decide +kernel) ⟨Nat.le_of_ble_eq_true rfl, Nat.le_of_ble_eq_true rfl⟩ (ci := 3) (q0 := 0) rfl rfl rfl hl.1 rfl (Nat.le_of_ble_eq_true rfl) dX3_goByEdges_45) hC [0, 1, 4, 5] [2, 3, 6, 7] [4, 5, 0, 1, 6, 7, 2, 3] rfl (wr := [(ob.1, .inr (2, [.ref ob.2.2.1.1, .ref ob.2.2.2.1, .ref ob.2.1, .int bpd, .int bnt])), (ob.2.1, .inl (c3.1, 13, .inl bnm)), (ob.2.2.2.1, .inr (4, [.int 7, .ref ob.2.2.2.2, .int bvr])), (ob.2.2.2.2, .inl (c3.1, 56, .inl bvf))]) rfl (by decide) (by decide) (ws2 := (zwV c3.1 oV (r14, Vho, Vov, Vdd, Vfh) ++ zwS c3.1 ob ((bzr, bzf), (bvr, bvf), bnm, bpd, bnt))) rfl (by decide) (fun H locs hC => ?_)
                have e1 := z_s1 ht9
                subst e1
                exact Jt9 H locs ls hC (lv_sub hl [0, 1, 2, 3] rfl)
        obtain ⟨t15, ht15, hf⟩ := z_bind hf
        refine L14 zF y2 0 Vdp Vho Vov Vdd Vfh bzr bzf bvr bvf bnm bpd bnt t15 ht15 H locs ls hC (lv_sub hl [1, 2, 3, 0] rfl) (fun H locs ls hC hl => ?_)
        refine lv_iconst (v := 0) hx hb dX3_goByEdges_79 (by decide) ?_
        refine lv_istore_n (lv' := [(3, .int 0), (0, .ref oV.1), (1, .ref ob.1), (2, .int y2)]) hx hb dX3_goByEdges_80 rfl hl (by decide) rfl (fun ls hl => ?_)
        have L81 : ∀ (fu : Nat) (y2 : Int32) (y3 : Int32) (Vdp : (Nat → Int32)) (Vho : Int32) (Vov : Int32) (Vdd : Int32) (Vfh : Int32) (bzr : Int32) (bzf : (Nat → Int32)) (bvr : Int32) (bvf : (Nat → Int32)) (bnm : (Nat → Int32)) (bpd : Int32) (bnt : Int32) (tt : Int32 × Int32 × Int32 × Int32 × Int32), f_X3_goByEdges_81 y2 Vdp fu y3 Vho Vov Vdd Vfh = some tt → ∀ (H : Heap) (locs : List Loc) (ls : Array Slot), zC G c3 A s (zwV c3.1 oV (Vdp, Vho, Vov, Vdd, Vfh) ++ zwS c3.1 ob ((bzr, bzf), (bvr, bvf), bnm, bpd, bnt)) H locs → lv_has ls 4 [(0, .ref oV.1), (1, .ref ob.1), (2, .int y2), (3, .int y3)] → (∀ (H : Heap) (locs : List Loc) (ls : Array Slot), zC G c3 A s (zwV c3.1 oV (Vdp, tt.2.1, tt.2.2.1, tt.2.2.2.1, tt.2.2.2.2) ++ zwS c3.1 ob ((bzr, bzf), (bvr, bvf), bnm, bpd, bnt)) H locs → lv_has ls 4 [(0, .ref oV.1), (1, .ref ob.1), (2, .int y2), (3, .int tt.1)] → W p l e ⟨2, 0, 0, 47⟩ s m args below meth c H locs 0 0 (MQ below (zPost G (zwV c3.1 oV (Vdp', Vho', Vov', Vdd', Vfh') ++ zwS c3.1 ob ((bzr, bzf), (bvr, bvf), bnm, bpd, bnt)) none A) args s 0 0 A) (F0 m 107 ls [])) → W p l e ⟨2, 0, 0, 47⟩ s m args below meth c H locs 0 0 (MQ below (zPost G (zwV c3.1 oV (Vdp', Vho', Vov', Vdd', Vfh') ++ zwS c3.1 ob ((bzr, bzf), (bvr, bvf), bnm, bpd, bnt)) none A) args s 0 0 A) (F0 m 81 ls []) := by
          intro fu
          induction fu with
          | zero =>
            intro y2 y3 Vdp Vho Vov Vdd Vfh bzr bzf bvr bvf bnm bpd bnt tt hf H locs ls hC hl hK
            exact (z_none hf).elim
          | succ fu ih81 =>
            intro y2 y3 Vdp Vho Vov Vdd Vfh bzr bzf bvr bvf bnm bpd bnt tt hf H locs ls hC hl hK
            replace hf := (f_X3_goByEdges_81_s y2 Vdp y3 Vho Vov Vdd Vfh fu).symm.trans hf
            refine lv_iload_n hx hb dX3_goByEdges_81 rfl (lv_at hl 3 rfl) ?_
            refine lv_aload_n hx hb dX3_goByEdges_82 rfl (lv_at hl 0 rfl) ?_
            refine z_get S0 hC (ci := 3) (C := RX3) (T := TX3) (N := 5) (v := .ref oV.2) jX3_goByEdges_X3 0 rfl rfl 0 (by decide) kX3_goByEdges_9 rfl rfl dX3_goByEdges_83 ?_
            refine z_alen S0 hC 1 0 rfl rfl (v := 9) rfl dX3_goByEdges_86 ?_
            refine lv_icmp_ge (tgt := 107) hx hb dX3_goByEdges_87 (by decide) (fun cd17 => ?_) (fun cd17 => ?_)
            · replace hf := z_pos cd17 hf
              have e1 := z_s1 hf
              subst e1
              exact hK H locs ls hC (lv_sub hl [0, 1, 2, 3] rfl)
            · replace hf := z_neg cd17 hf
              refine lv_aload_n hx hb dX3_goByEdges_90 rfl (lv_at hl 0 rfl) ?_
              refine lv_iload_n hx hb dX3_goByEdges_91 rfl (lv_at hl 2 rfl) ?_
              refine lv_aload_n hx hb dX3_goByEdges_92 rfl (lv_at hl 0 rfl) ?_
              refine z_get S0 hC (ci := 3) (C := RX3) (T := TX3) (N := 5) (v := .ref oV.2) jX3_goByEdges_X3 0 rfl rfl 0 (by decide) kX3_goByEdges_9 rfl rfl dX3_goByEdges_93 ?_
              refine lv_iload_n hx hb dX3_goByEdges_96 rfl (lv_at hl 3 rfl) ?_
              obtain ⟨x18, hx18, hf⟩ := z_bind hf
              refine z_iald S0 hC 1 rfl hx18 dX3_goByEdges_97 ?_
              obtain ⟨r19, hr19, hf⟩ := z_bind hf
              refine z_callv (z_runV (n := 2) (rest := []) (As := [.int y2, .int x18]) S0 hC (c_X3_see l G c3 oV (Vdp, Vho, Vov, Vdd, Vfh) y2 x18 hr19) [0, 1] (by decide) rfl gX3_goByEdges_X3_see rfl rfl rfl (by decide +kernel) ⟨Nat.le_of_ble_eq_true rfl, Nat.le_of_ble_eq_true rfl⟩ (ci := 3) (q0 := 0) rfl rfl rfl hl.1 rfl (Nat.le_of_ble_eq_true rfl) dX3_goByEdges_98) hC [0, 1] [2, 3, 4, 5, 6, 7] [6, 7, 0, 1, 2, 3, 4, 5] rfl (wr := (zwS c3.1 ob ((bzr, bzf), (bvr, bvf), bnm, bpd, bnt))) rfl (by decide) (by decide) (ws2 := (zwV c3.1 oV (Vdp, r19.1, r19.2.1, r19.2.2.1, r19.2.2.2) ++ zwS c3.1 ob ((bzr, bzf), (bvr, bvf), bnm, bpd, bnt))) rfl (by decide) (fun H locs hC => ?_)
              refine lv_iinc (v := (y3 + 1)) (lv' := [(3, .int (y3 + 1)), (0, .ref oV.1), (1, .ref ob.1), (2, .int y2)]) hx hb dX3_goByEdges_101 hl (k := 3) rfl rfl (by decide) rfl (fun ls hl => ?_)
              refine lv_goto (tgt := 81) hx hb dX3_goByEdges_104 (by decide) ?_
              exact ih81 y2 (y3 + 1) Vdp r19.1 r19.2.1 r19.2.2.1 r19.2.2.2 bzr bzf bvr bvf bnm bpd bnt _ hf H locs ls hC (lv_sub hl [1, 2, 3, 0] rfl) hK
        obtain ⟨t20, ht20, hf⟩ := z_bind hf
        refine L81 zF y2 0 t15.2 Vho Vov Vdd Vfh bzr bzf bvr bvf bnm bpd bnt t20 ht20 H locs ls hC (lv_sub hl [1, 2, 3, 0] rfl) (fun H locs ls hC hl => ?_)
        refine lv_iinc (v := (y2 + 1)) (lv' := [(2, .int (y2 + 1)), (0, .ref oV.1), (1, .ref ob.1), (3, .int t20.1)]) hx hb dX3_goByEdges_107 hl (k := 2) rfl rfl (by decide) rfl (fun ls hl => ?_)
        refine lv_goto (tgt := 6) hx hb dX3_goByEdges_110 (by decide) ?_
        exact ih6 (y2 + 1) t15.2 t20.2.1 t20.2.2.1 t20.2.2.2.1 t20.2.2.2.2 bzr bzf bvr bvf bnm bpd bnt _ hf H locs ls hC (lv_sub hl [1, 2, 0] rfl) hK
  obtain ⟨t21, ht21, hf⟩ := z_bind hf
  refine L6 zF 0 r1.1 r1.2.1 r1.2.2.1 r1.2.2.2.1 r1.2.2.2.2 bzr bzf bvr bvf bnm bpd bnt t21 ht21 H locs ls hC (lv_sub hl [1, 2, 0] rfl) (fun H locs ls hC hl => ?_)
  obtain ⟨e1, e2, e3, e4, e5⟩ := z_s5 hf
  subst e1
  subst e2
  subst e3
  subst e4
  subst e5
  exact z_vret S0 hr hlk hC dX3_goByEdges_113
