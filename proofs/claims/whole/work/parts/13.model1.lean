-- X6 in
def f_X6_in (p0 : Int32) (p1 : Int32) (p2 : Int32) : Option (Int32) :=
  if p0 < p1 then
    some (0)
  else
    if p2 < p0 then
      some (0)
    else
      some (1)

set_option maxHeartbeats 4000000 in
set_option maxRecDepth 100000 in
theorem c_X6_in (l : Launch) (G : va_G) (c3 : zT3) (p0 : Int32) (p1 : Int32) (p2 : Int32) {r : Int32} (hf : f_X6_in p0 p1 p2 = some (r)) : zM l yX6_in wsX6_in ⟨0, 0, 0, 0⟩ G c3 ([] : va_W) [.int p0, .int p1, .int p2] (some (.int r)) ([] : va_W) := by
  have hf : f_X6_in p0 p1 p2 = some (r) := hf
  show zM l yX6_in wsX6_in ⟨0, 0, 0, 0⟩ G c3 ([] : va_W) [.int p0, .int p1, .int p2] (some (.int r)) ([] : va_W)
  refine zM.of (cc := cX6_in) (maxL := 3) (ret := (some .boolean)) (by decide) rfl (Nat.le_of_ble_eq_true rfl) ?_
  intro p e s m args below meth c A ls S0 hr hlk hC hl
  have S0 : CallFix p m c cX6_in 3 s args wsX6_in RX6 := S0
  have hl : lv_has ls 3 [(0, .int p0), (1, .int p1), (2, .int p2)] := hl
  have hx := S0.1
  have hb := S0.2.1
  obtain ⟨H, hH⟩ : ∃ y, y = s.heap := ⟨_, rfl⟩
  rw [← hH] at hC ⊢
  obtain ⟨locs, hlo⟩ : ∃ y : List Loc, y = [] := ⟨_, rfl⟩
  rw [← hlo] at hC ⊢
  clear hH hlo
  unfold f_X6_in at hf
  refine lv_iload_n hx hb dX6_in_0 rfl (lv_at hl 0 rfl) ?_
  refine lv_iload_n hx hb dX6_in_1 rfl (lv_at hl 1 rfl) ?_
  refine lv_icmp_lt (tgt := 14) hx hb dX6_in_2 (by decide) (fun cd1 => ?_) (fun cd1 => ?_)
  · replace hf := z_pos cd1 hf
    refine lv_iconst (v := 0) hx hb dX6_in_14 (by decide) ?_
    have e1 := z_s1 hf
    subst e1
    exact z_zret S0 hr hlk rfl hC dX6_in_15
  · replace hf := z_neg cd1 hf
    refine lv_iload_n hx hb dX6_in_5 rfl (lv_at hl 0 rfl) ?_
    refine lv_iload_n hx hb dX6_in_6 rfl (lv_at hl 2 rfl) ?_
    refine lv_icmp_gt (tgt := 14) hx hb dX6_in_7 (by decide) (fun cd2 => ?_) (fun cd2 => ?_)
    · replace hf := z_pos cd2 hf
      refine lv_iconst (v := 0) hx hb dX6_in_14 (by decide) ?_
      have e1 := z_s1 hf
      subst e1
      exact z_zret S0 hr hlk rfl hC dX6_in_15
    · replace hf := z_neg cd2 hf
      refine lv_iconst (v := 1) hx hb dX6_in_10 (by decide) ?_
      refine lv_goto (tgt := 15) hx hb dX6_in_11 (by decide) ?_
      have e1 := z_s1 hf
      subst e1
      exact z_zret S0 hr hlk rfl hC dX6_in_15

-- X6 copies
def f_X6_copies_3 (na : Nat) (nb : Nat) (y1 : Int32) (y3 : Int32) (af : (Nat → Int32)) : Nat → Int32 → (Nat → Int32) → Option (Int32 × (Nat → Int32))
  | 0, _, _ => none
  | fu + 1, y4, bf =>
    if 150 ≤ y4 then
      some (y4, bf)
    else
      (zald na af (y1 + y4)).bind fun x3 => (zast nb bf (y3 + y4) x3).bind fun g4 => f_X6_copies_3 na nb y1 y3 af fu (y4 + 1) g4

theorem f_X6_copies_3_s (na : Nat) (nb : Nat) (y1 : Int32) (y3 : Int32) (af : (Nat → Int32)) (y4 : Int32) (bf : (Nat → Int32)) (fu : Nat) : f_X6_copies_3 na nb y1 y3 af (fu + 1) y4 bf = (
    if 150 ≤ y4 then
      some (y4, bf)
    else
      (zald na af (y1 + y4)).bind fun x3 => (zast nb bf (y3 + y4) x3).bind fun g4 => f_X6_copies_3 na nb y1 y3 af fu (y4 + 1) g4
    ) := rfl

def f_X6_copies (na : Nat) (nb : Nat) (af : (Nat → Int32)) (bf : (Nat → Int32)) (p1 : Int32) (p3 : Int32) : Option ((Nat → Int32)) :=
  (f_X6_copies_3 na nb p1 p3 af zF 0 bf).bind fun t5 =>
    some (t5.2)

set_option maxHeartbeats 4000000 in
set_option maxRecDepth 100000 in
theorem c_X6_copies (l : Launch) (G : va_G) (c3 : zT3) (oa : Nat) (na : Nat) (Ba : (Nat → Int32)) (ob : Nat) (nb : Nat) (Bb : (Nat → Int32)) (p1 : Int32) (p3 : Int32) {bf' : (Nat → Int32)} (hf : f_X6_copies na nb Ba Bb p1 p3 = some (bf')) : zM l yX6_copies wsX6_copies ⟨0, 0, 0, 0⟩ G c3 (zwA c3.1 na oa Ba ++ zwA c3.1 nb ob Bb) [.ref oa, .int p1, .ref ob, .int p3] none (zwA c3.1 na oa Ba ++ zwA c3.1 nb ob bf') := by
  obtain ⟨af, rfl⟩ : ∃ y, y = Ba := ⟨_, rfl⟩
  obtain ⟨bf, rfl⟩ : ∃ y, y = Bb := ⟨_, rfl⟩
  have hf : f_X6_copies na nb af bf p1 p3 = some (bf') := hf
  show zM l yX6_copies wsX6_copies ⟨0, 0, 0, 0⟩ G c3 (zwA c3.1 na oa af ++ zwA c3.1 nb ob bf) [.ref oa, .int p1, .ref ob, .int p3] none (zwA c3.1 na oa af ++ zwA c3.1 nb ob bf')
  refine zM.of (cc := cX6_copies) (maxL := 5) (ret := none) (by decide) rfl (Nat.le_of_ble_eq_true rfl) ?_
  intro p e s m args below meth c A ls S0 hr hlk hC hl
  have S0 : CallFix p m c cX6_copies 5 s args wsX6_copies RX6 := S0
  have hl : lv_has ls 5 [(0, .ref oa), (1, .int p1), (2, .ref ob), (3, .int p3)] := hl
  have hx := S0.1
  have hb := S0.2.1
  obtain ⟨H, hH⟩ : ∃ y, y = s.heap := ⟨_, rfl⟩
  rw [← hH] at hC ⊢
  obtain ⟨locs, hlo⟩ : ∃ y : List Loc, y = [] := ⟨_, rfl⟩
  rw [← hlo] at hC ⊢
  clear hH hlo
  unfold f_X6_copies at hf
  refine lv_iconst (v := 0) hx hb dX6_copies_0 (by decide) ?_
  refine lv_istore (lv' := [(4, .int 0), (0, .ref oa), (1, .int p1), (2, .ref ob), (3, .int p3)]) hx hb dX6_copies_1 hl (by decide) rfl (fun ls hl => ?_)
  have L3 : ∀ (fu : Nat) (y1 : Int32) (y3 : Int32) (y4 : Int32) (af : (Nat → Int32)) (bf : (Nat → Int32)) (tt : Int32 × (Nat → Int32)), f_X6_copies_3 na nb y1 y3 af fu y4 bf = some tt → ∀ (H : Heap) (locs : List Loc) (ls : Array Slot), zC G c3 A s (zwA c3.1 na oa af ++ zwA c3.1 nb ob bf) H locs → lv_has ls 5 [(0, .ref oa), (1, .int y1), (2, .ref ob), (3, .int y3), (4, .int y4)] → (∀ (H : Heap) (locs : List Loc) (ls : Array Slot), zC G c3 A s (zwA c3.1 na oa af ++ zwA c3.1 nb ob tt.2) H locs → lv_has ls 5 [(0, .ref oa), (1, .int y1), (2, .ref ob), (3, .int y3), (4, .int tt.1)] → W p l e ⟨0, 0, 0, 0⟩ s m args below meth c H locs 0 0 (MQ below (zPost G (zwA c3.1 na oa af ++ zwA c3.1 nb ob bf') none A) args s 0 0 A) (F0 m 29 ls [])) → W p l e ⟨0, 0, 0, 0⟩ s m args below meth c H locs 0 0 (MQ below (zPost G (zwA c3.1 na oa af ++ zwA c3.1 nb ob bf') none A) args s 0 0 A) (F0 m 3 ls []) := by
    intro fu
    induction fu with
    | zero =>
      intro y1 y3 y4 af bf tt hf H locs ls hC hl hK
      exact (z_none hf).elim
    | succ fu ih3 =>
      intro y1 y3 y4 af bf tt hf H locs ls hC hl hK
      replace hf := (f_X6_copies_3_s na nb y1 y3 af y4 bf fu).symm.trans hf
      refine lv_iload hx hb dX6_copies_3 (lv_at hl 4 rfl) ?_
      refine lv_sipush (v := 150) hx hb dX6_copies_5 (by decide) ?_
      refine lv_icmp_ge (tgt := 29) hx hb dX6_copies_8 (by decide) (fun cd2 => ?_) (fun cd2 => ?_)
      · replace hf := z_pos cd2 hf
        have e1 := z_s1 hf
        subst e1
        exact hK H locs ls hC (lv_sub hl [0, 1, 2, 3, 4] rfl)
      · replace hf := z_neg cd2 hf
        refine lv_aload_n hx hb dX6_copies_11 rfl (lv_at hl 2 rfl) ?_
        refine lv_iload_n hx hb dX6_copies_12 rfl (lv_at hl 3 rfl) ?_
        refine lv_iload hx hb dX6_copies_13 (lv_at hl 4 rfl) ?_
        refine lv_iadd hx hb dX6_copies_15 ?_
        refine lv_aload_n hx hb dX6_copies_16 rfl (lv_at hl 0 rfl) ?_
        refine lv_iload_n hx hb dX6_copies_17 rfl (lv_at hl 1 rfl) ?_
        refine lv_iload hx hb dX6_copies_18 (lv_at hl 4 rfl) ?_
        refine lv_iadd hx hb dX6_copies_20 ?_
        obtain ⟨x3, hx3, hf⟩ := z_bind hf
        refine z_iald S0 hC 0 rfl hx3 dX6_copies_21 ?_
        obtain ⟨g4, hg4, hf⟩ := z_bind hf
        refine z_iast S0 hC 1 rfl hg4 dX6_copies_22 (ws2 := (zwA c3.1 na oa af ++ zwA c3.1 nb ob g4)) rfl (fun H locs hC => ?_)
        refine lv_iinc (v := (y4 + 1)) (lv' := [(4, .int (y4 + 1)), (0, .ref oa), (1, .int y1), (2, .ref ob), (3, .int y3)]) hx hb dX6_copies_23 hl (k := 4) rfl rfl (by decide) rfl (fun ls hl => ?_)
        refine lv_goto (tgt := 3) hx hb dX6_copies_26 (by decide) ?_
        exact ih3 y1 y3 (y4 + 1) af g4 _ hf H locs ls hC (lv_sub hl [1, 2, 3, 4, 0] rfl) hK
  obtain ⟨t5, ht5, hf⟩ := z_bind hf
  refine L3 zF p1 p3 0 af bf t5 ht5 H locs ls hC (lv_sub hl [1, 2, 3, 4, 0] rfl) (fun H locs ls hC hl => ?_)
  have e1 := z_s1 hf
  subst e1
  exact z_vret S0 hr hlk hC dX6_copies_29

-- X6 records
def f_X6_records_10  : Nat → Int32 → (Nat → Int32) → Option (Int32 × (Nat → Int32))
  | 0, _, _ => none
  | fu + 1, y1, Mpa =>
    if 450 ≤ y1 then
      some (y1, Mpa)
    else
      (zald 600 Mpa (y1 + 150)).bind fun x6 => (zast 600 Mpa y1 x6).bind fun g7 => f_X6_records_10 fu (y1 + 1) g7

theorem f_X6_records_10_s (y1 : Int32) (Mpa : (Nat → Int32)) (fu : Nat) : f_X6_records_10 (fu + 1) y1 Mpa = (
    if 450 ≤ y1 then
      some (y1, Mpa)
    else
      (zald 600 Mpa (y1 + 150)).bind fun x6 => (zast 600 Mpa y1 x6).bind fun g7 => f_X6_records_10 fu (y1 + 1) g7
    ) := rfl

def f_X6_records (Ms : (Nat → Int32)) (Mpa : (Nat → Int32)) (Mkn : Int32) : Option ((Nat → Int32) × Int32) :=
  Option.bind (α := (Nat → Int32) × Int32) (
    if Mkn = 4 then
      (f_X6_records_10 zF 0 Mpa).bind fun t8 =>
        some (t8.2, (Mkn - 1))
    else
      some (Mpa, Mkn)
  ) fun t2 =>
    (f_X6_copies 150 600 Ms t2.1 0 (150 * t2.2)).bind fun r3 => some (r3, (t2.2 + 1))

theorem kX6_records_32 : Cond.fieldLink RX6 32 "ZoneSamplerModel" "known" "I" ∈ wsX6_records := by decide +kernel
theorem kX6_records_16 : Cond.fieldLink RX6 16 "ZoneSamplerModel" "past" "[I" ∈ wsX6_records := by decide +kernel
theorem kX6_records_7 : Cond.fieldLink RX6 7 "ZoneSamplerModel" "s" "[I" ∈ wsX6_records := by decide +kernel
theorem jX6_records_X6 : ∀ w ∈ u_ws RX6 TX6 17, w ∈ wsX6_records := by decide +kernel
set_option maxHeartbeats 4000000 in
set_option maxRecDepth 100000 in
theorem c_X6_records (l : Launch) (G : va_G) (c3 : zT3) (oM : zR8) (BM : zMd) {Mpa' : (Nat → Int32)} {Mkn' : Int32} (hf : f_X6_records BM.1 BM.2.2.1 BM.2.2.2.1 = some (Mpa', Mkn')) : zM l yX6_records wsX6_records ⟨1, 0, 0, 24⟩ G c3 (zwM c3.1 c3.2.2 oM (BM.1, BM.2.1, BM.2.2.1, BM.2.2.2.1, BM.2.2.2.2.1, BM.2.2.2.2.2.1, BM.2.2.2.2.2.2.1, BM.2.2.2.2.2.2.2.1, BM.2.2.2.2.2.2.2.2.1, BM.2.2.2.2.2.2.2.2.2.1, BM.2.2.2.2.2.2.2.2.2.2.1, BM.2.2.2.2.2.2.2.2.2.2.2.1, BM.2.2.2.2.2.2.2.2.2.2.2.2.1, BM.2.2.2.2.2.2.2.2.2.2.2.2.2.1, BM.2.2.2.2.2.2.2.2.2.2.2.2.2.2.1, BM.2.2.2.2.2.2.2.2.2.2.2.2.2.2.2.1, BM.2.2.2.2.2.2.2.2.2.2.2.2.2.2.2.2)) [.ref oM.1] none (zwM c3.1 c3.2.2 oM (BM.1, BM.2.1, Mpa', Mkn', BM.2.2.2.2.1, BM.2.2.2.2.2.1, BM.2.2.2.2.2.2.1, BM.2.2.2.2.2.2.2.1, BM.2.2.2.2.2.2.2.2.1, BM.2.2.2.2.2.2.2.2.2.1, BM.2.2.2.2.2.2.2.2.2.2.1, BM.2.2.2.2.2.2.2.2.2.2.2.1, BM.2.2.2.2.2.2.2.2.2.2.2.2.1, BM.2.2.2.2.2.2.2.2.2.2.2.2.2.1, BM.2.2.2.2.2.2.2.2.2.2.2.2.2.2.1, BM.2.2.2.2.2.2.2.2.2.2.2.2.2.2.2.1, BM.2.2.2.2.2.2.2.2.2.2.2.2.2.2.2.2)) := by
  obtain ⟨Ms, Mas, Mpa, Mkn, Mke, Mik, Mpp, Mle, Mso, Mfz, Msp, Mfo, Mrd, Mrs, Mlt, Mfi, Mse⟩ := BM
  have hf : f_X6_records Ms Mpa Mkn = some (Mpa', Mkn') := hf
  show zM l yX6_records wsX6_records ⟨1, 0, 0, 24⟩ G c3 (zwM c3.1 c3.2.2 oM (Ms, Mas, Mpa, Mkn, Mke, Mik, Mpp, Mle, Mso, Mfz, Msp, Mfo, Mrd, Mrs, Mlt, Mfi, Mse)) [.ref oM.1] none (zwM c3.1 c3.2.2 oM (Ms, Mas, Mpa', Mkn', Mke, Mik, Mpp, Mle, Mso, Mfz, Msp, Mfo, Mrd, Mrs, Mlt, Mfi, Mse))
  refine zM.of (cc := cX6_records) (maxL := 2) (ret := none) (by decide) rfl (Nat.le_of_ble_eq_true rfl) ?_
  intro p e s m args below meth c A ls S0 hr hlk hC hl
  have S0 : CallFix p m c cX6_records 2 s args wsX6_records RX6 := S0
  have hl : lv_has ls 2 [(0, .ref oM.1)] := hl
  have hx := S0.1
  have hb := S0.2.1
  obtain ⟨H, hH⟩ : ∃ y, y = s.heap := ⟨_, rfl⟩
  rw [← hH] at hC ⊢
  obtain ⟨locs, hlo⟩ : ∃ y : List Loc, y = [] := ⟨_, rfl⟩
  rw [← hlo] at hC ⊢
  clear hH hlo
  unfold f_X6_records at hf
  refine lv_aload_n hx hb dX6_records_0 rfl (lv_at hl 0 rfl) ?_
  refine z_get S0 hC (ci := 6) (C := RX6) (T := TX6) (N := 17) (v := .int Mkn) jX6_records_X6 0 rfl rfl 3 (by decide) kX6_records_32 rfl rfl dX6_records_1 ?_
  refine lv_iconst (v := 4) hx hb dX6_records_4 (by decide) ?_
  obtain ⟨t2, ht2, hf⟩ := z_bind hf
  have Jt2 : ∀ (H : Heap) (locs : List Loc) (ls : Array Slot), zC G c3 A s (zwM c3.1 c3.2.2 oM (Ms, Mas, t2.1, t2.2, Mke, Mik, Mpp, Mle, Mso, Mfz, Msp, Mfo, Mrd, Mrs, Mlt, Mfi, Mse)) H locs → lv_has ls 2 [(0, .ref oM.1)] → W p l e ⟨1, 0, 0, 24⟩ s m args below meth c H locs 0 0 (MQ below (zPost G (zwM c3.1 c3.2.2 oM (Ms, Mas, Mpa', Mkn', Mke, Mik, Mpp, Mle, Mso, Mfz, Msp, Mfo, Mrd, Mrs, Mlt, Mfi, Mse)) none A) args s 0 0 A) (F0 m 49 ls []) := by
    intro H locs ls hC hl
    refine lv_aload_n hx hb dX6_records_49 rfl (lv_at hl 0 rfl) ?_
    refine z_get S0 hC (ci := 6) (C := RX6) (T := TX6) (N := 17) (v := .ref oM.2.1) jX6_records_X6 0 rfl rfl 0 (by decide) kX6_records_7 rfl rfl dX6_records_50 ?_
    refine lv_iconst (v := 0) hx hb dX6_records_53 (by decide) ?_
    refine lv_aload_n hx hb dX6_records_54 rfl (lv_at hl 0 rfl) ?_
    refine z_get S0 hC (ci := 6) (C := RX6) (T := TX6) (N := 17) (v := .ref oM.2.2.2.1) jX6_records_X6 0 rfl rfl 2 (by decide) kX6_records_16 rfl rfl dX6_records_55 ?_
    refine lv_sipush (v := 150) hx hb dX6_records_58 (by decide) ?_
    refine lv_aload_n hx hb dX6_records_61 rfl (lv_at hl 0 rfl) ?_
    refine z_get S0 hC (ci := 6) (C := RX6) (T := TX6) (N := 17) (v := .int t2.2) jX6_records_X6 0 rfl rfl 3 (by decide) kX6_records_32 rfl rfl dX6_records_62 ?_
    refine lv_imul hx hb dX6_records_65 ?_
    obtain ⟨r3, hr3, hf⟩ := z_bind hf
    refine z_callv (z_runS (n := 4) (rest := []) (As := [.ref oM.2.1, .int 0, .ref oM.2.2.2.1, .int (150 * t2.2)]) S0 hC (c_X6_copies l G c3 oM.2.1 150 Ms oM.2.2.2.1 600 t2.1 0 (150 * t2.2) hr3) [1, 3] (by decide) rfl gX6_records_X6_copies rfl rfl rfl (by decide +kernel) ⟨Nat.le_of_ble_eq_true rfl, Nat.le_of_ble_eq_true rfl⟩ rfl hl.1 rfl (Nat.le_of_ble_eq_true rfl) dX6_records_66) hC [1, 3] [0, 2, 4, 5, 6, 7] [0, 6, 1, 7, 2, 3, 4, 5] rfl (wr := [(oM.1, .inr (6, [.ref oM.2.1, .ref oM.2.2.1, .ref oM.2.2.2.1, .int t2.2, .ref oM.2.2.2.2.1, .int Mik, .ref oM.2.2.2.2.2.1, .int Mle, .ref oM.2.2.2.2.2.2.1, .int Mfz, .int Msp, .int Mfo, .ref oM.2.2.2.2.2.2.2, .int Mrs, .int Mlt, .int Mfi, .int Mse])), (oM.2.2.1, .inl (c3.1, 150, .inl Mas)), (oM.2.2.2.2.1, .inl (c3.1, 150, .inl Mke)), (oM.2.2.2.2.2.1, .inl (c3.1, 60, .inl Mpp)), (oM.2.2.2.2.2.2.1, .inl (c3.2.2, 10, .inl Mso)), (oM.2.2.2.2.2.2.2, .inl (c3.1, 84, .inl Mrd))]) rfl (by decide) (by decide) (ws2 := (zwM c3.1 c3.2.2 oM (Ms, Mas, r3, t2.2, Mke, Mik, Mpp, Mle, Mso, Mfz, Msp, Mfo, Mrd, Mrs, Mlt, Mfi, Mse))) rfl (by decide) (fun H locs hC => ?_)
    refine lv_aload_n hx hb dX6_records_69 rfl (lv_at hl 0 rfl) ?_
    refine lv_dup hx hb dX6_records_70 rfl ?_
    refine z_get S0 hC (ci := 6) (C := RX6) (T := TX6) (N := 17) (v := .int t2.2) jX6_records_X6 0 rfl rfl 3 (by decide) kX6_records_32 rfl rfl dX6_records_71 ?_
    refine lv_iconst (v := 1) hx hb dX6_records_74 (by decide) ?_
    refine lv_iadd hx hb dX6_records_75 ?_
    refine z_put S0 hC (ci := 6) (C := RX6) (T := TX6) (N := 17) (v := .int (t2.2 + 1)) jX6_records_X6 tyX6 tyX6_ok nmX6 0 rfl rfl 3 (by decide) kX6_records_32 rfl rfl rfl rfl (Nat.le_of_ble_eq_true rfl) dX6_records_76 (ws2 := (zwM c3.1 c3.2.2 oM (Ms, Mas, r3, (t2.2 + 1), Mke, Mik, Mpp, Mle, Mso, Mfz, Msp, Mfo, Mrd, Mrs, Mlt, Mfi, Mse))) rfl (fun H locs hC => ?_)
    obtain ⟨e1, e2⟩ := z_s2 hf
    subst e1
    subst e2
    exact z_vret S0 hr hlk hC dX6_records_79
  refine lv_icmp_ne (tgt := 49) hx hb dX6_records_5 (by decide) (fun cd1 => ?_) (fun cd1 => ?_)
  · replace ht2 := z_neg cd1 ht2
    have e1 := z_s1 ht2
    subst e1
    exact Jt2 H locs ls hC (lv_sub hl [0] rfl)
  · replace ht2 := z_pos cd1 ht2
    refine lv_iconst (v := 0) hx hb dX6_records_8 (by decide) ?_
    refine lv_istore_n (lv' := [(1, .int 0), (0, .ref oM.1)]) hx hb dX6_records_9 rfl hl (by decide) rfl (fun ls hl => ?_)
    have L10 : ∀ (fu : Nat) (y1 : Int32) (Ms : (Nat → Int32)) (Mas : (Nat → Int32)) (Mpa : (Nat → Int32)) (Mkn : Int32) (Mke : (Nat → Int32)) (Mik : Int32) (Mpp : (Nat → Int32)) (Mle : Int32) (Mso : (Nat → Int32)) (Mfz : Int32) (Msp : Int32) (Mfo : Int32) (Mrd : (Nat → Int32)) (Mrs : Int32) (Mlt : Int32) (Mfi : Int32) (Mse : Int32) (tt : Int32 × (Nat → Int32)), f_X6_records_10 fu y1 Mpa = some tt → ∀ (H : Heap) (locs : List Loc) (ls : Array Slot), zC G c3 A s (zwM c3.1 c3.2.2 oM (Ms, Mas, Mpa, Mkn, Mke, Mik, Mpp, Mle, Mso, Mfz, Msp, Mfo, Mrd, Mrs, Mlt, Mfi, Mse)) H locs → lv_has ls 2 [(0, .ref oM.1), (1, .int y1)] → (∀ (H : Heap) (locs : List Loc) (ls : Array Slot), zC G c3 A s (zwM c3.1 c3.2.2 oM (Ms, Mas, tt.2, Mkn, Mke, Mik, Mpp, Mle, Mso, Mfz, Msp, Mfo, Mrd, Mrs, Mlt, Mfi, Mse)) H locs → lv_has ls 2 [(0, .ref oM.1), (1, .int tt.1)] → W p l e ⟨1, 0, 0, 24⟩ s m args below meth c H locs 0 0 (MQ below (zPost G (zwM c3.1 c3.2.2 oM (Ms, Mas, Mpa', Mkn', Mke, Mik, Mpp, Mle, Mso, Mfz, Msp, Mfo, Mrd, Mrs, Mlt, Mfi, Mse)) none A) args s 0 0 A) (F0 m 39 ls [])) → W p l e ⟨1, 0, 0, 24⟩ s m args below meth c H locs 0 0 (MQ below (zPost G (zwM c3.1 c3.2.2 oM (Ms, Mas, Mpa', Mkn', Mke, Mik, Mpp, Mle, Mso, Mfz, Msp, Mfo, Mrd, Mrs, Mlt, Mfi, Mse)) none A) args s 0 0 A) (F0 m 10 ls []) := by
      intro fu
      induction fu with
      | zero =>
        intro y1 Ms Mas Mpa Mkn Mke Mik Mpp Mle Mso Mfz Msp Mfo Mrd Mrs Mlt Mfi Mse tt ht2 H locs ls hC hl hK
        exact (z_none ht2).elim
      | succ fu ih10 =>
        intro y1 Ms Mas Mpa Mkn Mke Mik Mpp Mle Mso Mfz Msp Mfo Mrd Mrs Mlt Mfi Mse tt ht2 H locs ls hC hl hK
        replace ht2 := (f_X6_records_10_s y1 Mpa fu).symm.trans ht2
        refine lv_iload_n hx hb dX6_records_10 rfl (lv_at hl 1 rfl) ?_
        refine lv_sipush (v := 450) hx hb dX6_records_11 (by decide) ?_
        refine lv_icmp_ge (tgt := 39) hx hb dX6_records_14 (by decide) (fun cd5 => ?_) (fun cd5 => ?_)
        · replace ht2 := z_pos cd5 ht2
          have e1 := z_s1 ht2
          subst e1
          exact hK H locs ls hC (lv_sub hl [0, 1] rfl)
        · replace ht2 := z_neg cd5 ht2
          refine lv_aload_n hx hb dX6_records_17 rfl (lv_at hl 0 rfl) ?_
          refine z_get S0 hC (ci := 6) (C := RX6) (T := TX6) (N := 17) (v := .ref oM.2.2.2.1) jX6_records_X6 0 rfl rfl 2 (by decide) kX6_records_16 rfl rfl dX6_records_18 ?_
          refine lv_iload_n hx hb dX6_records_21 rfl (lv_at hl 1 rfl) ?_
          refine lv_aload_n hx hb dX6_records_22 rfl (lv_at hl 0 rfl) ?_
          refine z_get S0 hC (ci := 6) (C := RX6) (T := TX6) (N := 17) (v := .ref oM.2.2.2.1) jX6_records_X6 0 rfl rfl 2 (by decide) kX6_records_16 rfl rfl dX6_records_23 ?_
          refine lv_iload_n hx hb dX6_records_26 rfl (lv_at hl 1 rfl) ?_
          refine lv_sipush (v := 150) hx hb dX6_records_27 (by decide) ?_
          refine lv_iadd hx hb dX6_records_30 ?_
          obtain ⟨x6, hx6, ht2⟩ := z_bind ht2
          refine z_iald S0 hC 3 rfl hx6 dX6_records_31 ?_
          obtain ⟨g7, hg7, ht2⟩ := z_bind ht2
          refine z_iast S0 hC 3 rfl hg7 dX6_records_32 (ws2 := (zwM c3.1 c3.2.2 oM (Ms, Mas, g7, Mkn, Mke, Mik, Mpp, Mle, Mso, Mfz, Msp, Mfo, Mrd, Mrs, Mlt, Mfi, Mse))) rfl (fun H locs hC => ?_)
          refine lv_iinc (v := (y1 + 1)) (lv' := [(1, .int (y1 + 1)), (0, .ref oM.1)]) hx hb dX6_records_33 hl (k := 1) rfl rfl (by decide) rfl (fun ls hl => ?_)
          refine lv_goto (tgt := 10) hx hb dX6_records_36 (by decide) ?_
          exact ih10 (y1 + 1) Ms Mas g7 Mkn Mke Mik Mpp Mle Mso Mfz Msp Mfo Mrd Mrs Mlt Mfi Mse _ ht2 H locs ls hC (lv_sub hl [1, 0] rfl) hK
    obtain ⟨t8, ht8, ht2⟩ := z_bind ht2
    refine L10 zF 0 Ms Mas Mpa Mkn Mke Mik Mpp Mle Mso Mfz Msp Mfo Mrd Mrs Mlt Mfi Mse t8 ht8 H locs ls hC (lv_sub hl [1, 0] rfl) (fun H locs ls hC hl => ?_)
    refine lv_aload_n hx hb dX6_records_39 rfl (lv_at hl 0 rfl) ?_
    refine lv_dup hx hb dX6_records_40 rfl ?_
    refine z_get S0 hC (ci := 6) (C := RX6) (T := TX6) (N := 17) (v := .int Mkn) jX6_records_X6 0 rfl rfl 3 (by decide) kX6_records_32 rfl rfl dX6_records_41 ?_
    refine lv_iconst (v := 1) hx hb dX6_records_44 (by decide) ?_
    refine lv_isub hx hb dX6_records_45 ?_
    refine z_put S0 hC (ci := 6) (C := RX6) (T := TX6) (N := 17) (v := .int (Mkn - 1)) jX6_records_X6 tyX6 tyX6_ok nmX6 0 rfl rfl 3 (by decide) kX6_records_32 rfl rfl rfl rfl (Nat.le_of_ble_eq_true rfl) dX6_records_46 (ws2 := (zwM c3.1 c3.2.2 oM (Ms, Mas, t8.2, (Mkn - 1), Mke, Mik, Mpp, Mle, Mso, Mfz, Msp, Mfo, Mrd, Mrs, Mlt, Mfi, Mse))) rfl (fun H locs hC => ?_)
    have e1 := z_s1 ht2
    subst e1
    exact Jt2 H locs ls hC (lv_sub hl [0] rfl)

-- X6 isZone
def f_X6_isZone (Ms : (Nat → Int32)) (p1 : Int32) : Option (Int32) :=
  (zald 150 Ms 0).bind fun x1 => (f_X6_in p1 0 (x1 - 1)).bind fun r2 => (zbool r2).bind fun _ => some (r2)

theorem kX6_isZone_7 : Cond.fieldLink RX6 7 "ZoneSamplerModel" "s" "[I" ∈ wsX6_isZone := by decide +kernel
theorem jX6_isZone_X6 : ∀ w ∈ u_ws RX6 TX6 17, w ∈ wsX6_isZone := by decide +kernel
set_option maxHeartbeats 4000000 in
set_option maxRecDepth 100000 in
theorem c_X6_isZone (l : Launch) (G : va_G) (c3 : zT3) (oM : zR8) (BM : zMd) (p1 : Int32) {r : Int32} (hf : f_X6_isZone BM.1 p1 = some (r)) : zM l yX6_isZone wsX6_isZone ⟨1, 0, 0, 22⟩ G c3 (zwM c3.1 c3.2.2 oM (BM.1, BM.2.1, BM.2.2.1, BM.2.2.2.1, BM.2.2.2.2.1, BM.2.2.2.2.2.1, BM.2.2.2.2.2.2.1, BM.2.2.2.2.2.2.2.1, BM.2.2.2.2.2.2.2.2.1, BM.2.2.2.2.2.2.2.2.2.1, BM.2.2.2.2.2.2.2.2.2.2.1, BM.2.2.2.2.2.2.2.2.2.2.2.1, BM.2.2.2.2.2.2.2.2.2.2.2.2.1, BM.2.2.2.2.2.2.2.2.2.2.2.2.2.1, BM.2.2.2.2.2.2.2.2.2.2.2.2.2.2.1, BM.2.2.2.2.2.2.2.2.2.2.2.2.2.2.2.1, BM.2.2.2.2.2.2.2.2.2.2.2.2.2.2.2.2)) [.ref oM.1, .int p1] (some (.int r)) (zwM c3.1 c3.2.2 oM (BM.1, BM.2.1, BM.2.2.1, BM.2.2.2.1, BM.2.2.2.2.1, BM.2.2.2.2.2.1, BM.2.2.2.2.2.2.1, BM.2.2.2.2.2.2.2.1, BM.2.2.2.2.2.2.2.2.1, BM.2.2.2.2.2.2.2.2.2.1, BM.2.2.2.2.2.2.2.2.2.2.1, BM.2.2.2.2.2.2.2.2.2.2.2.1, BM.2.2.2.2.2.2.2.2.2.2.2.2.1, BM.2.2.2.2.2.2.2.2.2.2.2.2.2.1, BM.2.2.2.2.2.2.2.2.2.2.2.2.2.2.1, BM.2.2.2.2.2.2.2.2.2.2.2.2.2.2.2.1, BM.2.2.2.2.2.2.2.2.2.2.2.2.2.2.2.2)) := by
  obtain ⟨Ms, Mas, Mpa, Mkn, Mke, Mik, Mpp, Mle, Mso, Mfz, Msp, Mfo, Mrd, Mrs, Mlt, Mfi, Mse⟩ := BM
  have hf : f_X6_isZone Ms p1 = some (r) := hf
  show zM l yX6_isZone wsX6_isZone ⟨1, 0, 0, 22⟩ G c3 (zwM c3.1 c3.2.2 oM (Ms, Mas, Mpa, Mkn, Mke, Mik, Mpp, Mle, Mso, Mfz, Msp, Mfo, Mrd, Mrs, Mlt, Mfi, Mse)) [.ref oM.1, .int p1] (some (.int r)) (zwM c3.1 c3.2.2 oM (Ms, Mas, Mpa, Mkn, Mke, Mik, Mpp, Mle, Mso, Mfz, Msp, Mfo, Mrd, Mrs, Mlt, Mfi, Mse))
  refine zM.of (cc := cX6_isZone) (maxL := 2) (ret := (some .boolean)) (by decide) rfl (Nat.le_of_ble_eq_true rfl) ?_
  intro p e s m args below meth c A ls S0 hr hlk hC hl
  have S0 : CallFix p m c cX6_isZone 2 s args wsX6_isZone RX6 := S0
  have hl : lv_has ls 2 [(0, .ref oM.1), (1, .int p1)] := hl
  have hx := S0.1
  have hb := S0.2.1
  obtain ⟨H, hH⟩ : ∃ y, y = s.heap := ⟨_, rfl⟩
  rw [← hH] at hC ⊢
  obtain ⟨locs, hlo⟩ : ∃ y : List Loc, y = [] := ⟨_, rfl⟩
  rw [← hlo] at hC ⊢
  clear hH hlo
  unfold f_X6_isZone at hf
  refine lv_iload_n hx hb dX6_isZone_0 rfl (lv_at hl 1 rfl) ?_
  refine lv_iconst (v := 0) hx hb dX6_isZone_1 (by decide) ?_
  refine lv_aload_n hx hb dX6_isZone_2 rfl (lv_at hl 0 rfl) ?_
  refine z_get S0 hC (ci := 6) (C := RX6) (T := TX6) (N := 17) (v := .ref oM.2.1) jX6_isZone_X6 0 rfl rfl 0 (by decide) kX6_isZone_7 rfl rfl dX6_isZone_3 ?_
  refine lv_iconst (v := 0) hx hb dX6_isZone_6 (by decide) ?_
  obtain ⟨x1, hx1, hf⟩ := z_bind hf
  refine z_iald S0 hC 1 rfl hx1 dX6_isZone_7 ?_
  refine lv_iconst (v := 1) hx hb dX6_isZone_8 (by decide) ?_
  refine lv_isub hx hb dX6_isZone_9 ?_
  obtain ⟨r2, hr2, hf⟩ := z_bind hf
  refine z_callPi (z_runS (n := 3) (rest := []) (As := [.int p1, .int 0, .int (x1 - 1)]) S0 hC (c_X6_in l G c3 p1 0 (x1 - 1) hr2) [] (by decide) rfl gX6_isZone_X6_in rfl rfl rfl (by decide +kernel) ⟨Nat.le_of_ble_eq_true rfl, Nat.le_of_ble_eq_true rfl⟩ rfl hl.1 rfl (Nat.le_of_ble_eq_true rfl) dX6_isZone_10) hC [] rfl (fun H locs hC => ?_)
  obtain ⟨w3, hw3, hf⟩ := z_bind hf
  have e1 := z_s1 hf
  subst e1
  exact z_zret S0 hr hlk (zbool_spec hw3) hC dX6_isZone_13

-- X6 ofZone
def f_X6_ofZone (Ms : (Nat → Int32)) (p1 : Int32) (p2 : Int32) : Option (Int32) :=
  (zald 150 Ms ((16 + (7 * p1)) + p2)).bind fun x1 => some (x1)

theorem kX6_ofZone_7 : Cond.fieldLink RX6 7 "ZoneSamplerModel" "s" "[I" ∈ wsX6_ofZone := by decide +kernel
theorem jX6_ofZone_X6 : ∀ w ∈ u_ws RX6 TX6 17, w ∈ wsX6_ofZone := by decide +kernel
set_option maxHeartbeats 4000000 in
set_option maxRecDepth 100000 in
theorem c_X6_ofZone (l : Launch) (G : va_G) (c3 : zT3) (oM : zR8) (BM : zMd) (p1 : Int32) (p2 : Int32) {r : Int32} (hf : f_X6_ofZone BM.1 p1 p2 = some (r)) : zM l yX6_ofZone wsX6_ofZone ⟨0, 0, 0, 0⟩ G c3 (zwM c3.1 c3.2.2 oM (BM.1, BM.2.1, BM.2.2.1, BM.2.2.2.1, BM.2.2.2.2.1, BM.2.2.2.2.2.1, BM.2.2.2.2.2.2.1, BM.2.2.2.2.2.2.2.1, BM.2.2.2.2.2.2.2.2.1, BM.2.2.2.2.2.2.2.2.2.1, BM.2.2.2.2.2.2.2.2.2.2.1, BM.2.2.2.2.2.2.2.2.2.2.2.1, BM.2.2.2.2.2.2.2.2.2.2.2.2.1, BM.2.2.2.2.2.2.2.2.2.2.2.2.2.1, BM.2.2.2.2.2.2.2.2.2.2.2.2.2.2.1, BM.2.2.2.2.2.2.2.2.2.2.2.2.2.2.2.1, BM.2.2.2.2.2.2.2.2.2.2.2.2.2.2.2.2)) [.ref oM.1, .int p1, .int p2] (some (.int r)) (zwM c3.1 c3.2.2 oM (BM.1, BM.2.1, BM.2.2.1, BM.2.2.2.1, BM.2.2.2.2.1, BM.2.2.2.2.2.1, BM.2.2.2.2.2.2.1, BM.2.2.2.2.2.2.2.1, BM.2.2.2.2.2.2.2.2.1, BM.2.2.2.2.2.2.2.2.2.1, BM.2.2.2.2.2.2.2.2.2.2.1, BM.2.2.2.2.2.2.2.2.2.2.2.1, BM.2.2.2.2.2.2.2.2.2.2.2.2.1, BM.2.2.2.2.2.2.2.2.2.2.2.2.2.1, BM.2.2.2.2.2.2.2.2.2.2.2.2.2.2.1, BM.2.2.2.2.2.2.2.2.2.2.2.2.2.2.2.1, BM.2.2.2.2.2.2.2.2.2.2.2.2.2.2.2.2)) := by
  obtain ⟨Ms, Mas, Mpa, Mkn, Mke, Mik, Mpp, Mle, Mso, Mfz, Msp, Mfo, Mrd, Mrs, Mlt, Mfi, Mse⟩ := BM
  have hf : f_X6_ofZone Ms p1 p2 = some (r) := hf
  show zM l yX6_ofZone wsX6_ofZone ⟨0, 0, 0, 0⟩ G c3 (zwM c3.1 c3.2.2 oM (Ms, Mas, Mpa, Mkn, Mke, Mik, Mpp, Mle, Mso, Mfz, Msp, Mfo, Mrd, Mrs, Mlt, Mfi, Mse)) [.ref oM.1, .int p1, .int p2] (some (.int r)) (zwM c3.1 c3.2.2 oM (Ms, Mas, Mpa, Mkn, Mke, Mik, Mpp, Mle, Mso, Mfz, Msp, Mfo, Mrd, Mrs, Mlt, Mfi, Mse))
  refine zM.of (cc := cX6_ofZone) (maxL := 3) (ret := (some .int)) (by decide) rfl (Nat.le_of_ble_eq_true rfl) ?_
  intro p e s m args below meth c A ls S0 hr hlk hC hl
  have S0 : CallFix p m c cX6_ofZone 3 s args wsX6_ofZone RX6 := S0
  have hl : lv_has ls 3 [(0, .ref oM.1), (1, .int p1), (2, .int p2)] := hl
  have hx := S0.1
  have hb := S0.2.1
  obtain ⟨H, hH⟩ : ∃ y, y = s.heap := ⟨_, rfl⟩
  rw [← hH] at hC ⊢
  obtain ⟨locs, hlo⟩ : ∃ y : List Loc, y = [] := ⟨_, rfl⟩
  rw [← hlo] at hC ⊢
  clear hH hlo
  unfold f_X6_ofZone at hf
  refine lv_aload_n hx hb dX6_ofZone_0 rfl (lv_at hl 0 rfl) ?_
  refine z_get S0 hC (ci := 6) (C := RX6) (T := TX6) (N := 17) (v := .ref oM.2.1) jX6_ofZone_X6 0 rfl rfl 0 (by decide) kX6_ofZone_7 rfl rfl dX6_ofZone_1 ?_
  refine lv_bipush (v := 16) hx hb dX6_ofZone_4 (by decide) ?_
  refine lv_bipush (v := 7) hx hb dX6_ofZone_6 (by decide) ?_
  refine lv_iload_n hx hb dX6_ofZone_8 rfl (lv_at hl 1 rfl) ?_
  refine lv_imul hx hb dX6_ofZone_9 ?_
  refine lv_iadd hx hb dX6_ofZone_10 ?_
  refine lv_iload_n hx hb dX6_ofZone_11 rfl (lv_at hl 2 rfl) ?_
  refine lv_iadd hx hb dX6_ofZone_12 ?_
  obtain ⟨x1, hx1, hf⟩ := z_bind hf
  refine z_iald S0 hC 1 rfl hx1 dX6_ofZone_13 ?_
  have e1 := z_s1 hf
  subst e1
  exact z_iret S0 hr hlk hC dX6_ofZone_14

-- X6 laysZone
def f_X6_laysZone (Ms : (Nat → Int32)) (p1 : Int32) (p2 : Int32) (p3 : Int32) : Option ((Nat → Int32)) :=
  (zast 150 Ms ((16 + (7 * p1)) + p2) p3).bind fun g1 => some (g1)

theorem kX6_laysZone_7 : Cond.fieldLink RX6 7 "ZoneSamplerModel" "s" "[I" ∈ wsX6_laysZone := by decide +kernel
theorem jX6_laysZone_X6 : ∀ w ∈ u_ws RX6 TX6 17, w ∈ wsX6_laysZone := by decide +kernel
set_option maxHeartbeats 4000000 in
set_option maxRecDepth 100000 in
theorem c_X6_laysZone (l : Launch) (G : va_G) (c3 : zT3) (oM : zR8) (BM : zMd) (p1 : Int32) (p2 : Int32) (p3 : Int32) {Ms' : (Nat → Int32)} (hf : f_X6_laysZone BM.1 p1 p2 p3 = some (Ms')) : zM l yX6_laysZone wsX6_laysZone ⟨0, 0, 0, 0⟩ G c3 (zwM c3.1 c3.2.2 oM (BM.1, BM.2.1, BM.2.2.1, BM.2.2.2.1, BM.2.2.2.2.1, BM.2.2.2.2.2.1, BM.2.2.2.2.2.2.1, BM.2.2.2.2.2.2.2.1, BM.2.2.2.2.2.2.2.2.1, BM.2.2.2.2.2.2.2.2.2.1, BM.2.2.2.2.2.2.2.2.2.2.1, BM.2.2.2.2.2.2.2.2.2.2.2.1, BM.2.2.2.2.2.2.2.2.2.2.2.2.1, BM.2.2.2.2.2.2.2.2.2.2.2.2.2.1, BM.2.2.2.2.2.2.2.2.2.2.2.2.2.2.1, BM.2.2.2.2.2.2.2.2.2.2.2.2.2.2.2.1, BM.2.2.2.2.2.2.2.2.2.2.2.2.2.2.2.2)) [.ref oM.1, .int p1, .int p2, .int p3] none (zwM c3.1 c3.2.2 oM (Ms', BM.2.1, BM.2.2.1, BM.2.2.2.1, BM.2.2.2.2.1, BM.2.2.2.2.2.1, BM.2.2.2.2.2.2.1, BM.2.2.2.2.2.2.2.1, BM.2.2.2.2.2.2.2.2.1, BM.2.2.2.2.2.2.2.2.2.1, BM.2.2.2.2.2.2.2.2.2.2.1, BM.2.2.2.2.2.2.2.2.2.2.2.1, BM.2.2.2.2.2.2.2.2.2.2.2.2.1, BM.2.2.2.2.2.2.2.2.2.2.2.2.2.1, BM.2.2.2.2.2.2.2.2.2.2.2.2.2.2.1, BM.2.2.2.2.2.2.2.2.2.2.2.2.2.2.2.1, BM.2.2.2.2.2.2.2.2.2.2.2.2.2.2.2.2)) := by
  obtain ⟨Ms, Mas, Mpa, Mkn, Mke, Mik, Mpp, Mle, Mso, Mfz, Msp, Mfo, Mrd, Mrs, Mlt, Mfi, Mse⟩ := BM
  have hf : f_X6_laysZone Ms p1 p2 p3 = some (Ms') := hf
  show zM l yX6_laysZone wsX6_laysZone ⟨0, 0, 0, 0⟩ G c3 (zwM c3.1 c3.2.2 oM (Ms, Mas, Mpa, Mkn, Mke, Mik, Mpp, Mle, Mso, Mfz, Msp, Mfo, Mrd, Mrs, Mlt, Mfi, Mse)) [.ref oM.1, .int p1, .int p2, .int p3] none (zwM c3.1 c3.2.2 oM (Ms', Mas, Mpa, Mkn, Mke, Mik, Mpp, Mle, Mso, Mfz, Msp, Mfo, Mrd, Mrs, Mlt, Mfi, Mse))
  refine zM.of (cc := cX6_laysZone) (maxL := 4) (ret := none) (by decide) rfl (Nat.le_of_ble_eq_true rfl) ?_
  intro p e s m args below meth c A ls S0 hr hlk hC hl
  have S0 : CallFix p m c cX6_laysZone 4 s args wsX6_laysZone RX6 := S0
  have hl : lv_has ls 4 [(0, .ref oM.1), (1, .int p1), (2, .int p2), (3, .int p3)] := hl
  have hx := S0.1
  have hb := S0.2.1
  obtain ⟨H, hH⟩ : ∃ y, y = s.heap := ⟨_, rfl⟩
  rw [← hH] at hC ⊢
  obtain ⟨locs, hlo⟩ : ∃ y : List Loc, y = [] := ⟨_, rfl⟩
  rw [← hlo] at hC ⊢
  clear hH hlo
  unfold f_X6_laysZone at hf
  refine lv_aload_n hx hb dX6_laysZone_0 rfl (lv_at hl 0 rfl) ?_
  refine z_get S0 hC (ci := 6) (C := RX6) (T := TX6) (N := 17) (v := .ref oM.2.1) jX6_laysZone_X6 0 rfl rfl 0 (by decide) kX6_laysZone_7 rfl rfl dX6_laysZone_1 ?_
  refine lv_bipush (v := 16) hx hb dX6_laysZone_4 (by decide) ?_
  refine lv_bipush (v := 7) hx hb dX6_laysZone_6 (by decide) ?_
  refine lv_iload_n hx hb dX6_laysZone_8 rfl (lv_at hl 1 rfl) ?_
  refine lv_imul hx hb dX6_laysZone_9 ?_
  refine lv_iadd hx hb dX6_laysZone_10 ?_
  refine lv_iload_n hx hb dX6_laysZone_11 rfl (lv_at hl 2 rfl) ?_
  refine lv_iadd hx hb dX6_laysZone_12 ?_
  refine lv_iload_n hx hb dX6_laysZone_13 rfl (lv_at hl 3 rfl) ?_
  obtain ⟨g1, hg1, hf⟩ := z_bind hf
  refine z_iast S0 hC 1 rfl hg1 dX6_laysZone_14 (ws2 := (zwM c3.1 c3.2.2 oM (g1, Mas, Mpa, Mkn, Mke, Mik, Mpp, Mle, Mso, Mfz, Msp, Mfo, Mrd, Mrs, Mlt, Mfi, Mse))) rfl (fun H locs hC => ?_)
  have e1 := z_s1 hf
  subst e1
  exact z_vret S0 hr hlk hC dX6_laysZone_15

-- X6 of
def f_X6_of (Ms : (Nat → Int32)) (p1 : Int32) (p2 : Int32) : Option (Int32) :=
  (zald 150 Ms ((86 + (8 * p1)) + p2)).bind fun x1 => some (x1)

theorem kX6_of_7 : Cond.fieldLink RX6 7 "ZoneSamplerModel" "s" "[I" ∈ wsX6_of := by decide +kernel
theorem jX6_of_X6 : ∀ w ∈ u_ws RX6 TX6 17, w ∈ wsX6_of := by decide +kernel
set_option maxHeartbeats 4000000 in
set_option maxRecDepth 100000 in
theorem c_X6_of (l : Launch) (G : va_G) (c3 : zT3) (oM : zR8) (BM : zMd) (p1 : Int32) (p2 : Int32) {r : Int32} (hf : f_X6_of BM.1 p1 p2 = some (r)) : zM l yX6_of wsX6_of ⟨0, 0, 0, 0⟩ G c3 (zwM c3.1 c3.2.2 oM (BM.1, BM.2.1, BM.2.2.1, BM.2.2.2.1, BM.2.2.2.2.1, BM.2.2.2.2.2.1, BM.2.2.2.2.2.2.1, BM.2.2.2.2.2.2.2.1, BM.2.2.2.2.2.2.2.2.1, BM.2.2.2.2.2.2.2.2.2.1, BM.2.2.2.2.2.2.2.2.2.2.1, BM.2.2.2.2.2.2.2.2.2.2.2.1, BM.2.2.2.2.2.2.2.2.2.2.2.2.1, BM.2.2.2.2.2.2.2.2.2.2.2.2.2.1, BM.2.2.2.2.2.2.2.2.2.2.2.2.2.2.1, BM.2.2.2.2.2.2.2.2.2.2.2.2.2.2.2.1, BM.2.2.2.2.2.2.2.2.2.2.2.2.2.2.2.2)) [.ref oM.1, .int p1, .int p2] (some (.int r)) (zwM c3.1 c3.2.2 oM (BM.1, BM.2.1, BM.2.2.1, BM.2.2.2.1, BM.2.2.2.2.1, BM.2.2.2.2.2.1, BM.2.2.2.2.2.2.1, BM.2.2.2.2.2.2.2.1, BM.2.2.2.2.2.2.2.2.1, BM.2.2.2.2.2.2.2.2.2.1, BM.2.2.2.2.2.2.2.2.2.2.1, BM.2.2.2.2.2.2.2.2.2.2.2.1, BM.2.2.2.2.2.2.2.2.2.2.2.2.1, BM.2.2.2.2.2.2.2.2.2.2.2.2.2.1, BM.2.2.2.2.2.2.2.2.2.2.2.2.2.2.1, BM.2.2.2.2.2.2.2.2.2.2.2.2.2.2.2.1, BM.2.2.2.2.2.2.2.2.2.2.2.2.2.2.2.2)) := by
  obtain ⟨Ms, Mas, Mpa, Mkn, Mke, Mik, Mpp, Mle, Mso, Mfz, Msp, Mfo, Mrd, Mrs, Mlt, Mfi, Mse⟩ := BM
  have hf : f_X6_of Ms p1 p2 = some (r) := hf
  show zM l yX6_of wsX6_of ⟨0, 0, 0, 0⟩ G c3 (zwM c3.1 c3.2.2 oM (Ms, Mas, Mpa, Mkn, Mke, Mik, Mpp, Mle, Mso, Mfz, Msp, Mfo, Mrd, Mrs, Mlt, Mfi, Mse)) [.ref oM.1, .int p1, .int p2] (some (.int r)) (zwM c3.1 c3.2.2 oM (Ms, Mas, Mpa, Mkn, Mke, Mik, Mpp, Mle, Mso, Mfz, Msp, Mfo, Mrd, Mrs, Mlt, Mfi, Mse))
  refine zM.of (cc := cX6_of) (maxL := 3) (ret := (some .int)) (by decide) rfl (Nat.le_of_ble_eq_true rfl) ?_
  intro p e s m args below meth c A ls S0 hr hlk hC hl
  have S0 : CallFix p m c cX6_of 3 s args wsX6_of RX6 := S0
  have hl : lv_has ls 3 [(0, .ref oM.1), (1, .int p1), (2, .int p2)] := hl
  have hx := S0.1
  have hb := S0.2.1
  obtain ⟨H, hH⟩ : ∃ y, y = s.heap := ⟨_, rfl⟩
  rw [← hH] at hC ⊢
  obtain ⟨locs, hlo⟩ : ∃ y : List Loc, y = [] := ⟨_, rfl⟩
  rw [← hlo] at hC ⊢
  clear hH hlo
  unfold f_X6_of at hf
  refine lv_aload_n hx hb dX6_of_0 rfl (lv_at hl 0 rfl) ?_
  refine z_get S0 hC (ci := 6) (C := RX6) (T := TX6) (N := 17) (v := .ref oM.2.1) jX6_of_X6 0 rfl rfl 0 (by decide) kX6_of_7 rfl rfl dX6_of_1 ?_
  refine lv_bipush (v := 86) hx hb dX6_of_4 (by decide) ?_
  refine lv_bipush (v := 8) hx hb dX6_of_6 (by decide) ?_
  refine lv_iload_n hx hb dX6_of_8 rfl (lv_at hl 1 rfl) ?_
  refine lv_imul hx hb dX6_of_9 ?_
  refine lv_iadd hx hb dX6_of_10 ?_
  refine lv_iload_n hx hb dX6_of_11 rfl (lv_at hl 2 rfl) ?_
  refine lv_iadd hx hb dX6_of_12 ?_
  obtain ⟨x1, hx1, hf⟩ := z_bind hf
  refine z_iald S0 hC 1 rfl hx1 dX6_of_13 ?_
  have e1 := z_s1 hf
  subst e1
  exact z_iret S0 hr hlk hC dX6_of_14

-- X6 lays
def f_X6_lays (Ms : (Nat → Int32)) (p1 : Int32) (p2 : Int32) (p3 : Int32) : Option ((Nat → Int32)) :=
  (zast 150 Ms ((86 + (8 * p1)) + p2) p3).bind fun g1 => some (g1)

theorem kX6_lays_7 : Cond.fieldLink RX6 7 "ZoneSamplerModel" "s" "[I" ∈ wsX6_lays := by decide +kernel
theorem jX6_lays_X6 : ∀ w ∈ u_ws RX6 TX6 17, w ∈ wsX6_lays := by decide +kernel
set_option maxHeartbeats 4000000 in
set_option maxRecDepth 100000 in
theorem c_X6_lays (l : Launch) (G : va_G) (c3 : zT3) (oM : zR8) (BM : zMd) (p1 : Int32) (p2 : Int32) (p3 : Int32) {Ms' : (Nat → Int32)} (hf : f_X6_lays BM.1 p1 p2 p3 = some (Ms')) : zM l yX6_lays wsX6_lays ⟨0, 0, 0, 0⟩ G c3 (zwM c3.1 c3.2.2 oM (BM.1, BM.2.1, BM.2.2.1, BM.2.2.2.1, BM.2.2.2.2.1, BM.2.2.2.2.2.1, BM.2.2.2.2.2.2.1, BM.2.2.2.2.2.2.2.1, BM.2.2.2.2.2.2.2.2.1, BM.2.2.2.2.2.2.2.2.2.1, BM.2.2.2.2.2.2.2.2.2.2.1, BM.2.2.2.2.2.2.2.2.2.2.2.1, BM.2.2.2.2.2.2.2.2.2.2.2.2.1, BM.2.2.2.2.2.2.2.2.2.2.2.2.2.1, BM.2.2.2.2.2.2.2.2.2.2.2.2.2.2.1, BM.2.2.2.2.2.2.2.2.2.2.2.2.2.2.2.1, BM.2.2.2.2.2.2.2.2.2.2.2.2.2.2.2.2)) [.ref oM.1, .int p1, .int p2, .int p3] none (zwM c3.1 c3.2.2 oM (Ms', BM.2.1, BM.2.2.1, BM.2.2.2.1, BM.2.2.2.2.1, BM.2.2.2.2.2.1, BM.2.2.2.2.2.2.1, BM.2.2.2.2.2.2.2.1, BM.2.2.2.2.2.2.2.2.1, BM.2.2.2.2.2.2.2.2.2.1, BM.2.2.2.2.2.2.2.2.2.2.1, BM.2.2.2.2.2.2.2.2.2.2.2.1, BM.2.2.2.2.2.2.2.2.2.2.2.2.1, BM.2.2.2.2.2.2.2.2.2.2.2.2.2.1, BM.2.2.2.2.2.2.2.2.2.2.2.2.2.2.1, BM.2.2.2.2.2.2.2.2.2.2.2.2.2.2.2.1, BM.2.2.2.2.2.2.2.2.2.2.2.2.2.2.2.2)) := by
  obtain ⟨Ms, Mas, Mpa, Mkn, Mke, Mik, Mpp, Mle, Mso, Mfz, Msp, Mfo, Mrd, Mrs, Mlt, Mfi, Mse⟩ := BM
  have hf : f_X6_lays Ms p1 p2 p3 = some (Ms') := hf
  show zM l yX6_lays wsX6_lays ⟨0, 0, 0, 0⟩ G c3 (zwM c3.1 c3.2.2 oM (Ms, Mas, Mpa, Mkn, Mke, Mik, Mpp, Mle, Mso, Mfz, Msp, Mfo, Mrd, Mrs, Mlt, Mfi, Mse)) [.ref oM.1, .int p1, .int p2, .int p3] none (zwM c3.1 c3.2.2 oM (Ms', Mas, Mpa, Mkn, Mke, Mik, Mpp, Mle, Mso, Mfz, Msp, Mfo, Mrd, Mrs, Mlt, Mfi, Mse))
  refine zM.of (cc := cX6_lays) (maxL := 4) (ret := none) (by decide) rfl (Nat.le_of_ble_eq_true rfl) ?_
  intro p e s m args below meth c A ls S0 hr hlk hC hl
  have S0 : CallFix p m c cX6_lays 4 s args wsX6_lays RX6 := S0
  have hl : lv_has ls 4 [(0, .ref oM.1), (1, .int p1), (2, .int p2), (3, .int p3)] := hl
  have hx := S0.1
  have hb := S0.2.1
  obtain ⟨H, hH⟩ : ∃ y, y = s.heap := ⟨_, rfl⟩
  rw [← hH] at hC ⊢
  obtain ⟨locs, hlo⟩ : ∃ y : List Loc, y = [] := ⟨_, rfl⟩
  rw [← hlo] at hC ⊢
  clear hH hlo
  unfold f_X6_lays at hf
  refine lv_aload_n hx hb dX6_lays_0 rfl (lv_at hl 0 rfl) ?_
  refine z_get S0 hC (ci := 6) (C := RX6) (T := TX6) (N := 17) (v := .ref oM.2.1) jX6_lays_X6 0 rfl rfl 0 (by decide) kX6_lays_7 rfl rfl dX6_lays_1 ?_
  refine lv_bipush (v := 86) hx hb dX6_lays_4 (by decide) ?_
  refine lv_bipush (v := 8) hx hb dX6_lays_6 (by decide) ?_
  refine lv_iload_n hx hb dX6_lays_8 rfl (lv_at hl 1 rfl) ?_
  refine lv_imul hx hb dX6_lays_9 ?_
  refine lv_iadd hx hb dX6_lays_10 ?_
  refine lv_iload_n hx hb dX6_lays_11 rfl (lv_at hl 2 rfl) ?_
  refine lv_iadd hx hb dX6_lays_12 ?_
  refine lv_iload_n hx hb dX6_lays_13 rfl (lv_at hl 3 rfl) ?_
  obtain ⟨g1, hg1, hf⟩ := z_bind hf
  refine z_iast S0 hC 1 rfl hg1 dX6_lays_14 (ws2 := (zwM c3.1 c3.2.2 oM (g1, Mas, Mpa, Mkn, Mke, Mik, Mpp, Mle, Mso, Mfz, Msp, Mfo, Mrd, Mrs, Mlt, Mfi, Mse))) rfl (fun H locs hC => ?_)
  have e1 := z_s1 hf
  subst e1
  exact z_vret S0 hr hlk hC dX6_lays_15

-- X6 isAnswer
def f_X6_isAnswer (Ms : (Nat → Int32)) (p1 : Int32) (p2 : Int32) (p3 : Int32) : Option (Int32) :=
  (f_X6_ofZone Ms p1 0).bind fun r1 => (f_X6_ofZone Ms p1 1).bind fun r2 => (f_X6_in p2 r1 r2).bind fun r3 => if r3 = 0 then
    some (0)
  else
    (f_X6_ofZone Ms p1 2).bind fun r5 => (f_X6_ofZone Ms p1 3).bind fun r6 => (f_X6_in p3 r5 r6).bind fun r7 => if r7 = 0 then
      some (0)
    else
      some (1)

set_option maxHeartbeats 4000000 in
set_option maxRecDepth 100000 in
theorem c_X6_isAnswer (l : Launch) (G : va_G) (c3 : zT3) (oM : zR8) (BM : zMd) (p1 : Int32) (p2 : Int32) (p3 : Int32) {r : Int32} (hf : f_X6_isAnswer BM.1 p1 p2 p3 = some (r)) : zM l yX6_isAnswer wsX6_isAnswer ⟨1, 0, 0, 22⟩ G c3 (zwM c3.1 c3.2.2 oM (BM.1, BM.2.1, BM.2.2.1, BM.2.2.2.1, BM.2.2.2.2.1, BM.2.2.2.2.2.1, BM.2.2.2.2.2.2.1, BM.2.2.2.2.2.2.2.1, BM.2.2.2.2.2.2.2.2.1, BM.2.2.2.2.2.2.2.2.2.1, BM.2.2.2.2.2.2.2.2.2.2.1, BM.2.2.2.2.2.2.2.2.2.2.2.1, BM.2.2.2.2.2.2.2.2.2.2.2.2.1, BM.2.2.2.2.2.2.2.2.2.2.2.2.2.1, BM.2.2.2.2.2.2.2.2.2.2.2.2.2.2.1, BM.2.2.2.2.2.2.2.2.2.2.2.2.2.2.2.1, BM.2.2.2.2.2.2.2.2.2.2.2.2.2.2.2.2)) [.ref oM.1, .int p1, .int p2, .int p3] (some (.int r)) (zwM c3.1 c3.2.2 oM (BM.1, BM.2.1, BM.2.2.1, BM.2.2.2.1, BM.2.2.2.2.1, BM.2.2.2.2.2.1, BM.2.2.2.2.2.2.1, BM.2.2.2.2.2.2.2.1, BM.2.2.2.2.2.2.2.2.1, BM.2.2.2.2.2.2.2.2.2.1, BM.2.2.2.2.2.2.2.2.2.2.1, BM.2.2.2.2.2.2.2.2.2.2.2.1, BM.2.2.2.2.2.2.2.2.2.2.2.2.1, BM.2.2.2.2.2.2.2.2.2.2.2.2.2.1, BM.2.2.2.2.2.2.2.2.2.2.2.2.2.2.1, BM.2.2.2.2.2.2.2.2.2.2.2.2.2.2.2.1, BM.2.2.2.2.2.2.2.2.2.2.2.2.2.2.2.2)) := by
  obtain ⟨Ms, Mas, Mpa, Mkn, Mke, Mik, Mpp, Mle, Mso, Mfz, Msp, Mfo, Mrd, Mrs, Mlt, Mfi, Mse⟩ := BM
  have hf : f_X6_isAnswer Ms p1 p2 p3 = some (r) := hf
  show zM l yX6_isAnswer wsX6_isAnswer ⟨1, 0, 0, 22⟩ G c3 (zwM c3.1 c3.2.2 oM (Ms, Mas, Mpa, Mkn, Mke, Mik, Mpp, Mle, Mso, Mfz, Msp, Mfo, Mrd, Mrs, Mlt, Mfi, Mse)) [.ref oM.1, .int p1, .int p2, .int p3] (some (.int r)) (zwM c3.1 c3.2.2 oM (Ms, Mas, Mpa, Mkn, Mke, Mik, Mpp, Mle, Mso, Mfz, Msp, Mfo, Mrd, Mrs, Mlt, Mfi, Mse))
  refine zM.of (cc := cX6_isAnswer) (maxL := 4) (ret := (some .boolean)) (by decide) rfl (Nat.le_of_ble_eq_true rfl) ?_
  intro p e s m args below meth c A ls S0 hr hlk hC hl
  have S0 : CallFix p m c cX6_isAnswer 4 s args wsX6_isAnswer RX6 := S0
  have hl : lv_has ls 4 [(0, .ref oM.1), (1, .int p1), (2, .int p2), (3, .int p3)] := hl
  have hx := S0.1
  have hb := S0.2.1
  obtain ⟨H, hH⟩ : ∃ y, y = s.heap := ⟨_, rfl⟩
  rw [← hH] at hC ⊢
  obtain ⟨locs, hlo⟩ : ∃ y : List Loc, y = [] := ⟨_, rfl⟩
  rw [← hlo] at hC ⊢
  clear hH hlo
  unfold f_X6_isAnswer at hf
  refine lv_iload_n hx hb dX6_isAnswer_0 rfl (lv_at hl 2 rfl) ?_
  refine lv_aload_n hx hb dX6_isAnswer_1 rfl (lv_at hl 0 rfl) ?_
  refine lv_iload_n hx hb dX6_isAnswer_2 rfl (lv_at hl 1 rfl) ?_
  refine lv_iconst (v := 0) hx hb dX6_isAnswer_3 (by decide) ?_
  obtain ⟨r1, hr1, hf⟩ := z_bind hf
  refine z_callPi (z_runV (n := 2) (rest := [.int p2]) (As := [.int p1, .int 0]) S0 hC (c_X6_ofZone l G c3 oM (Ms, Mas, Mpa, Mkn, Mke, Mik, Mpp, Mle, Mso, Mfz, Msp, Mfo, Mrd, Mrs, Mlt, Mfi, Mse) p1 0 hr1) [0, 1, 2, 3, 4, 5, 6, 7] (by decide) rfl gX6_isAnswer_X6_ofZone rfl rfl rfl (by decide +kernel) ⟨Nat.le_of_ble_eq_true rfl, Nat.le_of_ble_eq_true rfl⟩ (ci := 6) (q0 := 0) rfl rfl rfl hl.1 rfl (Nat.le_of_ble_eq_true rfl) dX6_isAnswer_4) hC [0, 1, 2, 3, 4, 5, 6, 7] rfl (fun H locs hC => ?_)
  refine lv_aload_n hx hb dX6_isAnswer_7 rfl (lv_at hl 0 rfl) ?_
  refine lv_iload_n hx hb dX6_isAnswer_8 rfl (lv_at hl 1 rfl) ?_
  refine lv_iconst (v := 1) hx hb dX6_isAnswer_9 (by decide) ?_
  obtain ⟨r2, hr2, hf⟩ := z_bind hf
  refine z_callPi (z_runV (n := 2) (rest := [.int r1, .int p2]) (As := [.int p1, .int 1]) S0 hC (c_X6_ofZone l G c3 oM (Ms, Mas, Mpa, Mkn, Mke, Mik, Mpp, Mle, Mso, Mfz, Msp, Mfo, Mrd, Mrs, Mlt, Mfi, Mse) p1 1 hr2) [0, 1, 2, 3, 4, 5, 6, 7] (by decide) rfl gX6_isAnswer_X6_ofZone rfl rfl rfl (by decide +kernel) ⟨Nat.le_of_ble_eq_true rfl, Nat.le_of_ble_eq_true rfl⟩ (ci := 6) (q0 := 0) rfl rfl rfl hl.1 rfl (Nat.le_of_ble_eq_true rfl) dX6_isAnswer_10) hC [0, 1, 2, 3, 4, 5, 6, 7] rfl (fun H locs hC => ?_)
  obtain ⟨r3, hr3, hf⟩ := z_bind hf
  refine z_callPi (z_runS (n := 3) (rest := []) (As := [.int p2, .int r1, .int r2]) S0 hC (c_X6_in l G c3 p2 r1 r2 hr3) [] (by decide) rfl gX6_isAnswer_X6_in rfl rfl rfl (by decide +kernel) ⟨Nat.le_of_ble_eq_true rfl, Nat.le_of_ble_eq_true rfl⟩ rfl hl.1 rfl (Nat.le_of_ble_eq_true rfl) dX6_isAnswer_13) hC [] rfl (fun H locs hC => ?_)
  refine lv_if_eq (tgt := 42) hx hb dX6_isAnswer_16 (by decide) (fun cd4 => ?_) (fun cd4 => ?_)
  · replace hf := z_pos cd4 hf
    refine lv_iconst (v := 0) hx hb dX6_isAnswer_42 (by decide) ?_
    have e1 := z_s1 hf
    subst e1
    exact z_zret S0 hr hlk rfl hC dX6_isAnswer_43
  · replace hf := z_neg cd4 hf
    refine lv_iload_n hx hb dX6_isAnswer_19 rfl (lv_at hl 3 rfl) ?_
    refine lv_aload_n hx hb dX6_isAnswer_20 rfl (lv_at hl 0 rfl) ?_
    refine lv_iload_n hx hb dX6_isAnswer_21 rfl (lv_at hl 1 rfl) ?_
    refine lv_iconst (v := 2) hx hb dX6_isAnswer_22 (by decide) ?_
    obtain ⟨r5, hr5, hf⟩ := z_bind hf
    refine z_callPi (z_runV (n := 2) (rest := [.int p3]) (As := [.int p1, .int 2]) S0 hC (c_X6_ofZone l G c3 oM (Ms, Mas, Mpa, Mkn, Mke, Mik, Mpp, Mle, Mso, Mfz, Msp, Mfo, Mrd, Mrs, Mlt, Mfi, Mse) p1 2 hr5) [0, 1, 2, 3, 4, 5, 6, 7] (by decide) rfl gX6_isAnswer_X6_ofZone rfl rfl rfl (by decide +kernel) ⟨Nat.le_of_ble_eq_true rfl, Nat.le_of_ble_eq_true rfl⟩ (ci := 6) (q0 := 0) rfl rfl rfl hl.1 rfl (Nat.le_of_ble_eq_true rfl) dX6_isAnswer_23) hC [0, 1, 2, 3, 4, 5, 6, 7] rfl (fun H locs hC => ?_)
    refine lv_aload_n hx hb dX6_isAnswer_26 rfl (lv_at hl 0 rfl) ?_
    refine lv_iload_n hx hb dX6_isAnswer_27 rfl (lv_at hl 1 rfl) ?_
    refine lv_iconst (v := 3) hx hb dX6_isAnswer_28 (by decide) ?_
    obtain ⟨r6, hr6, hf⟩ := z_bind hf
    refine z_callPi (z_runV (n := 2) (rest := [.int r5, .int p3]) (As := [.int p1, .int 3]) S0 hC (c_X6_ofZone l G c3 oM (Ms, Mas, Mpa, Mkn, Mke, Mik, Mpp, Mle, Mso, Mfz, Msp, Mfo, Mrd, Mrs, Mlt, Mfi, Mse) p1 3 hr6) [0, 1, 2, 3, 4, 5, 6, 7] (by decide) rfl gX6_isAnswer_X6_ofZone rfl rfl rfl (by decide +kernel) ⟨Nat.le_of_ble_eq_true rfl, Nat.le_of_ble_eq_true rfl⟩ (ci := 6) (q0 := 0) rfl rfl rfl hl.1 rfl (Nat.le_of_ble_eq_true rfl) dX6_isAnswer_29) hC [0, 1, 2, 3, 4, 5, 6, 7] rfl (fun H locs hC => ?_)
    obtain ⟨r7, hr7, hf⟩ := z_bind hf
    refine z_callPi (z_runS (n := 3) (rest := []) (As := [.int p3, .int r5, .int r6]) S0 hC (c_X6_in l G c3 p3 r5 r6 hr7) [] (by decide) rfl gX6_isAnswer_X6_in rfl rfl rfl (by decide +kernel) ⟨Nat.le_of_ble_eq_true rfl, Nat.le_of_ble_eq_true rfl⟩ rfl hl.1 rfl (Nat.le_of_ble_eq_true rfl) dX6_isAnswer_32) hC [] rfl (fun H locs hC => ?_)
    refine lv_if_eq (tgt := 42) hx hb dX6_isAnswer_35 (by decide) (fun cd8 => ?_) (fun cd8 => ?_)
    · replace hf := z_pos cd8 hf
      refine lv_iconst (v := 0) hx hb dX6_isAnswer_42 (by decide) ?_
      have e1 := z_s1 hf
      subst e1
      exact z_zret S0 hr hlk rfl hC dX6_isAnswer_43
    · replace hf := z_neg cd8 hf
      refine lv_iconst (v := 1) hx hb dX6_isAnswer_38 (by decide) ?_
      refine lv_goto (tgt := 43) hx hb dX6_isAnswer_39 (by decide) ?_
      have e1 := z_s1 hf
      subst e1
      exact z_zret S0 hr hlk rfl hC dX6_isAnswer_43

-- X6 answering
def f_X6_answering_5 (y1 : Int32) (y2 : Int32) (Ms : (Nat → Int32)) : Nat → Int32 → Int32 → Option (Int32 × Int32)
  | 0, _, _ => none
  | fu + 1, y3, y4 =>
    (zald 150 Ms 0).bind fun x2 => if x2 ≤ y4 then
      some (y3, y4)
    else
      (f_X6_isAnswer Ms y4 y1 y2).bind fun r4 => Option.bind (α := Int32) (
        if r4 = 0 then
          some (0)
        else
          some (1)
      ) fun t6 =>
        f_X6_answering_5 y1 y2 Ms fu (y3 + t6) (y4 + 1)

theorem f_X6_answering_5_s (y1 : Int32) (y2 : Int32) (Ms : (Nat → Int32)) (y3 : Int32) (y4 : Int32) (fu : Nat) : f_X6_answering_5 y1 y2 Ms (fu + 1) y3 y4 = (
    (zald 150 Ms 0).bind fun x2 => if x2 ≤ y4 then
      some (y3, y4)
    else
      (f_X6_isAnswer Ms y4 y1 y2).bind fun r4 => Option.bind (α := Int32) (
        if r4 = 0 then
          some (0)
        else
          some (1)
      ) fun t6 =>
        f_X6_answering_5 y1 y2 Ms fu (y3 + t6) (y4 + 1)
    ) := rfl

def f_X6_answering (Ms : (Nat → Int32)) (p1 : Int32) (p2 : Int32) : Option (Int32) :=
  (f_X6_answering_5 p1 p2 Ms zF 0 0).bind fun t7 =>
    some (t7.1)

theorem kX6_answering_7 : Cond.fieldLink RX6 7 "ZoneSamplerModel" "s" "[I" ∈ wsX6_answering := by decide +kernel
theorem jX6_answering_X6 : ∀ w ∈ u_ws RX6 TX6 17, w ∈ wsX6_answering := by decide +kernel
set_option maxHeartbeats 4000000 in
set_option maxRecDepth 100000 in
theorem c_X6_answering (l : Launch) (G : va_G) (c3 : zT3) (oM : zR8) (BM : zMd) (p1 : Int32) (p2 : Int32) {r : Int32} (hf : f_X6_answering BM.1 p1 p2 = some (r)) : zM l yX6_answering wsX6_answering ⟨2, 0, 0, 45⟩ G c3 (zwM c3.1 c3.2.2 oM (BM.1, BM.2.1, BM.2.2.1, BM.2.2.2.1, BM.2.2.2.2.1, BM.2.2.2.2.2.1, BM.2.2.2.2.2.2.1, BM.2.2.2.2.2.2.2.1, BM.2.2.2.2.2.2.2.2.1, BM.2.2.2.2.2.2.2.2.2.1, BM.2.2.2.2.2.2.2.2.2.2.1, BM.2.2.2.2.2.2.2.2.2.2.2.1, BM.2.2.2.2.2.2.2.2.2.2.2.2.1, BM.2.2.2.2.2.2.2.2.2.2.2.2.2.1, BM.2.2.2.2.2.2.2.2.2.2.2.2.2.2.1, BM.2.2.2.2.2.2.2.2.2.2.2.2.2.2.2.1, BM.2.2.2.2.2.2.2.2.2.2.2.2.2.2.2.2)) [.ref oM.1, .int p1, .int p2] (some (.int r)) (zwM c3.1 c3.2.2 oM (BM.1, BM.2.1, BM.2.2.1, BM.2.2.2.1, BM.2.2.2.2.1, BM.2.2.2.2.2.1, BM.2.2.2.2.2.2.1, BM.2.2.2.2.2.2.2.1, BM.2.2.2.2.2.2.2.2.1, BM.2.2.2.2.2.2.2.2.2.1, BM.2.2.2.2.2.2.2.2.2.2.1, BM.2.2.2.2.2.2.2.2.2.2.2.1, BM.2.2.2.2.2.2.2.2.2.2.2.2.1, BM.2.2.2.2.2.2.2.2.2.2.2.2.2.1, BM.2.2.2.2.2.2.2.2.2.2.2.2.2.2.1, BM.2.2.2.2.2.2.2.2.2.2.2.2.2.2.2.1, BM.2.2.2.2.2.2.2.2.2.2.2.2.2.2.2.2)) := by
  obtain ⟨Ms, Mas, Mpa, Mkn, Mke, Mik, Mpp, Mle, Mso, Mfz, Msp, Mfo, Mrd, Mrs, Mlt, Mfi, Mse⟩ := BM
  have hf : f_X6_answering Ms p1 p2 = some (r) := hf
  show zM l yX6_answering wsX6_answering ⟨2, 0, 0, 45⟩ G c3 (zwM c3.1 c3.2.2 oM (Ms, Mas, Mpa, Mkn, Mke, Mik, Mpp, Mle, Mso, Mfz, Msp, Mfo, Mrd, Mrs, Mlt, Mfi, Mse)) [.ref oM.1, .int p1, .int p2] (some (.int r)) (zwM c3.1 c3.2.2 oM (Ms, Mas, Mpa, Mkn, Mke, Mik, Mpp, Mle, Mso, Mfz, Msp, Mfo, Mrd, Mrs, Mlt, Mfi, Mse))
  refine zM.of (cc := cX6_answering) (maxL := 5) (ret := (some .int)) (by decide) rfl (Nat.le_of_ble_eq_true rfl) ?_
  intro p e s m args below meth c A ls S0 hr hlk hC hl
  have S0 : CallFix p m c cX6_answering 5 s args wsX6_answering RX6 := S0
  have hl : lv_has ls 5 [(0, .ref oM.1), (1, .int p1), (2, .int p2)] := hl
  have hx := S0.1
  have hb := S0.2.1
  obtain ⟨H, hH⟩ : ∃ y, y = s.heap := ⟨_, rfl⟩
  rw [← hH] at hC ⊢
  obtain ⟨locs, hlo⟩ : ∃ y : List Loc, y = [] := ⟨_, rfl⟩
  rw [← hlo] at hC ⊢
  clear hH hlo
  unfold f_X6_answering at hf
  refine lv_iconst (v := 0) hx hb dX6_answering_0 (by decide) ?_
  refine lv_istore_n (lv' := [(3, .int 0), (0, .ref oM.1), (1, .int p1), (2, .int p2)]) hx hb dX6_answering_1 rfl hl (by decide) rfl (fun ls hl => ?_)
  refine lv_iconst (v := 0) hx hb dX6_answering_2 (by decide) ?_
  refine lv_istore (lv' := [(4, .int 0), (3, .int 0), (0, .ref oM.1), (1, .int p1), (2, .int p2)]) hx hb dX6_answering_3 hl (by decide) rfl (fun ls hl => ?_)
  have L5 : ∀ (fu : Nat) (y1 : Int32) (y2 : Int32) (y3 : Int32) (y4 : Int32) (Ms : (Nat → Int32)) (Mas : (Nat → Int32)) (Mpa : (Nat → Int32)) (Mkn : Int32) (Mke : (Nat → Int32)) (Mik : Int32) (Mpp : (Nat → Int32)) (Mle : Int32) (Mso : (Nat → Int32)) (Mfz : Int32) (Msp : Int32) (Mfo : Int32) (Mrd : (Nat → Int32)) (Mrs : Int32) (Mlt : Int32) (Mfi : Int32) (Mse : Int32) (tt : Int32 × Int32), f_X6_answering_5 y1 y2 Ms fu y3 y4 = some tt → ∀ (H : Heap) (locs : List Loc) (ls : Array Slot), zC G c3 A s (zwM c3.1 c3.2.2 oM (Ms, Mas, Mpa, Mkn, Mke, Mik, Mpp, Mle, Mso, Mfz, Msp, Mfo, Mrd, Mrs, Mlt, Mfi, Mse)) H locs → lv_has ls 5 [(0, .ref oM.1), (1, .int y1), (2, .int y2), (3, .int y3), (4, .int y4)] → (∀ (H : Heap) (locs : List Loc) (ls : Array Slot), zC G c3 A s (zwM c3.1 c3.2.2 oM (Ms, Mas, Mpa, Mkn, Mke, Mik, Mpp, Mle, Mso, Mfz, Msp, Mfo, Mrd, Mrs, Mlt, Mfi, Mse)) H locs → lv_has ls 5 [(0, .ref oM.1), (1, .int y1), (2, .int y2), (3, .int tt.1), (4, .int tt.2)] → W p l e ⟨2, 0, 0, 45⟩ s m args below meth c H locs 0 0 (MQ below (zPost G (zwM c3.1 c3.2.2 oM (Ms, Mas, Mpa, Mkn, Mke, Mik, Mpp, Mle, Mso, Mfz, Msp, Mfo, Mrd, Mrs, Mlt, Mfi, Mse)) (some (.int r)) A) args s 0 0 A) (F0 m 41 ls [])) → W p l e ⟨2, 0, 0, 45⟩ s m args below meth c H locs 0 0 (MQ below (zPost G (zwM c3.1 c3.2.2 oM (Ms, Mas, Mpa, Mkn, Mke, Mik, Mpp, Mle, Mso, Mfz, Msp, Mfo, Mrd, Mrs, Mlt, Mfi, Mse)) (some (.int r)) A) args s 0 0 A) (F0 m 5 ls []) := by
    intro fu
    induction fu with
    | zero =>
      intro y1 y2 y3 y4 Ms Mas Mpa Mkn Mke Mik Mpp Mle Mso Mfz Msp Mfo Mrd Mrs Mlt Mfi Mse tt hf H locs ls hC hl hK
      exact (z_none hf).elim
    | succ fu ih5 =>
      intro y1 y2 y3 y4 Ms Mas Mpa Mkn Mke Mik Mpp Mle Mso Mfz Msp Mfo Mrd Mrs Mlt Mfi Mse tt hf H locs ls hC hl hK
      replace hf := (f_X6_answering_5_s y1 y2 Ms y3 y4 fu).symm.trans hf
      refine lv_iload hx hb dX6_answering_5 (lv_at hl 4 rfl) ?_
      refine lv_aload_n hx hb dX6_answering_7 rfl (lv_at hl 0 rfl) ?_
      refine z_get S0 hC (ci := 6) (C := RX6) (T := TX6) (N := 17) (v := .ref oM.2.1) jX6_answering_X6 0 rfl rfl 0 (by decide) kX6_answering_7 rfl rfl dX6_answering_8 ?_
      refine lv_iconst (v := 0) hx hb dX6_answering_11 (by decide) ?_
      obtain ⟨x2, hx2, hf⟩ := z_bind hf
      refine z_iald S0 hC 1 rfl hx2 dX6_answering_12 ?_
      refine lv_icmp_ge (tgt := 41) hx hb dX6_answering_13 (by decide) (fun cd3 => ?_) (fun cd3 => ?_)
      · replace hf := z_pos cd3 hf
        have e1 := z_s1 hf
        subst e1
        exact hK H locs ls hC (lv_sub hl [0, 1, 2, 3, 4] rfl)
      · replace hf := z_neg cd3 hf
        refine lv_iload_n hx hb dX6_answering_16 rfl (lv_at hl 3 rfl) ?_
        refine lv_aload_n hx hb dX6_answering_17 rfl (lv_at hl 0 rfl) ?_
        refine lv_iload hx hb dX6_answering_18 (lv_at hl 4 rfl) ?_
        refine lv_iload_n hx hb dX6_answering_20 rfl (lv_at hl 1 rfl) ?_
        refine lv_iload_n hx hb dX6_answering_21 rfl (lv_at hl 2 rfl) ?_
        obtain ⟨r4, hr4, hf⟩ := z_bind hf
        refine z_callPi (z_runV (n := 3) (rest := [.int y3]) (As := [.int y4, .int y1, .int y2]) S0 hC (c_X6_isAnswer l G c3 oM (Ms, Mas, Mpa, Mkn, Mke, Mik, Mpp, Mle, Mso, Mfz, Msp, Mfo, Mrd, Mrs, Mlt, Mfi, Mse) y4 y1 y2 hr4) [0, 1, 2, 3, 4, 5, 6, 7] (by decide) rfl gX6_answering_X6_isAnswer rfl rfl rfl (by decide +kernel) ⟨Nat.le_of_ble_eq_true rfl, Nat.le_of_ble_eq_true rfl⟩ (ci := 6) (q0 := 0) rfl rfl rfl hl.1 rfl (Nat.le_of_ble_eq_true rfl) dX6_answering_22) hC [0, 1, 2, 3, 4, 5, 6, 7] rfl (fun H locs hC => ?_)
        obtain ⟨t6, ht6, hf⟩ := z_bind hf
        have Jt6 : ∀ (H : Heap) (locs : List Loc) (ls : Array Slot), zC G c3 A s (zwM c3.1 c3.2.2 oM (Ms, Mas, Mpa, Mkn, Mke, Mik, Mpp, Mle, Mso, Mfz, Msp, Mfo, Mrd, Mrs, Mlt, Mfi, Mse)) H locs → lv_has ls 5 [(0, .ref oM.1), (1, .int y1), (2, .int y2), (3, .int y3), (4, .int y4)] → W p l e ⟨2, 0, 0, 45⟩ s m args below meth c H locs 0 0 (MQ below (zPost G (zwM c3.1 c3.2.2 oM (Ms, Mas, Mpa, Mkn, Mke, Mik, Mpp, Mle, Mso, Mfz, Msp, Mfo, Mrd, Mrs, Mlt, Mfi, Mse)) (some (.int r)) A) args s 0 0 A) (F0 m 33 ls [.int t6, .int y3]) := by
          intro H locs ls hC hl
          refine lv_iadd hx hb dX6_answering_33 ?_
          refine lv_istore_n (lv' := [(3, .int (y3 + t6)), (0, .ref oM.1), (1, .int y1), (2, .int y2), (4, .int y4)]) hx hb dX6_answering_34 rfl hl (by decide) rfl (fun ls hl => ?_)
          refine lv_iinc (v := (y4 + 1)) (lv' := [(4, .int (y4 + 1)), (3, .int (y3 + t6)), (0, .ref oM.1), (1, .int y1), (2, .int y2)]) hx hb dX6_answering_35 hl (k := 4) rfl rfl (by decide) rfl (fun ls hl => ?_)
          refine lv_goto (tgt := 5) hx hb dX6_answering_38 (by decide) ?_
          exact ih5 y1 y2 (y3 + t6) (y4 + 1) Ms Mas Mpa Mkn Mke Mik Mpp Mle Mso Mfz Msp Mfo Mrd Mrs Mlt Mfi Mse _ hf H locs ls hC (lv_sub hl [2, 3, 4, 1, 0] rfl) hK
        refine lv_if_eq (tgt := 32) hx hb dX6_answering_25 (by decide) (fun cd5 => ?_) (fun cd5 => ?_)
        · replace ht6 := z_pos cd5 ht6
          refine lv_iconst (v := 0) hx hb dX6_answering_32 (by decide) ?_
          have e1 := z_s1 ht6
          subst e1
          exact Jt6 H locs ls hC (lv_sub hl [0, 1, 2, 3, 4] rfl)
        · replace ht6 := z_neg cd5 ht6
          refine lv_iconst (v := 1) hx hb dX6_answering_28 (by decide) ?_
          refine lv_goto (tgt := 33) hx hb dX6_answering_29 (by decide) ?_
          have e1 := z_s1 ht6
          subst e1
          exact Jt6 H locs ls hC (lv_sub hl [0, 1, 2, 3, 4] rfl)
  obtain ⟨t7, ht7, hf⟩ := z_bind hf
  refine L5 zF p1 p2 0 0 Ms Mas Mpa Mkn Mke Mik Mpp Mle Mso Mfz Msp Mfo Mrd Mrs Mlt Mfi Mse t7 ht7 H locs ls hC (lv_sub hl [2, 3, 4, 1, 0] rfl) (fun H locs ls hC hl => ?_)
  refine lv_iload_n hx hb dX6_answering_41 rfl (lv_at hl 3 rfl) ?_
  have e1 := z_s1 hf
  subst e1
  exact z_iret S0 hr hlk hC dX6_answering_42

-- X6 ofRobin
def f_X6_ofRobin_6 (y1 : Int32) (y2 : Int32) (y3 : Int32) (y4 : Int32) (Ms : (Nat → Int32)) : Nat → Int32 → Int32 → Option (Int32 × Int32)
  | 0, _, _ => none
  | fu + 1, y5, y6 =>
    if y2 ≤ y6 then
      some (y5, y6)
    else
      (f_X6_ofZone Ms y6 5).bind fun r3 => Option.bind (α := Int32) (
        if r3 = y1 then
          (f_X6_isAnswer Ms y6 y3 y4).bind fun r6 => if r6 = 0 then
            some (0)
          else
            some (1)
        else
          some (0)
      ) fun t5 =>
        f_X6_ofRobin_6 y1 y2 y3 y4 Ms fu (y5 + t5) (y6 + 1)

theorem f_X6_ofRobin_6_s (y1 : Int32) (y2 : Int32) (y3 : Int32) (y4 : Int32) (Ms : (Nat → Int32)) (y5 : Int32) (y6 : Int32) (fu : Nat) : f_X6_ofRobin_6 y1 y2 y3 y4 Ms (fu + 1) y5 y6 = (
    if y2 ≤ y6 then
      some (y5, y6)
    else
      (f_X6_ofZone Ms y6 5).bind fun r3 => Option.bind (α := Int32) (
        if r3 = y1 then
          (f_X6_isAnswer Ms y6 y3 y4).bind fun r6 => if r6 = 0 then
            some (0)
          else
            some (1)
        else
          some (0)
      ) fun t5 =>
        f_X6_ofRobin_6 y1 y2 y3 y4 Ms fu (y5 + t5) (y6 + 1)
    ) := rfl

def f_X6_ofRobin (Ms : (Nat → Int32)) (p1 : Int32) (p2 : Int32) (p3 : Int32) (p4 : Int32) : Option (Int32) :=
  (f_X6_ofRobin_6 p1 p2 p3 p4 Ms zF 0 0).bind fun t8 =>
    some (t8.1)

set_option maxHeartbeats 4000000 in
set_option maxRecDepth 100000 in
theorem c_X6_ofRobin (l : Launch) (G : va_G) (c3 : zT3) (oM : zR8) (BM : zMd) (p1 : Int32) (p2 : Int32) (p3 : Int32) (p4 : Int32) {r : Int32} (hf : f_X6_ofRobin BM.1 p1 p2 p3 p4 = some (r)) : zM l yX6_ofRobin wsX6_ofRobin ⟨2, 0, 0, 45⟩ G c3 (zwM c3.1 c3.2.2 oM (BM.1, BM.2.1, BM.2.2.1, BM.2.2.2.1, BM.2.2.2.2.1, BM.2.2.2.2.2.1, BM.2.2.2.2.2.2.1, BM.2.2.2.2.2.2.2.1, BM.2.2.2.2.2.2.2.2.1, BM.2.2.2.2.2.2.2.2.2.1, BM.2.2.2.2.2.2.2.2.2.2.1, BM.2.2.2.2.2.2.2.2.2.2.2.1, BM.2.2.2.2.2.2.2.2.2.2.2.2.1, BM.2.2.2.2.2.2.2.2.2.2.2.2.2.1, BM.2.2.2.2.2.2.2.2.2.2.2.2.2.2.1, BM.2.2.2.2.2.2.2.2.2.2.2.2.2.2.2.1, BM.2.2.2.2.2.2.2.2.2.2.2.2.2.2.2.2)) [.ref oM.1, .int p1, .int p2, .int p3, .int p4] (some (.int r)) (zwM c3.1 c3.2.2 oM (BM.1, BM.2.1, BM.2.2.1, BM.2.2.2.1, BM.2.2.2.2.1, BM.2.2.2.2.2.1, BM.2.2.2.2.2.2.1, BM.2.2.2.2.2.2.2.1, BM.2.2.2.2.2.2.2.2.1, BM.2.2.2.2.2.2.2.2.2.1, BM.2.2.2.2.2.2.2.2.2.2.1, BM.2.2.2.2.2.2.2.2.2.2.2.1, BM.2.2.2.2.2.2.2.2.2.2.2.2.1, BM.2.2.2.2.2.2.2.2.2.2.2.2.2.1, BM.2.2.2.2.2.2.2.2.2.2.2.2.2.2.1, BM.2.2.2.2.2.2.2.2.2.2.2.2.2.2.2.1, BM.2.2.2.2.2.2.2.2.2.2.2.2.2.2.2.2)) := by
  obtain ⟨Ms, Mas, Mpa, Mkn, Mke, Mik, Mpp, Mle, Mso, Mfz, Msp, Mfo, Mrd, Mrs, Mlt, Mfi, Mse⟩ := BM
  have hf : f_X6_ofRobin Ms p1 p2 p3 p4 = some (r) := hf
  show zM l yX6_ofRobin wsX6_ofRobin ⟨2, 0, 0, 45⟩ G c3 (zwM c3.1 c3.2.2 oM (Ms, Mas, Mpa, Mkn, Mke, Mik, Mpp, Mle, Mso, Mfz, Msp, Mfo, Mrd, Mrs, Mlt, Mfi, Mse)) [.ref oM.1, .int p1, .int p2, .int p3, .int p4] (some (.int r)) (zwM c3.1 c3.2.2 oM (Ms, Mas, Mpa, Mkn, Mke, Mik, Mpp, Mle, Mso, Mfz, Msp, Mfo, Mrd, Mrs, Mlt, Mfi, Mse))
  refine zM.of (cc := cX6_ofRobin) (maxL := 7) (ret := (some .int)) (by decide) rfl (Nat.le_of_ble_eq_true rfl) ?_
  intro p e s m args below meth c A ls S0 hr hlk hC hl
  have S0 : CallFix p m c cX6_ofRobin 7 s args wsX6_ofRobin RX6 := S0
  have hl : lv_has ls 7 [(0, .ref oM.1), (1, .int p1), (2, .int p2), (3, .int p3), (4, .int p4)] := hl
  have hx := S0.1
  have hb := S0.2.1
  obtain ⟨H, hH⟩ : ∃ y, y = s.heap := ⟨_, rfl⟩
  rw [← hH] at hC ⊢
  obtain ⟨locs, hlo⟩ : ∃ y : List Loc, y = [] := ⟨_, rfl⟩
  rw [← hlo] at hC ⊢
  clear hH hlo
  unfold f_X6_ofRobin at hf
  refine lv_iconst (v := 0) hx hb dX6_ofRobin_0 (by decide) ?_
  refine lv_istore (lv' := [(5, .int 0), (0, .ref oM.1), (1, .int p1), (2, .int p2), (3, .int p3), (4, .int p4)]) hx hb dX6_ofRobin_1 hl (by decide) rfl (fun ls hl => ?_)
  refine lv_iconst (v := 0) hx hb dX6_ofRobin_3 (by decide) ?_
  refine lv_istore (lv' := [(6, .int 0), (5, .int 0), (0, .ref oM.1), (1, .int p1), (2, .int p2), (3, .int p3), (4, .int p4)]) hx hb dX6_ofRobin_4 hl (by decide) rfl (fun ls hl => ?_)
  have L6 : ∀ (fu : Nat) (y1 : Int32) (y2 : Int32) (y3 : Int32) (y4 : Int32) (y5 : Int32) (y6 : Int32) (Ms : (Nat → Int32)) (Mas : (Nat → Int32)) (Mpa : (Nat → Int32)) (Mkn : Int32) (Mke : (Nat → Int32)) (Mik : Int32) (Mpp : (Nat → Int32)) (Mle : Int32) (Mso : (Nat → Int32)) (Mfz : Int32) (Msp : Int32) (Mfo : Int32) (Mrd : (Nat → Int32)) (Mrs : Int32) (Mlt : Int32) (Mfi : Int32) (Mse : Int32) (tt : Int32 × Int32), f_X6_ofRobin_6 y1 y2 y3 y4 Ms fu y5 y6 = some tt → ∀ (H : Heap) (locs : List Loc) (ls : Array Slot), zC G c3 A s (zwM c3.1 c3.2.2 oM (Ms, Mas, Mpa, Mkn, Mke, Mik, Mpp, Mle, Mso, Mfz, Msp, Mfo, Mrd, Mrs, Mlt, Mfi, Mse)) H locs → lv_has ls 7 [(0, .ref oM.1), (1, .int y1), (2, .int y2), (3, .int y3), (4, .int y4), (5, .int y5), (6, .int y6)] → (∀ (H : Heap) (locs : List Loc) (ls : Array Slot), zC G c3 A s (zwM c3.1 c3.2.2 oM (Ms, Mas, Mpa, Mkn, Mke, Mik, Mpp, Mle, Mso, Mfz, Msp, Mfo, Mrd, Mrs, Mlt, Mfi, Mse)) H locs → lv_has ls 7 [(0, .ref oM.1), (1, .int y1), (2, .int y2), (3, .int y3), (4, .int y4), (5, .int tt.1), (6, .int tt.2)] → W p l e ⟨2, 0, 0, 45⟩ s m args below meth c H locs 0 0 (MQ below (zPost G (zwM c3.1 c3.2.2 oM (Ms, Mas, Mpa, Mkn, Mke, Mik, Mpp, Mle, Mso, Mfz, Msp, Mfo, Mrd, Mrs, Mlt, Mfi, Mse)) (some (.int r)) A) args s 0 0 A) (F0 m 51 ls [])) → W p l e ⟨2, 0, 0, 45⟩ s m args below meth c H locs 0 0 (MQ below (zPost G (zwM c3.1 c3.2.2 oM (Ms, Mas, Mpa, Mkn, Mke, Mik, Mpp, Mle, Mso, Mfz, Msp, Mfo, Mrd, Mrs, Mlt, Mfi, Mse)) (some (.int r)) A) args s 0 0 A) (F0 m 6 ls []) := by
    intro fu
    induction fu with
    | zero =>
      intro y1 y2 y3 y4 y5 y6 Ms Mas Mpa Mkn Mke Mik Mpp Mle Mso Mfz Msp Mfo Mrd Mrs Mlt Mfi Mse tt hf H locs ls hC hl hK
      exact (z_none hf).elim
    | succ fu ih6 =>
      intro y1 y2 y3 y4 y5 y6 Ms Mas Mpa Mkn Mke Mik Mpp Mle Mso Mfz Msp Mfo Mrd Mrs Mlt Mfi Mse tt hf H locs ls hC hl hK
      replace hf := (f_X6_ofRobin_6_s y1 y2 y3 y4 Ms y5 y6 fu).symm.trans hf
      refine lv_iload hx hb dX6_ofRobin_6 (lv_at hl 6 rfl) ?_
      refine lv_iload_n hx hb dX6_ofRobin_8 rfl (lv_at hl 2 rfl) ?_
      refine lv_icmp_ge (tgt := 51) hx hb dX6_ofRobin_9 (by decide) (fun cd2 => ?_) (fun cd2 => ?_)
      · replace hf := z_pos cd2 hf
        have e1 := z_s1 hf
        subst e1
        exact hK H locs ls hC (lv_sub hl [0, 1, 2, 3, 4, 5, 6] rfl)
      · replace hf := z_neg cd2 hf
        refine lv_iload hx hb dX6_ofRobin_12 (lv_at hl 5 rfl) ?_
        refine lv_aload_n hx hb dX6_ofRobin_14 rfl (lv_at hl 0 rfl) ?_
        refine lv_iload hx hb dX6_ofRobin_15 (lv_at hl 6 rfl) ?_
        refine lv_iconst (v := 5) hx hb dX6_ofRobin_17 (by decide) ?_
        obtain ⟨r3, hr3, hf⟩ := z_bind hf
        refine z_callPi (z_runV (n := 2) (rest := [.int y5]) (As := [.int y6, .int 5]) S0 hC (c_X6_ofZone l G c3 oM (Ms, Mas, Mpa, Mkn, Mke, Mik, Mpp, Mle, Mso, Mfz, Msp, Mfo, Mrd, Mrs, Mlt, Mfi, Mse) y6 5 hr3) [0, 1, 2, 3, 4, 5, 6, 7] (by decide) rfl gX6_ofRobin_X6_ofZone rfl rfl rfl (by decide +kernel) ⟨Nat.le_of_ble_eq_true rfl, Nat.le_of_ble_eq_true rfl⟩ (ci := 6) (q0 := 0) rfl rfl rfl hl.1 rfl (Nat.le_of_ble_eq_true rfl) dX6_ofRobin_18) hC [0, 1, 2, 3, 4, 5, 6, 7] rfl (fun H locs hC => ?_)
        refine lv_iload_n hx hb dX6_ofRobin_21 rfl (lv_at hl 1 rfl) ?_
        obtain ⟨t5, ht5, hf⟩ := z_bind hf
        have Jt5 : ∀ (H : Heap) (locs : List Loc) (ls : Array Slot), zC G c3 A s (zwM c3.1 c3.2.2 oM (Ms, Mas, Mpa, Mkn, Mke, Mik, Mpp, Mle, Mso, Mfz, Msp, Mfo, Mrd, Mrs, Mlt, Mfi, Mse)) H locs → lv_has ls 7 [(0, .ref oM.1), (1, .int y1), (2, .int y2), (3, .int y3), (4, .int y4), (5, .int y5), (6, .int y6)] → W p l e ⟨2, 0, 0, 45⟩ s m args below meth c H locs 0 0 (MQ below (zPost G (zwM c3.1 c3.2.2 oM (Ms, Mas, Mpa, Mkn, Mke, Mik, Mpp, Mle, Mso, Mfz, Msp, Mfo, Mrd, Mrs, Mlt, Mfi, Mse)) (some (.int r)) A) args s 0 0 A) (F0 m 42 ls [.int t5, .int y5]) := by
          intro H locs ls hC hl
          refine lv_iadd hx hb dX6_ofRobin_42 ?_
          refine lv_istore (lv' := [(5, .int (y5 + t5)), (0, .ref oM.1), (1, .int y1), (2, .int y2), (3, .int y3), (4, .int y4), (6, .int y6)]) hx hb dX6_ofRobin_43 hl (by decide) rfl (fun ls hl => ?_)
          refine lv_iinc (v := (y6 + 1)) (lv' := [(6, .int (y6 + 1)), (5, .int (y5 + t5)), (0, .ref oM.1), (1, .int y1), (2, .int y2), (3, .int y3), (4, .int y4)]) hx hb dX6_ofRobin_45 hl (k := 6) rfl rfl (by decide) rfl (fun ls hl => ?_)
          refine lv_goto (tgt := 6) hx hb dX6_ofRobin_48 (by decide) ?_
          exact ih6 y1 y2 y3 y4 (y5 + t5) (y6 + 1) Ms Mas Mpa Mkn Mke Mik Mpp Mle Mso Mfz Msp Mfo Mrd Mrs Mlt Mfi Mse _ hf H locs ls hC (lv_sub hl [2, 3, 4, 5, 6, 1, 0] rfl) hK
        refine lv_icmp_ne (tgt := 41) hx hb dX6_ofRobin_22 (by decide) (fun cd4 => ?_) (fun cd4 => ?_)
        · replace ht5 := z_neg cd4 ht5
          refine lv_iconst (v := 0) hx hb dX6_ofRobin_41 (by decide) ?_
          have e1 := z_s1 ht5
          subst e1
          exact Jt5 H locs ls hC (lv_sub hl [0, 1, 2, 3, 4, 5, 6] rfl)
        · replace ht5 := z_pos cd4 ht5
          refine lv_aload_n hx hb dX6_ofRobin_25 rfl (lv_at hl 0 rfl) ?_
          refine lv_iload hx hb dX6_ofRobin_26 (lv_at hl 6 rfl) ?_
          refine lv_iload_n hx hb dX6_ofRobin_28 rfl (lv_at hl 3 rfl) ?_
          refine lv_iload hx hb dX6_ofRobin_29 (lv_at hl 4 rfl) ?_
          obtain ⟨r6, hr6, ht5⟩ := z_bind ht5
          refine z_callPi (z_runV (n := 3) (rest := [.int y5]) (As := [.int y6, .int y3, .int y4]) S0 hC (c_X6_isAnswer l G c3 oM (Ms, Mas, Mpa, Mkn, Mke, Mik, Mpp, Mle, Mso, Mfz, Msp, Mfo, Mrd, Mrs, Mlt, Mfi, Mse) y6 y3 y4 hr6) [0, 1, 2, 3, 4, 5, 6, 7] (by decide) rfl gX6_ofRobin_X6_isAnswer rfl rfl rfl (by decide +kernel) ⟨Nat.le_of_ble_eq_true rfl, Nat.le_of_ble_eq_true rfl⟩ (ci := 6) (q0 := 0) rfl rfl rfl hl.1 rfl (Nat.le_of_ble_eq_true rfl) dX6_ofRobin_31) hC [0, 1, 2, 3, 4, 5, 6, 7] rfl (fun H locs hC => ?_)
          refine lv_if_eq (tgt := 41) hx hb dX6_ofRobin_34 (by decide) (fun cd7 => ?_) (fun cd7 => ?_)
          · replace ht5 := z_pos cd7 ht5
            refine lv_iconst (v := 0) hx hb dX6_ofRobin_41 (by decide) ?_
            have e1 := z_s1 ht5
            subst e1
            exact Jt5 H locs ls hC (lv_sub hl [0, 1, 2, 3, 4, 5, 6] rfl)
          · replace ht5 := z_neg cd7 ht5
            refine lv_iconst (v := 1) hx hb dX6_ofRobin_37 (by decide) ?_
            refine lv_goto (tgt := 42) hx hb dX6_ofRobin_38 (by decide) ?_
            have e1 := z_s1 ht5
            subst e1
            exact Jt5 H locs ls hC (lv_sub hl [0, 1, 2, 3, 4, 5, 6] rfl)
  obtain ⟨t8, ht8, hf⟩ := z_bind hf
  refine L6 zF p1 p2 p3 p4 0 0 Ms Mas Mpa Mkn Mke Mik Mpp Mle Mso Mfz Msp Mfo Mrd Mrs Mlt Mfi Mse t8 ht8 H locs ls hC (lv_sub hl [2, 3, 4, 5, 6, 1, 0] rfl) (fun H locs ls hC hl => ?_)
  refine lv_iload hx hb dX6_ofRobin_51 (lv_at hl 5 rfl) ?_
  have e1 := z_s1 hf
  subst e1
  exact z_iret S0 hr hlk hC dX6_ofRobin_53

-- X6 isSounding
def f_X6_isSounding (Ms : (Nat → Int32)) (p1 : Int32) (p2 : Int32) (p3 : Int32) : Option (Int32) :=
  (f_X6_ofZone Ms p1 5).bind fun r1 => (f_X6_isAnswer Ms p1 p2 p3).bind fun r2 => if r2 = 0 then
    (f_X6_isAnswer Ms p1 p2 p3).bind fun r4 => (zbool r4).bind fun _ => some (r4)
  else
    if r1 = 0 then
      (f_X6_isAnswer Ms p1 p2 p3).bind fun r13 => (zbool r13).bind fun _ => some (r13)
    else
      (zald 150 Ms 0).bind fun x7 => (f_X6_ofRobin Ms r1 x7 p2 p3).bind fun r8 => (zald 150 Ms ((12 + r1) - 1)).bind fun x9 => (zrem x9 r8).bind fun x10 => (f_X6_ofRobin Ms r1 p1 p2 p3).bind fun r11 => if x10 = r11 then
        some (1)
      else
        some (0)

theorem kX6_isSounding_7 : Cond.fieldLink RX6 7 "ZoneSamplerModel" "s" "[I" ∈ wsX6_isSounding := by decide +kernel
theorem jX6_isSounding_X6 : ∀ w ∈ u_ws RX6 TX6 17, w ∈ wsX6_isSounding := by decide +kernel
set_option maxHeartbeats 4000000 in
set_option maxRecDepth 100000 in
theorem c_X6_isSounding (l : Launch) (G : va_G) (c3 : zT3) (oM : zR8) (BM : zMd) (p1 : Int32) (p2 : Int32) (p3 : Int32) {r : Int32} (hf : f_X6_isSounding BM.1 p1 p2 p3 = some (r)) : zM l yX6_isSounding wsX6_isSounding ⟨3, 0, 0, 71⟩ G c3 (zwM c3.1 c3.2.2 oM (BM.1, BM.2.1, BM.2.2.1, BM.2.2.2.1, BM.2.2.2.2.1, BM.2.2.2.2.2.1, BM.2.2.2.2.2.2.1, BM.2.2.2.2.2.2.2.1, BM.2.2.2.2.2.2.2.2.1, BM.2.2.2.2.2.2.2.2.2.1, BM.2.2.2.2.2.2.2.2.2.2.1, BM.2.2.2.2.2.2.2.2.2.2.2.1, BM.2.2.2.2.2.2.2.2.2.2.2.2.1, BM.2.2.2.2.2.2.2.2.2.2.2.2.2.1, BM.2.2.2.2.2.2.2.2.2.2.2.2.2.2.1, BM.2.2.2.2.2.2.2.2.2.2.2.2.2.2.2.1, BM.2.2.2.2.2.2.2.2.2.2.2.2.2.2.2.2)) [.ref oM.1, .int p1, .int p2, .int p3] (some (.int r)) (zwM c3.1 c3.2.2 oM (BM.1, BM.2.1, BM.2.2.1, BM.2.2.2.1, BM.2.2.2.2.1, BM.2.2.2.2.2.1, BM.2.2.2.2.2.2.1, BM.2.2.2.2.2.2.2.1, BM.2.2.2.2.2.2.2.2.1, BM.2.2.2.2.2.2.2.2.2.1, BM.2.2.2.2.2.2.2.2.2.2.1, BM.2.2.2.2.2.2.2.2.2.2.2.1, BM.2.2.2.2.2.2.2.2.2.2.2.2.1, BM.2.2.2.2.2.2.2.2.2.2.2.2.2.1, BM.2.2.2.2.2.2.2.2.2.2.2.2.2.2.1, BM.2.2.2.2.2.2.2.2.2.2.2.2.2.2.2.1, BM.2.2.2.2.2.2.2.2.2.2.2.2.2.2.2.2)) := by
  obtain ⟨Ms, Mas, Mpa, Mkn, Mke, Mik, Mpp, Mle, Mso, Mfz, Msp, Mfo, Mrd, Mrs, Mlt, Mfi, Mse⟩ := BM
  have hf : f_X6_isSounding Ms p1 p2 p3 = some (r) := hf
  show zM l yX6_isSounding wsX6_isSounding ⟨3, 0, 0, 71⟩ G c3 (zwM c3.1 c3.2.2 oM (Ms, Mas, Mpa, Mkn, Mke, Mik, Mpp, Mle, Mso, Mfz, Msp, Mfo, Mrd, Mrs, Mlt, Mfi, Mse)) [.ref oM.1, .int p1, .int p2, .int p3] (some (.int r)) (zwM c3.1 c3.2.2 oM (Ms, Mas, Mpa, Mkn, Mke, Mik, Mpp, Mle, Mso, Mfz, Msp, Mfo, Mrd, Mrs, Mlt, Mfi, Mse))
  refine zM.of (cc := cX6_isSounding) (maxL := 6) (ret := (some .boolean)) (by decide) rfl (Nat.le_of_ble_eq_true rfl) ?_
  intro p e s m args below meth c A ls S0 hr hlk hC hl
  have S0 : CallFix p m c cX6_isSounding 6 s args wsX6_isSounding RX6 := S0
  have hl : lv_has ls 6 [(0, .ref oM.1), (1, .int p1), (2, .int p2), (3, .int p3)] := hl
  have hx := S0.1
  have hb := S0.2.1
  obtain ⟨H, hH⟩ : ∃ y, y = s.heap := ⟨_, rfl⟩
  rw [← hH] at hC ⊢
  obtain ⟨locs, hlo⟩ : ∃ y : List Loc, y = [] := ⟨_, rfl⟩
  rw [← hlo] at hC ⊢
  clear hH hlo
  unfold f_X6_isSounding at hf
  refine lv_aload_n hx hb dX6_isSounding_0 rfl (lv_at hl 0 rfl) ?_
  refine lv_iload_n hx hb dX6_isSounding_1 rfl (lv_at hl 1 rfl) ?_
  refine lv_iconst (v := 5) hx hb dX6_isSounding_2 (by decide) ?_
  obtain ⟨r1, hr1, hf⟩ := z_bind hf
  refine z_callPi (z_runV (n := 2) (rest := []) (As := [.int p1, .int 5]) S0 hC (c_X6_ofZone l G c3 oM (Ms, Mas, Mpa, Mkn, Mke, Mik, Mpp, Mle, Mso, Mfz, Msp, Mfo, Mrd, Mrs, Mlt, Mfi, Mse) p1 5 hr1) [0, 1, 2, 3, 4, 5, 6, 7] (by decide) rfl gX6_isSounding_X6_ofZone rfl rfl rfl (by decide +kernel) ⟨Nat.le_of_ble_eq_true rfl, Nat.le_of_ble_eq_true rfl⟩ (ci := 6) (q0 := 0) rfl rfl rfl hl.1 rfl (Nat.le_of_ble_eq_true rfl) dX6_isSounding_3) hC [0, 1, 2, 3, 4, 5, 6, 7] rfl (fun H locs hC => ?_)
  refine lv_istore (lv' := [(4, .int r1), (0, .ref oM.1), (1, .int p1), (2, .int p2), (3, .int p3)]) hx hb dX6_isSounding_6 hl (by decide) rfl (fun ls hl => ?_)
  refine lv_aload_n hx hb dX6_isSounding_8 rfl (lv_at hl 1 rfl) ?_
  refine lv_iload_n hx hb dX6_isSounding_9 rfl (lv_at hl 2 rfl) ?_
  refine lv_iload_n hx hb dX6_isSounding_10 rfl (lv_at hl 3 rfl) ?_
  refine lv_iload_n hx hb dX6_isSounding_11 rfl (lv_at hl 4 rfl) ?_
  obtain ⟨r2, hr2, hf⟩ := z_bind hf
  refine z_callPi (z_runV (n := 3) (rest := []) (As := [.int p1, .int p2, .int p3]) S0 hC (c_X6_isAnswer l G c3 oM (Ms, Mas, Mpa, Mkn, Mke, Mik, Mpp, Mle, Mso, Mfz, Msp, Mfo, Mrd, Mrs, Mlt, Mfi, Mse) p1 p2 p3 hr2) [0, 1, 2, 3, 4, 5, 6, 7] (by decide) rfl gX6_isSounding_X6_isAnswer rfl rfl rfl (by decide +kernel) ⟨Nat.le_of_ble_eq_true rfl, Nat.le_of_ble_eq_true rfl⟩ (ci := 6) (q0 := 0) rfl rfl rfl hl.1 rfl (Nat.le_of_ble_eq_true rfl) dX6_isSounding_12) hC [0, 1, 2, 3, 4, 5, 6, 7] rfl (fun H locs hC => ?_)
  refine lv_if_eq (tgt := 23) hx hb dX6_isSounding_15 (by decide) (fun cd3 => ?_) (fun cd3 => ?_)
  · replace hf := z_pos cd3 hf
    refine lv_aload_n hx hb dX6_isSounding_23 rfl (lv_at hl 1 rfl) ?_
    refine lv_iload_n hx hb dX6_isSounding_24 rfl (lv_at hl 2 rfl) ?_
    refine lv_iload_n hx hb dX6_isSounding_25 rfl (lv_at hl 3 rfl) ?_
    refine lv_iload_n hx hb dX6_isSounding_26 rfl (lv_at hl 4 rfl) ?_
    obtain ⟨r4, hr4, hf⟩ := z_bind hf
    refine z_callPi (z_runV (n := 3) (rest := []) (As := [.int p1, .int p2, .int p3]) S0 hC (c_X6_isAnswer l G c3 oM (Ms, Mas, Mpa, Mkn, Mke, Mik, Mpp, Mle, Mso, Mfz, Msp, Mfo, Mrd, Mrs, Mlt, Mfi, Mse) p1 p2 p3 hr4) [0, 1, 2, 3, 4, 5, 6, 7] (by decide) rfl gX6_isSounding_X6_isAnswer rfl rfl rfl (by decide +kernel) ⟨Nat.le_of_ble_eq_true rfl, Nat.le_of_ble_eq_true rfl⟩ (ci := 6) (q0 := 0) rfl rfl rfl hl.1 rfl (Nat.le_of_ble_eq_true rfl) dX6_isSounding_27) hC [0, 1, 2, 3, 4, 5, 6, 7] rfl (fun H locs hC => ?_)
    obtain ⟨w5, hw5, hf⟩ := z_bind hf
    have e1 := z_s1 hf
    subst e1
    exact z_zret S0 hr hlk (zbool_spec hw5) hC dX6_isSounding_30
  · replace hf := z_neg cd3 hf
    refine lv_iload hx hb dX6_isSounding_18 (lv_at hl 0 rfl) ?_
    refine lv_if_ne (tgt := 31) hx hb dX6_isSounding_20 (by decide) (fun cd6 => ?_) (fun cd6 => ?_)
    · replace hf := z_neg cd6 hf
      refine lv_aload_n hx hb dX6_isSounding_31 rfl (lv_at hl 1 rfl) ?_
      refine lv_iload hx hb dX6_isSounding_32 (lv_at hl 0 rfl) ?_
      refine lv_aload_n hx hb dX6_isSounding_34 rfl (lv_at hl 1 rfl) ?_
      refine z_get S0 hC (ci := 6) (C := RX6) (T := TX6) (N := 17) (v := .ref oM.2.1) jX6_isSounding_X6 0 rfl rfl 0 (by decide) kX6_isSounding_7 rfl rfl dX6_isSounding_35 ?_
      refine lv_iconst (v := 0) hx hb dX6_isSounding_38 (by decide) ?_
      obtain ⟨x7, hx7, hf⟩ := z_bind hf
      refine z_iald S0 hC 1 rfl hx7 dX6_isSounding_39 ?_
      refine lv_iload_n hx hb dX6_isSounding_40 rfl (lv_at hl 3 rfl) ?_
      refine lv_iload_n hx hb dX6_isSounding_41 rfl (lv_at hl 4 rfl) ?_
      obtain ⟨r8, hr8, hf⟩ := z_bind hf
      refine z_callPi (z_runV (n := 4) (rest := []) (As := [.int r1, .int x7, .int p2, .int p3]) S0 hC (c_X6_ofRobin l G c3 oM (Ms, Mas, Mpa, Mkn, Mke, Mik, Mpp, Mle, Mso, Mfz, Msp, Mfo, Mrd, Mrs, Mlt, Mfi, Mse) r1 x7 p2 p3 hr8) [0, 1, 2, 3, 4, 5, 6, 7] (by decide) rfl gX6_isSounding_X6_ofRobin rfl rfl rfl (by decide +kernel) ⟨Nat.le_of_ble_eq_true rfl, Nat.le_of_ble_eq_true rfl⟩ (ci := 6) (q0 := 0) rfl rfl rfl hl.1 rfl (Nat.le_of_ble_eq_true rfl) dX6_isSounding_42) hC [0, 1, 2, 3, 4, 5, 6, 7] rfl (fun H locs hC => ?_)
      refine lv_istore (lv' := [(5, .int r8), (4, .int r1), (0, .ref oM.1), (1, .int p1), (2, .int p2), (3, .int p3)]) hx hb dX6_isSounding_45 hl (by decide) rfl (fun ls hl => ?_)
      refine lv_aload_n hx hb dX6_isSounding_47 rfl (lv_at hl 2 rfl) ?_
      refine z_get S0 hC (ci := 6) (C := RX6) (T := TX6) (N := 17) (v := .ref oM.2.1) jX6_isSounding_X6 0 rfl rfl 0 (by decide) kX6_isSounding_7 rfl rfl dX6_isSounding_48 ?_
      refine lv_bipush (v := 12) hx hb dX6_isSounding_51 (by decide) ?_
      refine lv_iload hx hb dX6_isSounding_53 (lv_at hl 1 rfl) ?_
      refine lv_iadd hx hb dX6_isSounding_55 ?_
      refine lv_iconst (v := 1) hx hb dX6_isSounding_56 (by decide) ?_
      refine lv_isub hx hb dX6_isSounding_57 ?_
      obtain ⟨x9, hx9, hf⟩ := z_bind hf
      refine z_iald S0 hC 1 rfl hx9 dX6_isSounding_58 ?_
      refine lv_iload hx hb dX6_isSounding_59 (lv_at hl 0 rfl) ?_
      obtain ⟨x10, hx10, hf⟩ := z_bind hf
      refine z_irem S0 hx10 dX6_isSounding_61 ?_
      refine lv_aload_n hx hb dX6_isSounding_62 rfl (lv_at hl 2 rfl) ?_
      refine lv_iload hx hb dX6_isSounding_63 (lv_at hl 1 rfl) ?_
      refine lv_iload_n hx hb dX6_isSounding_65 rfl (lv_at hl 3 rfl) ?_
      refine lv_iload_n hx hb dX6_isSounding_66 rfl (lv_at hl 4 rfl) ?_
      refine lv_iload_n hx hb dX6_isSounding_67 rfl (lv_at hl 5 rfl) ?_
      obtain ⟨r11, hr11, hf⟩ := z_bind hf
      refine z_callPi (z_runV (n := 4) (rest := [.int x10]) (As := [.int r1, .int p1, .int p2, .int p3]) S0 hC (c_X6_ofRobin l G c3 oM (Ms, Mas, Mpa, Mkn, Mke, Mik, Mpp, Mle, Mso, Mfz, Msp, Mfo, Mrd, Mrs, Mlt, Mfi, Mse) r1 p1 p2 p3 hr11) [0, 1, 2, 3, 4, 5, 6, 7] (by decide) rfl gX6_isSounding_X6_ofRobin rfl rfl rfl (by decide +kernel) ⟨Nat.le_of_ble_eq_true rfl, Nat.le_of_ble_eq_true rfl⟩ (ci := 6) (q0 := 0) rfl rfl rfl hl.1 rfl (Nat.le_of_ble_eq_true rfl) dX6_isSounding_68) hC [0, 1, 2, 3, 4, 5, 6, 7] rfl (fun H locs hC => ?_)
      refine lv_icmp_ne (tgt := 78) hx hb dX6_isSounding_71 (by decide) (fun cd12 => ?_) (fun cd12 => ?_)
      · replace hf := z_neg cd12 hf
        refine lv_iconst (v := 0) hx hb dX6_isSounding_78 (by decide) ?_
        have e1 := z_s1 hf
        subst e1
        exact z_zret S0 hr hlk rfl hC dX6_isSounding_79
      · replace hf := z_pos cd12 hf
        refine lv_iconst (v := 1) hx hb dX6_isSounding_74 (by decide) ?_
        refine lv_goto (tgt := 79) hx hb dX6_isSounding_75 (by decide) ?_
        have e1 := z_s1 hf
        subst e1
        exact z_zret S0 hr hlk rfl hC dX6_isSounding_79
    · replace hf := z_pos cd6 hf
      refine lv_aload_n hx hb dX6_isSounding_23 rfl (lv_at hl 1 rfl) ?_
      refine lv_iload_n hx hb dX6_isSounding_24 rfl (lv_at hl 2 rfl) ?_
      refine lv_iload_n hx hb dX6_isSounding_25 rfl (lv_at hl 3 rfl) ?_
      refine lv_iload_n hx hb dX6_isSounding_26 rfl (lv_at hl 4 rfl) ?_
      obtain ⟨r13, hr13, hf⟩ := z_bind hf
      refine z_callPi (z_runV (n := 3) (rest := []) (As := [.int p1, .int p2, .int p3]) S0 hC (c_X6_isAnswer l G c3 oM (Ms, Mas, Mpa, Mkn, Mke, Mik, Mpp, Mle, Mso, Mfz, Msp, Mfo, Mrd, Mrs, Mlt, Mfi, Mse) p1 p2 p3 hr13) [0, 1, 2, 3, 4, 5, 6, 7] (by decide) rfl gX6_isSounding_X6_isAnswer rfl rfl rfl (by decide +kernel) ⟨Nat.le_of_ble_eq_true rfl, Nat.le_of_ble_eq_true rfl⟩ (ci := 6) (q0 := 0) rfl rfl rfl hl.1 rfl (Nat.le_of_ble_eq_true rfl) dX6_isSounding_27) hC [0, 1, 2, 3, 4, 5, 6, 7] rfl (fun H locs hC => ?_)
      obtain ⟨w14, hw14, hf⟩ := z_bind hf
      have e1 := z_s1 hf
      subst e1
      exact z_zret S0 hr hlk (zbool_spec hw14) hC dX6_isSounding_30

-- X6 dropsVoice
def f_X6_dropsVoice_18  : Nat → Int32 → (Nat → Int32) → Option (Int32 × (Nat → Int32))
  | 0, _, _ => none
  | fu + 1, y2, Ms =>
    if 150 ≤ y2 then
      some (y2, Ms)
    else
      Option.bind (α := Int32) (
        if 150 ≤ (y2 + 8) then
          some (0)
        else
          (zald 150 Ms (y2 + 8)).bind fun x8 => some (x8)
      ) fun t6 =>
        (zast 150 Ms y2 t6).bind fun g7 => f_X6_dropsVoice_18 fu (y2 + 1) g7

theorem f_X6_dropsVoice_18_s (y2 : Int32) (Ms : (Nat → Int32)) (fu : Nat) : f_X6_dropsVoice_18 (fu + 1) y2 Ms = (
    if 150 ≤ y2 then
      some (y2, Ms)
    else
      Option.bind (α := Int32) (
        if 150 ≤ (y2 + 8) then
          some (0)
        else
          (zald 150 Ms (y2 + 8)).bind fun x8 => some (x8)
      ) fun t6 =>
        (zast 150 Ms y2 t6).bind fun g7 => f_X6_dropsVoice_18 fu (y2 + 1) g7
    ) := rfl

def f_X6_dropsVoice (Ms : (Nat → Int32)) (p1 : Int32) : Option ((Nat → Int32)) :=
  (zald 150 Ms 1).bind fun x1 => (zast 150 Ms 1 (x1 - 1)).bind fun g2 => (f_X6_dropsVoice_18 zF (86 + (8 * p1)) g2).bind fun t9 =>
    some (t9.2)

theorem kX6_dropsVoice_7 : Cond.fieldLink RX6 7 "ZoneSamplerModel" "s" "[I" ∈ wsX6_dropsVoice := by decide +kernel
theorem jX6_dropsVoice_X6 : ∀ w ∈ u_ws RX6 TX6 17, w ∈ wsX6_dropsVoice := by decide +kernel
set_option maxHeartbeats 4000000 in
set_option maxRecDepth 100000 in
theorem c_X6_dropsVoice (l : Launch) (G : va_G) (c3 : zT3) (oM : zR8) (BM : zMd) (p1 : Int32) {Ms' : (Nat → Int32)} (hf : f_X6_dropsVoice BM.1 p1 = some (Ms')) : zM l yX6_dropsVoice wsX6_dropsVoice ⟨0, 0, 0, 0⟩ G c3 (zwM c3.1 c3.2.2 oM (BM.1, BM.2.1, BM.2.2.1, BM.2.2.2.1, BM.2.2.2.2.1, BM.2.2.2.2.2.1, BM.2.2.2.2.2.2.1, BM.2.2.2.2.2.2.2.1, BM.2.2.2.2.2.2.2.2.1, BM.2.2.2.2.2.2.2.2.2.1, BM.2.2.2.2.2.2.2.2.2.2.1, BM.2.2.2.2.2.2.2.2.2.2.2.1, BM.2.2.2.2.2.2.2.2.2.2.2.2.1, BM.2.2.2.2.2.2.2.2.2.2.2.2.2.1, BM.2.2.2.2.2.2.2.2.2.2.2.2.2.2.1, BM.2.2.2.2.2.2.2.2.2.2.2.2.2.2.2.1, BM.2.2.2.2.2.2.2.2.2.2.2.2.2.2.2.2)) [.ref oM.1, .int p1] none (zwM c3.1 c3.2.2 oM (Ms', BM.2.1, BM.2.2.1, BM.2.2.2.1, BM.2.2.2.2.1, BM.2.2.2.2.2.1, BM.2.2.2.2.2.2.1, BM.2.2.2.2.2.2.2.1, BM.2.2.2.2.2.2.2.2.1, BM.2.2.2.2.2.2.2.2.2.1, BM.2.2.2.2.2.2.2.2.2.2.1, BM.2.2.2.2.2.2.2.2.2.2.2.1, BM.2.2.2.2.2.2.2.2.2.2.2.2.1, BM.2.2.2.2.2.2.2.2.2.2.2.2.2.1, BM.2.2.2.2.2.2.2.2.2.2.2.2.2.2.1, BM.2.2.2.2.2.2.2.2.2.2.2.2.2.2.2.1, BM.2.2.2.2.2.2.2.2.2.2.2.2.2.2.2.2)) := by
  obtain ⟨Ms, Mas, Mpa, Mkn, Mke, Mik, Mpp, Mle, Mso, Mfz, Msp, Mfo, Mrd, Mrs, Mlt, Mfi, Mse⟩ := BM
  have hf : f_X6_dropsVoice Ms p1 = some (Ms') := hf
  show zM l yX6_dropsVoice wsX6_dropsVoice ⟨0, 0, 0, 0⟩ G c3 (zwM c3.1 c3.2.2 oM (Ms, Mas, Mpa, Mkn, Mke, Mik, Mpp, Mle, Mso, Mfz, Msp, Mfo, Mrd, Mrs, Mlt, Mfi, Mse)) [.ref oM.1, .int p1] none (zwM c3.1 c3.2.2 oM (Ms', Mas, Mpa, Mkn, Mke, Mik, Mpp, Mle, Mso, Mfz, Msp, Mfo, Mrd, Mrs, Mlt, Mfi, Mse))
  refine zM.of (cc := cX6_dropsVoice) (maxL := 3) (ret := none) (by decide) rfl (Nat.le_of_ble_eq_true rfl) ?_
  intro p e s m args below meth c A ls S0 hr hlk hC hl
  have S0 : CallFix p m c cX6_dropsVoice 3 s args wsX6_dropsVoice RX6 := S0
  have hl : lv_has ls 3 [(0, .ref oM.1), (1, .int p1)] := hl
  have hx := S0.1
  have hb := S0.2.1
  obtain ⟨H, hH⟩ : ∃ y, y = s.heap := ⟨_, rfl⟩
  rw [← hH] at hC ⊢
  obtain ⟨locs, hlo⟩ : ∃ y : List Loc, y = [] := ⟨_, rfl⟩
  rw [← hlo] at hC ⊢
  clear hH hlo
  unfold f_X6_dropsVoice at hf
  refine lv_aload_n hx hb dX6_dropsVoice_0 rfl (lv_at hl 0 rfl) ?_
  refine z_get S0 hC (ci := 6) (C := RX6) (T := TX6) (N := 17) (v := .ref oM.2.1) jX6_dropsVoice_X6 0 rfl rfl 0 (by decide) kX6_dropsVoice_7 rfl rfl dX6_dropsVoice_1 ?_
  refine lv_iconst (v := 1) hx hb dX6_dropsVoice_4 (by decide) ?_
  refine lv_dup2_11 hx hb dX6_dropsVoice_5 rfl rfl ?_
  obtain ⟨x1, hx1, hf⟩ := z_bind hf
  refine z_iald S0 hC 1 rfl hx1 dX6_dropsVoice_6 ?_
  refine lv_iconst (v := 1) hx hb dX6_dropsVoice_7 (by decide) ?_
  refine lv_isub hx hb dX6_dropsVoice_8 ?_
  obtain ⟨g2, hg2, hf⟩ := z_bind hf
  refine z_iast S0 hC 1 rfl hg2 dX6_dropsVoice_9 (ws2 := (zwM c3.1 c3.2.2 oM (g2, Mas, Mpa, Mkn, Mke, Mik, Mpp, Mle, Mso, Mfz, Msp, Mfo, Mrd, Mrs, Mlt, Mfi, Mse))) rfl (fun H locs hC => ?_)
  refine lv_bipush (v := 86) hx hb dX6_dropsVoice_10 (by decide) ?_
  refine lv_bipush (v := 8) hx hb dX6_dropsVoice_12 (by decide) ?_
  refine lv_iload_n hx hb dX6_dropsVoice_14 rfl (lv_at hl 1 rfl) ?_
  refine lv_imul hx hb dX6_dropsVoice_15 ?_
  refine lv_iadd hx hb dX6_dropsVoice_16 ?_
  refine lv_istore_n (lv' := [(2, .int (86 + (8 * p1))), (0, .ref oM.1), (1, .int p1)]) hx hb dX6_dropsVoice_17 rfl hl (by decide) rfl (fun ls hl => ?_)
  have L18 : ∀ (fu : Nat) (y1 : Int32) (y2 : Int32) (Ms : (Nat → Int32)) (Mas : (Nat → Int32)) (Mpa : (Nat → Int32)) (Mkn : Int32) (Mke : (Nat → Int32)) (Mik : Int32) (Mpp : (Nat → Int32)) (Mle : Int32) (Mso : (Nat → Int32)) (Mfz : Int32) (Msp : Int32) (Mfo : Int32) (Mrd : (Nat → Int32)) (Mrs : Int32) (Mlt : Int32) (Mfi : Int32) (Mse : Int32) (tt : Int32 × (Nat → Int32)), f_X6_dropsVoice_18 fu y2 Ms = some tt → ∀ (H : Heap) (locs : List Loc) (ls : Array Slot), zC G c3 A s (zwM c3.1 c3.2.2 oM (Ms, Mas, Mpa, Mkn, Mke, Mik, Mpp, Mle, Mso, Mfz, Msp, Mfo, Mrd, Mrs, Mlt, Mfi, Mse)) H locs → lv_has ls 3 [(0, .ref oM.1), (1, .int y1), (2, .int y2)] → (∀ (H : Heap) (locs : List Loc) (ls : Array Slot), zC G c3 A s (zwM c3.1 c3.2.2 oM (tt.2, Mas, Mpa, Mkn, Mke, Mik, Mpp, Mle, Mso, Mfz, Msp, Mfo, Mrd, Mrs, Mlt, Mfi, Mse)) H locs → lv_has ls 3 [(0, .ref oM.1), (1, .int y1), (2, .int tt.1)] → W p l e ⟨0, 0, 0, 0⟩ s m args below meth c H locs 0 0 (MQ below (zPost G (zwM c3.1 c3.2.2 oM (Ms', Mas, Mpa, Mkn, Mke, Mik, Mpp, Mle, Mso, Mfz, Msp, Mfo, Mrd, Mrs, Mlt, Mfi, Mse)) none A) args s 0 0 A) (F0 m 60 ls [])) → W p l e ⟨0, 0, 0, 0⟩ s m args below meth c H locs 0 0 (MQ below (zPost G (zwM c3.1 c3.2.2 oM (Ms', Mas, Mpa, Mkn, Mke, Mik, Mpp, Mle, Mso, Mfz, Msp, Mfo, Mrd, Mrs, Mlt, Mfi, Mse)) none A) args s 0 0 A) (F0 m 18 ls []) := by
    intro fu
    induction fu with
    | zero =>
      intro y1 y2 Ms Mas Mpa Mkn Mke Mik Mpp Mle Mso Mfz Msp Mfo Mrd Mrs Mlt Mfi Mse tt hf H locs ls hC hl hK
      exact (z_none hf).elim
    | succ fu ih18 =>
      intro y1 y2 Ms Mas Mpa Mkn Mke Mik Mpp Mle Mso Mfz Msp Mfo Mrd Mrs Mlt Mfi Mse tt hf H locs ls hC hl hK
      replace hf := (f_X6_dropsVoice_18_s y2 Ms fu).symm.trans hf
      refine lv_iload_n hx hb dX6_dropsVoice_18 rfl (lv_at hl 2 rfl) ?_
      refine lv_sipush (v := 150) hx hb dX6_dropsVoice_19 (by decide) ?_
      refine lv_icmp_ge (tgt := 60) hx hb dX6_dropsVoice_22 (by decide) (fun cd4 => ?_) (fun cd4 => ?_)
      · replace hf := z_pos cd4 hf
        have e1 := z_s1 hf
        subst e1
        exact hK H locs ls hC (lv_sub hl [0, 1, 2] rfl)
      · replace hf := z_neg cd4 hf
        refine lv_aload_n hx hb dX6_dropsVoice_25 rfl (lv_at hl 0 rfl) ?_
        refine z_get S0 hC (ci := 6) (C := RX6) (T := TX6) (N := 17) (v := .ref oM.2.1) jX6_dropsVoice_X6 0 rfl rfl 0 (by decide) kX6_dropsVoice_7 rfl rfl dX6_dropsVoice_26 ?_
        refine lv_iload_n hx hb dX6_dropsVoice_29 rfl (lv_at hl 2 rfl) ?_
        refine lv_iload_n hx hb dX6_dropsVoice_30 rfl (lv_at hl 2 rfl) ?_
        refine lv_bipush (v := 8) hx hb dX6_dropsVoice_31 (by decide) ?_
        refine lv_iadd hx hb dX6_dropsVoice_33 ?_
        refine lv_sipush (v := 150) hx hb dX6_dropsVoice_34 (by decide) ?_
        obtain ⟨t6, ht6, hf⟩ := z_bind hf
        have Jt6 : ∀ (H : Heap) (locs : List Loc) (ls : Array Slot), zC G c3 A s (zwM c3.1 c3.2.2 oM (Ms, Mas, Mpa, Mkn, Mke, Mik, Mpp, Mle, Mso, Mfz, Msp, Mfo, Mrd, Mrs, Mlt, Mfi, Mse)) H locs → lv_has ls 3 [(0, .ref oM.1), (1, .int y1), (2, .int y2)] → W p l e ⟨0, 0, 0, 0⟩ s m args below meth c H locs 0 0 (MQ below (zPost G (zwM c3.1 c3.2.2 oM (Ms', Mas, Mpa, Mkn, Mke, Mik, Mpp, Mle, Mso, Mfz, Msp, Mfo, Mrd, Mrs, Mlt, Mfi, Mse)) none A) args s 0 0 A) (F0 m 53 ls [.int t6, .int y2, .ref oM.2.1]) := by
          intro H locs ls hC hl
          obtain ⟨g7, hg7, hf⟩ := z_bind hf
          refine z_iast S0 hC 1 rfl hg7 dX6_dropsVoice_53 (ws2 := (zwM c3.1 c3.2.2 oM (g7, Mas, Mpa, Mkn, Mke, Mik, Mpp, Mle, Mso, Mfz, Msp, Mfo, Mrd, Mrs, Mlt, Mfi, Mse))) rfl (fun H locs hC => ?_)
          refine lv_iinc (v := (y2 + 1)) (lv' := [(2, .int (y2 + 1)), (0, .ref oM.1), (1, .int y1)]) hx hb dX6_dropsVoice_54 hl (k := 2) rfl rfl (by decide) rfl (fun ls hl => ?_)
          refine lv_goto (tgt := 18) hx hb dX6_dropsVoice_57 (by decide) ?_
          exact ih18 y1 (y2 + 1) g7 Mas Mpa Mkn Mke Mik Mpp Mle Mso Mfz Msp Mfo Mrd Mrs Mlt Mfi Mse _ hf H locs ls hC (lv_sub hl [1, 2, 0] rfl) hK
        refine lv_icmp_ge (tgt := 52) hx hb dX6_dropsVoice_37 (by decide) (fun cd5 => ?_) (fun cd5 => ?_)
        · replace ht6 := z_pos cd5 ht6
          refine lv_iconst (v := 0) hx hb dX6_dropsVoice_52 (by decide) ?_
          have e1 := z_s1 ht6
          subst e1
          exact Jt6 H locs ls hC (lv_sub hl [0, 1, 2] rfl)
        · replace ht6 := z_neg cd5 ht6
          refine lv_aload_n hx hb dX6_dropsVoice_40 rfl (lv_at hl 0 rfl) ?_
          refine z_get S0 hC (ci := 6) (C := RX6) (T := TX6) (N := 17) (v := .ref oM.2.1) jX6_dropsVoice_X6 0 rfl rfl 0 (by decide) kX6_dropsVoice_7 rfl rfl dX6_dropsVoice_41 ?_
          refine lv_iload_n hx hb dX6_dropsVoice_44 rfl (lv_at hl 2 rfl) ?_
          refine lv_bipush (v := 8) hx hb dX6_dropsVoice_45 (by decide) ?_
          refine lv_iadd hx hb dX6_dropsVoice_47 ?_
          obtain ⟨x8, hx8, ht6⟩ := z_bind ht6
          refine z_iald S0 hC 1 rfl hx8 dX6_dropsVoice_48 ?_
          refine lv_goto (tgt := 53) hx hb dX6_dropsVoice_49 (by decide) ?_
          have e1 := z_s1 ht6
          subst e1
          exact Jt6 H locs ls hC (lv_sub hl [0, 1, 2] rfl)
  obtain ⟨t9, ht9, hf⟩ := z_bind hf
  refine L18 zF p1 (86 + (8 * p1)) g2 Mas Mpa Mkn Mke Mik Mpp Mle Mso Mfz Msp Mfo Mrd Mrs Mlt Mfi Mse t9 ht9 H locs ls hC (lv_sub hl [1, 2, 0] rfl) (fun H locs ls hC hl => ?_)
  have e1 := z_s1 hf
  subst e1
  exact z_vret S0 hr hlk hC dX6_dropsVoice_60

-- X6 soon
def f_X6_soon (Ms : (Nat → Int32)) (p1 : Int32) : Option (Int32) :=
  (zald 150 Ms 10).bind fun x1 => if x1 = 0 then
    (f_X6_of Ms p1 4).bind fun r7 => some (r7)
  else
    (zald 150 Ms 10).bind fun x3 => if x3 = 1 then
      (f_X6_of Ms p1 3).bind fun r6 => some ((-r6))
    else
      (f_X6_of Ms p1 5).bind fun r5 => some (r5)

theorem kX6_soon_7 : Cond.fieldLink RX6 7 "ZoneSamplerModel" "s" "[I" ∈ wsX6_soon := by decide +kernel
theorem jX6_soon_X6 : ∀ w ∈ u_ws RX6 TX6 17, w ∈ wsX6_soon := by decide +kernel
set_option maxHeartbeats 4000000 in
set_option maxRecDepth 100000 in
theorem c_X6_soon (l : Launch) (G : va_G) (c3 : zT3) (oM : zR8) (BM : zMd) (p1 : Int32) {r : Int32} (hf : f_X6_soon BM.1 p1 = some (r)) : zM l yX6_soon wsX6_soon ⟨1, 0, 0, 22⟩ G c3 (zwM c3.1 c3.2.2 oM (BM.1, BM.2.1, BM.2.2.1, BM.2.2.2.1, BM.2.2.2.2.1, BM.2.2.2.2.2.1, BM.2.2.2.2.2.2.1, BM.2.2.2.2.2.2.2.1, BM.2.2.2.2.2.2.2.2.1, BM.2.2.2.2.2.2.2.2.2.1, BM.2.2.2.2.2.2.2.2.2.2.1, BM.2.2.2.2.2.2.2.2.2.2.2.1, BM.2.2.2.2.2.2.2.2.2.2.2.2.1, BM.2.2.2.2.2.2.2.2.2.2.2.2.2.1, BM.2.2.2.2.2.2.2.2.2.2.2.2.2.2.1, BM.2.2.2.2.2.2.2.2.2.2.2.2.2.2.2.1, BM.2.2.2.2.2.2.2.2.2.2.2.2.2.2.2.2)) [.ref oM.1, .int p1] (some (.int r)) (zwM c3.1 c3.2.2 oM (BM.1, BM.2.1, BM.2.2.1, BM.2.2.2.1, BM.2.2.2.2.1, BM.2.2.2.2.2.1, BM.2.2.2.2.2.2.1, BM.2.2.2.2.2.2.2.1, BM.2.2.2.2.2.2.2.2.1, BM.2.2.2.2.2.2.2.2.2.1, BM.2.2.2.2.2.2.2.2.2.2.1, BM.2.2.2.2.2.2.2.2.2.2.2.1, BM.2.2.2.2.2.2.2.2.2.2.2.2.1, BM.2.2.2.2.2.2.2.2.2.2.2.2.2.1, BM.2.2.2.2.2.2.2.2.2.2.2.2.2.2.1, BM.2.2.2.2.2.2.2.2.2.2.2.2.2.2.2.1, BM.2.2.2.2.2.2.2.2.2.2.2.2.2.2.2.2)) := by
  obtain ⟨Ms, Mas, Mpa, Mkn, Mke, Mik, Mpp, Mle, Mso, Mfz, Msp, Mfo, Mrd, Mrs, Mlt, Mfi, Mse⟩ := BM
  have hf : f_X6_soon Ms p1 = some (r) := hf
  show zM l yX6_soon wsX6_soon ⟨1, 0, 0, 22⟩ G c3 (zwM c3.1 c3.2.2 oM (Ms, Mas, Mpa, Mkn, Mke, Mik, Mpp, Mle, Mso, Mfz, Msp, Mfo, Mrd, Mrs, Mlt, Mfi, Mse)) [.ref oM.1, .int p1] (some (.int r)) (zwM c3.1 c3.2.2 oM (Ms, Mas, Mpa, Mkn, Mke, Mik, Mpp, Mle, Mso, Mfz, Msp, Mfo, Mrd, Mrs, Mlt, Mfi, Mse))
  refine zM.of (cc := cX6_soon) (maxL := 2) (ret := (some .int)) (by decide) rfl (Nat.le_of_ble_eq_true rfl) ?_
  intro p e s m args below meth c A ls S0 hr hlk hC hl
  have S0 : CallFix p m c cX6_soon 2 s args wsX6_soon RX6 := S0
  have hl : lv_has ls 2 [(0, .ref oM.1), (1, .int p1)] := hl
  have hx := S0.1
  have hb := S0.2.1
  obtain ⟨H, hH⟩ : ∃ y, y = s.heap := ⟨_, rfl⟩
  rw [← hH] at hC ⊢
  obtain ⟨locs, hlo⟩ : ∃ y : List Loc, y = [] := ⟨_, rfl⟩
  rw [← hlo] at hC ⊢
  clear hH hlo
  unfold f_X6_soon at hf
  refine lv_aload_n hx hb dX6_soon_0 rfl (lv_at hl 0 rfl) ?_
  refine z_get S0 hC (ci := 6) (C := RX6) (T := TX6) (N := 17) (v := .ref oM.2.1) jX6_soon_X6 0 rfl rfl 0 (by decide) kX6_soon_7 rfl rfl dX6_soon_1 ?_
  refine lv_bipush (v := 10) hx hb dX6_soon_4 (by decide) ?_
  obtain ⟨x1, hx1, hf⟩ := z_bind hf
  refine z_iald S0 hC 1 rfl hx1 dX6_soon_6 ?_
  refine lv_if_ne (tgt := 19) hx hb dX6_soon_7 (by decide) (fun cd2 => ?_) (fun cd2 => ?_)
  · replace hf := z_neg cd2 hf
    refine lv_aload_n hx hb dX6_soon_19 rfl (lv_at hl 0 rfl) ?_
    refine z_get S0 hC (ci := 6) (C := RX6) (T := TX6) (N := 17) (v := .ref oM.2.1) jX6_soon_X6 0 rfl rfl 0 (by decide) kX6_soon_7 rfl rfl dX6_soon_20 ?_
    refine lv_bipush (v := 10) hx hb dX6_soon_23 (by decide) ?_
    obtain ⟨x3, hx3, hf⟩ := z_bind hf
    refine z_iald S0 hC 1 rfl hx3 dX6_soon_25 ?_
    refine lv_iconst (v := 1) hx hb dX6_soon_26 (by decide) ?_
    refine lv_icmp_ne (tgt := 40) hx hb dX6_soon_27 (by decide) (fun cd4 => ?_) (fun cd4 => ?_)
    · replace hf := z_neg cd4 hf
      refine lv_aload_n hx hb dX6_soon_40 rfl (lv_at hl 0 rfl) ?_
      refine lv_iload_n hx hb dX6_soon_41 rfl (lv_at hl 1 rfl) ?_
      refine lv_iconst (v := 5) hx hb dX6_soon_42 (by decide) ?_
      obtain ⟨r5, hr5, hf⟩ := z_bind hf
      refine z_callPi (z_runV (n := 2) (rest := []) (As := [.int p1, .int 5]) S0 hC (c_X6_of l G c3 oM (Ms, Mas, Mpa, Mkn, Mke, Mik, Mpp, Mle, Mso, Mfz, Msp, Mfo, Mrd, Mrs, Mlt, Mfi, Mse) p1 5 hr5) [0, 1, 2, 3, 4, 5, 6, 7] (by decide) rfl gX6_soon_X6_of rfl rfl rfl (by decide +kernel) ⟨Nat.le_of_ble_eq_true rfl, Nat.le_of_ble_eq_true rfl⟩ (ci := 6) (q0 := 0) rfl rfl rfl hl.1 rfl (Nat.le_of_ble_eq_true rfl) dX6_soon_43) hC [0, 1, 2, 3, 4, 5, 6, 7] rfl (fun H locs hC => ?_)
      have e1 := z_s1 hf
      subst e1
      exact z_iret S0 hr hlk hC dX6_soon_46
    · replace hf := z_pos cd4 hf
      refine lv_aload_n hx hb dX6_soon_30 rfl (lv_at hl 0 rfl) ?_
      refine lv_iload_n hx hb dX6_soon_31 rfl (lv_at hl 1 rfl) ?_
      refine lv_iconst (v := 3) hx hb dX6_soon_32 (by decide) ?_
      obtain ⟨r6, hr6, hf⟩ := z_bind hf
      refine z_callPi (z_runV (n := 2) (rest := []) (As := [.int p1, .int 3]) S0 hC (c_X6_of l G c3 oM (Ms, Mas, Mpa, Mkn, Mke, Mik, Mpp, Mle, Mso, Mfz, Msp, Mfo, Mrd, Mrs, Mlt, Mfi, Mse) p1 3 hr6) [0, 1, 2, 3, 4, 5, 6, 7] (by decide) rfl gX6_soon_X6_of rfl rfl rfl (by decide +kernel) ⟨Nat.le_of_ble_eq_true rfl, Nat.le_of_ble_eq_true rfl⟩ (ci := 6) (q0 := 0) rfl rfl rfl hl.1 rfl (Nat.le_of_ble_eq_true rfl) dX6_soon_33) hC [0, 1, 2, 3, 4, 5, 6, 7] rfl (fun H locs hC => ?_)
      refine lv_ineg hx hb dX6_soon_36 ?_
      refine lv_goto (tgt := 46) hx hb dX6_soon_37 (by decide) ?_
      have e1 := z_s1 hf
      subst e1
      exact z_iret S0 hr hlk hC dX6_soon_46
  · replace hf := z_pos cd2 hf
    refine lv_aload_n hx hb dX6_soon_10 rfl (lv_at hl 0 rfl) ?_
    refine lv_iload_n hx hb dX6_soon_11 rfl (lv_at hl 1 rfl) ?_
    refine lv_iconst (v := 4) hx hb dX6_soon_12 (by decide) ?_
    obtain ⟨r7, hr7, hf⟩ := z_bind hf
    refine z_callPi (z_runV (n := 2) (rest := []) (As := [.int p1, .int 4]) S0 hC (c_X6_of l G c3 oM (Ms, Mas, Mpa, Mkn, Mke, Mik, Mpp, Mle, Mso, Mfz, Msp, Mfo, Mrd, Mrs, Mlt, Mfi, Mse) p1 4 hr7) [0, 1, 2, 3, 4, 5, 6, 7] (by decide) rfl gX6_soon_X6_of rfl rfl rfl (by decide +kernel) ⟨Nat.le_of_ble_eq_true rfl, Nat.le_of_ble_eq_true rfl⟩ (ci := 6) (q0 := 0) rfl rfl rfl hl.1 rfl (Nat.le_of_ble_eq_true rfl) dX6_soon_13) hC [0, 1, 2, 3, 4, 5, 6, 7] rfl (fun H locs hC => ?_)
    refine lv_goto (tgt := 46) hx hb dX6_soon_16 (by decide) ?_
    have e1 := z_s1 hf
    subst e1
    exact z_iret S0 hr hlk hC dX6_soon_46

-- X6 steals
def f_X6_steals_4 (Ms : (Nat → Int32)) : Nat → Int32 → Int32 → Option (Int32 × Int32)
  | 0, _, _ => none
  | fu + 1, y1, y2 =>
    (zald 150 Ms 1).bind fun x2 => if x2 ≤ y2 then
      some (y1, y2)
    else
      (f_X6_soon Ms y2).bind fun r4 => (f_X6_soon Ms y1).bind fun r5 => Option.bind (α := Int32) (
        if r4 ≤ r5 then
          some (y1)
        else
          some (y2)
      ) fun t7 =>
        f_X6_steals_4 Ms fu t7 (y2 + 1)

theorem f_X6_steals_4_s (Ms : (Nat → Int32)) (y1 : Int32) (y2 : Int32) (fu : Nat) : f_X6_steals_4 Ms (fu + 1) y1 y2 = (
    (zald 150 Ms 1).bind fun x2 => if x2 ≤ y2 then
      some (y1, y2)
    else
      (f_X6_soon Ms y2).bind fun r4 => (f_X6_soon Ms y1).bind fun r5 => Option.bind (α := Int32) (
        if r4 ≤ r5 then
          some (y1)
        else
          some (y2)
      ) fun t7 =>
        f_X6_steals_4 Ms fu t7 (y2 + 1)
    ) := rfl

def f_X6_steals (Ms : (Nat → Int32)) : Option ((Nat → Int32)) :=
  (f_X6_steals_4 Ms zF 0 1).bind fun t8 =>
    (f_X6_dropsVoice Ms t8.1).bind fun r9 => (zald 150 r9 7).bind fun x10 => (zast 150 r9 7 (x10 + 1)).bind fun g11 => some (g11)

theorem kX6_steals_7 : Cond.fieldLink RX6 7 "ZoneSamplerModel" "s" "[I" ∈ wsX6_steals := by decide +kernel
theorem jX6_steals_X6 : ∀ w ∈ u_ws RX6 TX6 17, w ∈ wsX6_steals := by decide +kernel
set_option maxHeartbeats 4000000 in
set_option maxRecDepth 100000 in
theorem c_X6_steals (l : Launch) (G : va_G) (c3 : zT3) (oM : zR8) (BM : zMd) {Ms' : (Nat → Int32)} (hf : f_X6_steals BM.1 = some (Ms')) : zM l yX6_steals wsX6_steals ⟨2, 0, 0, 43⟩ G c3 (zwM c3.1 c3.2.2 oM (BM.1, BM.2.1, BM.2.2.1, BM.2.2.2.1, BM.2.2.2.2.1, BM.2.2.2.2.2.1, BM.2.2.2.2.2.2.1, BM.2.2.2.2.2.2.2.1, BM.2.2.2.2.2.2.2.2.1, BM.2.2.2.2.2.2.2.2.2.1, BM.2.2.2.2.2.2.2.2.2.2.1, BM.2.2.2.2.2.2.2.2.2.2.2.1, BM.2.2.2.2.2.2.2.2.2.2.2.2.1, BM.2.2.2.2.2.2.2.2.2.2.2.2.2.1, BM.2.2.2.2.2.2.2.2.2.2.2.2.2.2.1, BM.2.2.2.2.2.2.2.2.2.2.2.2.2.2.2.1, BM.2.2.2.2.2.2.2.2.2.2.2.2.2.2.2.2)) [.ref oM.1] none (zwM c3.1 c3.2.2 oM (Ms', BM.2.1, BM.2.2.1, BM.2.2.2.1, BM.2.2.2.2.1, BM.2.2.2.2.2.1, BM.2.2.2.2.2.2.1, BM.2.2.2.2.2.2.2.1, BM.2.2.2.2.2.2.2.2.1, BM.2.2.2.2.2.2.2.2.2.1, BM.2.2.2.2.2.2.2.2.2.2.1, BM.2.2.2.2.2.2.2.2.2.2.2.1, BM.2.2.2.2.2.2.2.2.2.2.2.2.1, BM.2.2.2.2.2.2.2.2.2.2.2.2.2.1, BM.2.2.2.2.2.2.2.2.2.2.2.2.2.2.1, BM.2.2.2.2.2.2.2.2.2.2.2.2.2.2.2.1, BM.2.2.2.2.2.2.2.2.2.2.2.2.2.2.2.2)) := by
  obtain ⟨Ms, Mas, Mpa, Mkn, Mke, Mik, Mpp, Mle, Mso, Mfz, Msp, Mfo, Mrd, Mrs, Mlt, Mfi, Mse⟩ := BM
  have hf : f_X6_steals Ms = some (Ms') := hf
  show zM l yX6_steals wsX6_steals ⟨2, 0, 0, 43⟩ G c3 (zwM c3.1 c3.2.2 oM (Ms, Mas, Mpa, Mkn, Mke, Mik, Mpp, Mle, Mso, Mfz, Msp, Mfo, Mrd, Mrs, Mlt, Mfi, Mse)) [.ref oM.1] none (zwM c3.1 c3.2.2 oM (Ms', Mas, Mpa, Mkn, Mke, Mik, Mpp, Mle, Mso, Mfz, Msp, Mfo, Mrd, Mrs, Mlt, Mfi, Mse))
  refine zM.of (cc := cX6_steals) (maxL := 3) (ret := none) (by decide) rfl (Nat.le_of_ble_eq_true rfl) ?_
  intro p e s m args below meth c A ls S0 hr hlk hC hl
  have S0 : CallFix p m c cX6_steals 3 s args wsX6_steals RX6 := S0
  have hl : lv_has ls 3 [(0, .ref oM.1)] := hl
  have hx := S0.1
  have hb := S0.2.1
  obtain ⟨H, hH⟩ : ∃ y, y = s.heap := ⟨_, rfl⟩
  rw [← hH] at hC ⊢
  obtain ⟨locs, hlo⟩ : ∃ y : List Loc, y = [] := ⟨_, rfl⟩
  rw [← hlo] at hC ⊢
  clear hH hlo
  unfold f_X6_steals at hf
  refine lv_iconst (v := 0) hx hb dX6_steals_0 (by decide) ?_
  refine lv_istore_n (lv' := [(1, .int 0), (0, .ref oM.1)]) hx hb dX6_steals_1 rfl hl (by decide) rfl (fun ls hl => ?_)
  refine lv_iconst (v := 1) hx hb dX6_steals_2 (by decide) ?_
  refine lv_istore_n (lv' := [(2, .int 1), (1, .int 0), (0, .ref oM.1)]) hx hb dX6_steals_3 rfl hl (by decide) rfl (fun ls hl => ?_)
  have L4 : ∀ (fu : Nat) (y1 : Int32) (y2 : Int32) (Ms : (Nat → Int32)) (Mas : (Nat → Int32)) (Mpa : (Nat → Int32)) (Mkn : Int32) (Mke : (Nat → Int32)) (Mik : Int32) (Mpp : (Nat → Int32)) (Mle : Int32) (Mso : (Nat → Int32)) (Mfz : Int32) (Msp : Int32) (Mfo : Int32) (Mrd : (Nat → Int32)) (Mrs : Int32) (Mlt : Int32) (Mfi : Int32) (Mse : Int32) (tt : Int32 × Int32), f_X6_steals_4 Ms fu y1 y2 = some tt → ∀ (H : Heap) (locs : List Loc) (ls : Array Slot), zC G c3 A s (zwM c3.1 c3.2.2 oM (Ms, Mas, Mpa, Mkn, Mke, Mik, Mpp, Mle, Mso, Mfz, Msp, Mfo, Mrd, Mrs, Mlt, Mfi, Mse)) H locs → lv_has ls 3 [(0, .ref oM.1), (1, .int y1), (2, .int y2)] → (∀ (H : Heap) (locs : List Loc) (ls : Array Slot), zC G c3 A s (zwM c3.1 c3.2.2 oM (Ms, Mas, Mpa, Mkn, Mke, Mik, Mpp, Mle, Mso, Mfz, Msp, Mfo, Mrd, Mrs, Mlt, Mfi, Mse)) H locs → lv_has ls 3 [(0, .ref oM.1), (1, .int tt.1), (2, .int tt.2)] → W p l e ⟨2, 0, 0, 43⟩ s m args below meth c H locs 0 0 (MQ below (zPost G (zwM c3.1 c3.2.2 oM (Ms', Mas, Mpa, Mkn, Mke, Mik, Mpp, Mle, Mso, Mfz, Msp, Mfo, Mrd, Mrs, Mlt, Mfi, Mse)) none A) args s 0 0 A) (F0 m 39 ls [])) → W p l e ⟨2, 0, 0, 43⟩ s m args below meth c H locs 0 0 (MQ below (zPost G (zwM c3.1 c3.2.2 oM (Ms', Mas, Mpa, Mkn, Mke, Mik, Mpp, Mle, Mso, Mfz, Msp, Mfo, Mrd, Mrs, Mlt, Mfi, Mse)) none A) args s 0 0 A) (F0 m 4 ls []) := by
    intro fu
    induction fu with
    | zero =>
      intro y1 y2 Ms Mas Mpa Mkn Mke Mik Mpp Mle Mso Mfz Msp Mfo Mrd Mrs Mlt Mfi Mse tt hf H locs ls hC hl hK
      exact (z_none hf).elim
    | succ fu ih4 =>
      intro y1 y2 Ms Mas Mpa Mkn Mke Mik Mpp Mle Mso Mfz Msp Mfo Mrd Mrs Mlt Mfi Mse tt hf H locs ls hC hl hK
      replace hf := (f_X6_steals_4_s Ms y1 y2 fu).symm.trans hf
      refine lv_iload_n hx hb dX6_steals_4 rfl (lv_at hl 2 rfl) ?_
      refine lv_aload_n hx hb dX6_steals_5 rfl (lv_at hl 0 rfl) ?_
      refine z_get S0 hC (ci := 6) (C := RX6) (T := TX6) (N := 17) (v := .ref oM.2.1) jX6_steals_X6 0 rfl rfl 0 (by decide) kX6_steals_7 rfl rfl dX6_steals_6 ?_
      refine lv_iconst (v := 1) hx hb dX6_steals_9 (by decide) ?_
      obtain ⟨x2, hx2, hf⟩ := z_bind hf
      refine z_iald S0 hC 1 rfl hx2 dX6_steals_10 ?_
      refine lv_icmp_ge (tgt := 39) hx hb dX6_steals_11 (by decide) (fun cd3 => ?_) (fun cd3 => ?_)
      · replace hf := z_pos cd3 hf
        have e1 := z_s1 hf
        subst e1
        exact hK H locs ls hC (lv_sub hl [0, 1, 2] rfl)
      · replace hf := z_neg cd3 hf
        refine lv_aload_n hx hb dX6_steals_14 rfl (lv_at hl 0 rfl) ?_
        refine lv_iload_n hx hb dX6_steals_15 rfl (lv_at hl 2 rfl) ?_
        obtain ⟨r4, hr4, hf⟩ := z_bind hf
        refine z_callPi (z_runV (n := 1) (rest := []) (As := [.int y2]) S0 hC (c_X6_soon l G c3 oM (Ms, Mas, Mpa, Mkn, Mke, Mik, Mpp, Mle, Mso, Mfz, Msp, Mfo, Mrd, Mrs, Mlt, Mfi, Mse) y2 hr4) [0, 1, 2, 3, 4, 5, 6, 7] (by decide) rfl gX6_steals_X6_soon rfl rfl rfl (by decide +kernel) ⟨Nat.le_of_ble_eq_true rfl, Nat.le_of_ble_eq_true rfl⟩ (ci := 6) (q0 := 0) rfl rfl rfl hl.1 rfl (Nat.le_of_ble_eq_true rfl) dX6_steals_16) hC [0, 1, 2, 3, 4, 5, 6, 7] rfl (fun H locs hC => ?_)
        refine lv_aload_n hx hb dX6_steals_19 rfl (lv_at hl 0 rfl) ?_
        refine lv_iload_n hx hb dX6_steals_20 rfl (lv_at hl 1 rfl) ?_
        obtain ⟨r5, hr5, hf⟩ := z_bind hf
        refine z_callPi (z_runV (n := 1) (rest := [.int r4]) (As := [.int y1]) S0 hC (c_X6_soon l G c3 oM (Ms, Mas, Mpa, Mkn, Mke, Mik, Mpp, Mle, Mso, Mfz, Msp, Mfo, Mrd, Mrs, Mlt, Mfi, Mse) y1 hr5) [0, 1, 2, 3, 4, 5, 6, 7] (by decide) rfl gX6_steals_X6_soon rfl rfl rfl (by decide +kernel) ⟨Nat.le_of_ble_eq_true rfl, Nat.le_of_ble_eq_true rfl⟩ (ci := 6) (q0 := 0) rfl rfl rfl hl.1 rfl (Nat.le_of_ble_eq_true rfl) dX6_steals_21) hC [0, 1, 2, 3, 4, 5, 6, 7] rfl (fun H locs hC => ?_)
        obtain ⟨t7, ht7, hf⟩ := z_bind hf
        have Jt7 : ∀ (H : Heap) (locs : List Loc) (ls : Array Slot), zC G c3 A s (zwM c3.1 c3.2.2 oM (Ms, Mas, Mpa, Mkn, Mke, Mik, Mpp, Mle, Mso, Mfz, Msp, Mfo, Mrd, Mrs, Mlt, Mfi, Mse)) H locs → lv_has ls 3 [(0, .ref oM.1), (1, .int y1), (2, .int y2)] → W p l e ⟨2, 0, 0, 43⟩ s m args below meth c H locs 0 0 (MQ below (zPost G (zwM c3.1 c3.2.2 oM (Ms', Mas, Mpa, Mkn, Mke, Mik, Mpp, Mle, Mso, Mfz, Msp, Mfo, Mrd, Mrs, Mlt, Mfi, Mse)) none A) args s 0 0 A) (F0 m 32 ls [.int t7]) := by
          intro H locs ls hC hl
          refine lv_istore_n (lv' := [(1, .int t7), (0, .ref oM.1), (2, .int y2)]) hx hb dX6_steals_32 rfl hl (by decide) rfl (fun ls hl => ?_)
          refine lv_iinc (v := (y2 + 1)) (lv' := [(2, .int (y2 + 1)), (1, .int t7), (0, .ref oM.1)]) hx hb dX6_steals_33 hl (k := 2) rfl rfl (by decide) rfl (fun ls hl => ?_)
          refine lv_goto (tgt := 4) hx hb dX6_steals_36 (by decide) ?_
          exact ih4 t7 (y2 + 1) Ms Mas Mpa Mkn Mke Mik Mpp Mle Mso Mfz Msp Mfo Mrd Mrs Mlt Mfi Mse _ hf H locs ls hC (lv_sub hl [2, 1, 0] rfl) hK
        refine lv_icmp_le (tgt := 31) hx hb dX6_steals_24 (by decide) (fun cd6 => ?_) (fun cd6 => ?_)
        · replace ht7 := z_pos cd6 ht7
          refine lv_iload_n hx hb dX6_steals_31 rfl (lv_at hl 1 rfl) ?_
          have e1 := z_s1 ht7
          subst e1
          exact Jt7 H locs ls hC (lv_sub hl [0, 1, 2] rfl)
        · replace ht7 := z_neg cd6 ht7
          refine lv_iload_n hx hb dX6_steals_27 rfl (lv_at hl 2 rfl) ?_
          refine lv_goto (tgt := 32) hx hb dX6_steals_28 (by decide) ?_
          have e1 := z_s1 ht7
          subst e1
          exact Jt7 H locs ls hC (lv_sub hl [0, 1, 2] rfl)
  obtain ⟨t8, ht8, hf⟩ := z_bind hf
  refine L4 zF 0 1 Ms Mas Mpa Mkn Mke Mik Mpp Mle Mso Mfz Msp Mfo Mrd Mrs Mlt Mfi Mse t8 ht8 H locs ls hC (lv_sub hl [2, 1, 0] rfl) (fun H locs ls hC hl => ?_)
  refine lv_aload_n hx hb dX6_steals_39 rfl (lv_at hl 0 rfl) ?_
  refine lv_iload_n hx hb dX6_steals_40 rfl (lv_at hl 1 rfl) ?_
  obtain ⟨r9, hr9, hf⟩ := z_bind hf
  refine z_callv (z_runV (n := 1) (rest := []) (As := [.int t8.1]) S0 hC (c_X6_dropsVoice l G c3 oM (Ms, Mas, Mpa, Mkn, Mke, Mik, Mpp, Mle, Mso, Mfz, Msp, Mfo, Mrd, Mrs, Mlt, Mfi, Mse) t8.1 hr9) [0, 1, 2, 3, 4, 5, 6, 7] (by decide) rfl gX6_steals_X6_dropsVoice rfl rfl rfl (by decide +kernel) ⟨Nat.le_of_ble_eq_true rfl, Nat.le_of_ble_eq_true rfl⟩ (ci := 6) (q0 := 0) rfl rfl rfl hl.1 rfl (Nat.le_of_ble_eq_true rfl) dX6_steals_41) hC [0, 1, 2, 3, 4, 5, 6, 7] [] [0, 1, 2, 3, 4, 5, 6, 7] rfl (wr := ([] : va_W)) rfl (by decide) (by decide) (ws2 := (zwM c3.1 c3.2.2 oM (r9, Mas, Mpa, Mkn, Mke, Mik, Mpp, Mle, Mso, Mfz, Msp, Mfo, Mrd, Mrs, Mlt, Mfi, Mse))) rfl (by decide) (fun H locs hC => ?_)
  refine lv_aload_n hx hb dX6_steals_44 rfl (lv_at hl 0 rfl) ?_
  refine z_get S0 hC (ci := 6) (C := RX6) (T := TX6) (N := 17) (v := .ref oM.2.1) jX6_steals_X6 0 rfl rfl 0 (by decide) kX6_steals_7 rfl rfl dX6_steals_45 ?_
  refine lv_bipush (v := 7) hx hb dX6_steals_48 (by decide) ?_
  refine lv_dup2_11 hx hb dX6_steals_50 rfl rfl ?_
  obtain ⟨x10, hx10, hf⟩ := z_bind hf
  refine z_iald S0 hC 1 rfl hx10 dX6_steals_51 ?_
  refine lv_iconst (v := 1) hx hb dX6_steals_52 (by decide) ?_
  refine lv_iadd hx hb dX6_steals_53 ?_
  obtain ⟨g11, hg11, hf⟩ := z_bind hf
  refine z_iast S0 hC 1 rfl hg11 dX6_steals_54 (ws2 := (zwM c3.1 c3.2.2 oM (g11, Mas, Mpa, Mkn, Mke, Mik, Mpp, Mle, Mso, Mfz, Msp, Mfo, Mrd, Mrs, Mlt, Mfi, Mse))) rfl (fun H locs hC => ?_)
  have e1 := z_s1 hf
  subst e1
  exact z_vret S0 hr hlk hC dX6_steals_55

-- X6 chokes
def f_X6_chokes_2 (y1 : Int32) : Nat → Int32 → (Nat → Int32) → Option (Int32 × (Nat → Int32))
  | 0, _, _ => none
  | fu + 1, y2, Ms =>
    (zald 150 Ms 1).bind fun x2 => if x2 ≤ y2 then
      some (y2, Ms)
    else
      Option.bind (α := Int32) (
        if y1 ≤ 0 then
          some (0)
        else
          (f_X6_of Ms y2 0).bind fun r11 => (f_X6_ofZone Ms r11 4).bind fun r12 => if r12 = y1 then
            (f_X6_of Ms y2 6).bind fun r14 => if r14 = 0 then
              some (1)
            else
              some (0)
          else
            some (0)
      ) fun t5 =>
        Option.bind (α := Int32 × (Nat → Int32)) (
          if t5 = 0 then
            some ((y2 + 1), Ms)
          else
            (f_X6_dropsVoice Ms y2).bind fun r8 => (zald 150 r8 6).bind fun x9 => (zast 150 r8 6 (x9 + 1)).bind fun g10 => some (y2, g10)
        ) fun t7 =>
          f_X6_chokes_2 y1 fu t7.1 t7.2

theorem f_X6_chokes_2_s (y1 : Int32) (y2 : Int32) (Ms : (Nat → Int32)) (fu : Nat) : f_X6_chokes_2 y1 (fu + 1) y2 Ms = (
    (zald 150 Ms 1).bind fun x2 => if x2 ≤ y2 then
      some (y2, Ms)
    else
      Option.bind (α := Int32) (
        if y1 ≤ 0 then
          some (0)
        else
          (f_X6_of Ms y2 0).bind fun r11 => (f_X6_ofZone Ms r11 4).bind fun r12 => if r12 = y1 then
            (f_X6_of Ms y2 6).bind fun r14 => if r14 = 0 then
              some (1)
            else
              some (0)
          else
            some (0)
      ) fun t5 =>
        Option.bind (α := Int32 × (Nat → Int32)) (
          if t5 = 0 then
            some ((y2 + 1), Ms)
          else
            (f_X6_dropsVoice Ms y2).bind fun r8 => (zald 150 r8 6).bind fun x9 => (zast 150 r8 6 (x9 + 1)).bind fun g10 => some (y2, g10)
        ) fun t7 =>
          f_X6_chokes_2 y1 fu t7.1 t7.2
    ) := rfl

def f_X6_chokes (Ms : (Nat → Int32)) (p1 : Int32) : Option ((Nat → Int32)) :=
  (f_X6_chokes_2 p1 zF 0 Ms).bind fun t16 =>
    some (t16.2)

theorem kX6_chokes_7 : Cond.fieldLink RX6 7 "ZoneSamplerModel" "s" "[I" ∈ wsX6_chokes := by decide +kernel
theorem jX6_chokes_X6 : ∀ w ∈ u_ws RX6 TX6 17, w ∈ wsX6_chokes := by decide +kernel
set_option maxHeartbeats 4000000 in
set_option maxRecDepth 100000 in
theorem c_X6_chokes (l : Launch) (G : va_G) (c3 : zT3) (oM : zR8) (BM : zMd) (p1 : Int32) {Ms' : (Nat → Int32)} (hf : f_X6_chokes BM.1 p1 = some (Ms')) : zM l yX6_chokes wsX6_chokes ⟨1, 0, 0, 22⟩ G c3 (zwM c3.1 c3.2.2 oM (BM.1, BM.2.1, BM.2.2.1, BM.2.2.2.1, BM.2.2.2.2.1, BM.2.2.2.2.2.1, BM.2.2.2.2.2.2.1, BM.2.2.2.2.2.2.2.1, BM.2.2.2.2.2.2.2.2.1, BM.2.2.2.2.2.2.2.2.2.1, BM.2.2.2.2.2.2.2.2.2.2.1, BM.2.2.2.2.2.2.2.2.2.2.2.1, BM.2.2.2.2.2.2.2.2.2.2.2.2.1, BM.2.2.2.2.2.2.2.2.2.2.2.2.2.1, BM.2.2.2.2.2.2.2.2.2.2.2.2.2.2.1, BM.2.2.2.2.2.2.2.2.2.2.2.2.2.2.2.1, BM.2.2.2.2.2.2.2.2.2.2.2.2.2.2.2.2)) [.ref oM.1, .int p1] none (zwM c3.1 c3.2.2 oM (Ms', BM.2.1, BM.2.2.1, BM.2.2.2.1, BM.2.2.2.2.1, BM.2.2.2.2.2.1, BM.2.2.2.2.2.2.1, BM.2.2.2.2.2.2.2.1, BM.2.2.2.2.2.2.2.2.1, BM.2.2.2.2.2.2.2.2.2.1, BM.2.2.2.2.2.2.2.2.2.2.1, BM.2.2.2.2.2.2.2.2.2.2.2.1, BM.2.2.2.2.2.2.2.2.2.2.2.2.1, BM.2.2.2.2.2.2.2.2.2.2.2.2.2.1, BM.2.2.2.2.2.2.2.2.2.2.2.2.2.2.1, BM.2.2.2.2.2.2.2.2.2.2.2.2.2.2.2.1, BM.2.2.2.2.2.2.2.2.2.2.2.2.2.2.2.2)) := by
  obtain ⟨Ms, Mas, Mpa, Mkn, Mke, Mik, Mpp, Mle, Mso, Mfz, Msp, Mfo, Mrd, Mrs, Mlt, Mfi, Mse⟩ := BM
  have hf : f_X6_chokes Ms p1 = some (Ms') := hf
  show zM l yX6_chokes wsX6_chokes ⟨1, 0, 0, 22⟩ G c3 (zwM c3.1 c3.2.2 oM (Ms, Mas, Mpa, Mkn, Mke, Mik, Mpp, Mle, Mso, Mfz, Msp, Mfo, Mrd, Mrs, Mlt, Mfi, Mse)) [.ref oM.1, .int p1] none (zwM c3.1 c3.2.2 oM (Ms', Mas, Mpa, Mkn, Mke, Mik, Mpp, Mle, Mso, Mfz, Msp, Mfo, Mrd, Mrs, Mlt, Mfi, Mse))
  refine zM.of (cc := cX6_chokes) (maxL := 4) (ret := none) (by decide) rfl (Nat.le_of_ble_eq_true rfl) ?_
  intro p e s m args below meth c A ls S0 hr hlk hC hl
  have S0 : CallFix p m c cX6_chokes 4 s args wsX6_chokes RX6 := S0
  have hl : lv_has ls 4 [(0, .ref oM.1), (1, .int p1)] := hl
  have hx := S0.1
  have hb := S0.2.1
  obtain ⟨H, hH⟩ : ∃ y, y = s.heap := ⟨_, rfl⟩
  rw [← hH] at hC ⊢
  obtain ⟨locs, hlo⟩ : ∃ y : List Loc, y = [] := ⟨_, rfl⟩
  rw [← hlo] at hC ⊢
  clear hH hlo
  unfold f_X6_chokes at hf
  refine lv_iconst (v := 0) hx hb dX6_chokes_0 (by decide) ?_
  refine lv_istore_n (lv' := [(2, .int 0), (0, .ref oM.1), (1, .int p1)]) hx hb dX6_chokes_1 rfl hl (by decide) rfl (fun ls hl => ?_)
  have L2 : ∀ (fu : Nat) (y1 : Int32) (y2 : Int32) (Ms : (Nat → Int32)) (Mas : (Nat → Int32)) (Mpa : (Nat → Int32)) (Mkn : Int32) (Mke : (Nat → Int32)) (Mik : Int32) (Mpp : (Nat → Int32)) (Mle : Int32) (Mso : (Nat → Int32)) (Mfz : Int32) (Msp : Int32) (Mfo : Int32) (Mrd : (Nat → Int32)) (Mrs : Int32) (Mlt : Int32) (Mfi : Int32) (Mse : Int32) (tt : Int32 × (Nat → Int32)), f_X6_chokes_2 y1 fu y2 Ms = some tt → ∀ (H : Heap) (locs : List Loc) (ls : Array Slot), zC G c3 A s (zwM c3.1 c3.2.2 oM (Ms, Mas, Mpa, Mkn, Mke, Mik, Mpp, Mle, Mso, Mfz, Msp, Mfo, Mrd, Mrs, Mlt, Mfi, Mse)) H locs → lv_has ls 4 [(0, .ref oM.1), (1, .int y1), (2, .int y2)] → (∀ (H : Heap) (locs : List Loc) (ls : Array Slot), zC G c3 A s (zwM c3.1 c3.2.2 oM (tt.2, Mas, Mpa, Mkn, Mke, Mik, Mpp, Mle, Mso, Mfz, Msp, Mfo, Mrd, Mrs, Mlt, Mfi, Mse)) H locs → lv_has ls 4 [(0, .ref oM.1), (1, .int y1), (2, .int tt.1)] → W p l e ⟨1, 0, 0, 22⟩ s m args below meth c H locs 0 0 (MQ below (zPost G (zwM c3.1 c3.2.2 oM (Ms', Mas, Mpa, Mkn, Mke, Mik, Mpp, Mle, Mso, Mfz, Msp, Mfo, Mrd, Mrs, Mlt, Mfi, Mse)) none A) args s 0 0 A) (F0 m 76 ls [])) → W p l e ⟨1, 0, 0, 22⟩ s m args below meth c H locs 0 0 (MQ below (zPost G (zwM c3.1 c3.2.2 oM (Ms', Mas, Mpa, Mkn, Mke, Mik, Mpp, Mle, Mso, Mfz, Msp, Mfo, Mrd, Mrs, Mlt, Mfi, Mse)) none A) args s 0 0 A) (F0 m 2 ls []) := by
    intro fu
    induction fu with
    | zero =>
      intro y1 y2 Ms Mas Mpa Mkn Mke Mik Mpp Mle Mso Mfz Msp Mfo Mrd Mrs Mlt Mfi Mse tt hf H locs ls hC hl hK
      exact (z_none hf).elim
    | succ fu ih2 =>
      intro y1 y2 Ms Mas Mpa Mkn Mke Mik Mpp Mle Mso Mfz Msp Mfo Mrd Mrs Mlt Mfi Mse tt hf H locs ls hC hl hK
      replace hf := (f_X6_chokes_2_s y1 y2 Ms fu).symm.trans hf
      refine lv_iload_n hx hb dX6_chokes_2 rfl (lv_at hl 2 rfl) ?_
      refine lv_aload_n hx hb dX6_chokes_3 rfl (lv_at hl 0 rfl) ?_
      refine z_get S0 hC (ci := 6) (C := RX6) (T := TX6) (N := 17) (v := .ref oM.2.1) jX6_chokes_X6 0 rfl rfl 0 (by decide) kX6_chokes_7 rfl rfl dX6_chokes_4 ?_
      refine lv_iconst (v := 1) hx hb dX6_chokes_7 (by decide) ?_
      obtain ⟨x2, hx2, hf⟩ := z_bind hf
      refine z_iald S0 hC 1 rfl hx2 dX6_chokes_8 ?_
      refine lv_icmp_ge (tgt := 76) hx hb dX6_chokes_9 (by decide) (fun cd3 => ?_) (fun cd3 => ?_)
      · replace hf := z_pos cd3 hf
        have e1 := z_s1 hf
        subst e1
        exact hK H locs ls hC (lv_sub hl [0, 1, 2] rfl)
      · replace hf := z_neg cd3 hf
        refine lv_iload_n hx hb dX6_chokes_12 rfl (lv_at hl 1 rfl) ?_
        obtain ⟨t5, ht5, hf⟩ := z_bind hf
        have Jt5 : ∀ (H : Heap) (locs : List Loc) (ls : Array Slot), zC G c3 A s (zwM c3.1 c3.2.2 oM (Ms, Mas, Mpa, Mkn, Mke, Mik, Mpp, Mle, Mso, Mfz, Msp, Mfo, Mrd, Mrs, Mlt, Mfi, Mse)) H locs → lv_has ls 4 [(0, .ref oM.1), (1, .int y1), (2, .int y2)] → W p l e ⟨1, 0, 0, 22⟩ s m args below meth c H locs 0 0 (MQ below (zPost G (zwM c3.1 c3.2.2 oM (Ms', Mas, Mpa, Mkn, Mke, Mik, Mpp, Mle, Mso, Mfz, Msp, Mfo, Mrd, Mrs, Mlt, Mfi, Mse)) none A) args s 0 0 A) (F0 m 46 ls [.int t5]) := by
          intro H locs ls hC hl
          refine lv_istore_n (lv' := [(3, .int t5), (0, .ref oM.1), (1, .int y1), (2, .int y2)]) hx hb dX6_chokes_46 rfl hl (by decide) rfl (fun ls hl => ?_)
          refine lv_iload_n hx hb dX6_chokes_47 rfl (lv_at hl 0 rfl) ?_
          obtain ⟨t7, ht7, hf⟩ := z_bind hf
          have Jt7 : ∀ (H : Heap) (locs : List Loc) (ls : Array Slot), zC G c3 A s (zwM c3.1 c3.2.2 oM (t7.2, Mas, Mpa, Mkn, Mke, Mik, Mpp, Mle, Mso, Mfz, Msp, Mfo, Mrd, Mrs, Mlt, Mfi, Mse)) H locs → lv_has ls 4 [(0, .ref oM.1), (1, .int y1), (2, .int t7.1), (3, .int t5)] → W p l e ⟨1, 0, 0, 22⟩ s m args below meth c H locs 0 0 (MQ below (zPost G (zwM c3.1 c3.2.2 oM (Ms', Mas, Mpa, Mkn, Mke, Mik, Mpp, Mle, Mso, Mfz, Msp, Mfo, Mrd, Mrs, Mlt, Mfi, Mse)) none A) args s 0 0 A) (F0 m 73 ls []) := by
            intro H locs ls hC hl
            refine lv_goto (tgt := 2) hx hb dX6_chokes_73 (by decide) ?_
            exact ih2 y1 t7.1 t7.2 Mas Mpa Mkn Mke Mik Mpp Mle Mso Mfz Msp Mfo Mrd Mrs Mlt Mfi Mse _ hf H locs ls hC (lv_sub hl [0, 1, 2] rfl) hK
          refine lv_if_eq (tgt := 70) hx hb dX6_chokes_48 (by decide) (fun cd6 => ?_) (fun cd6 => ?_)
          · replace ht7 := z_pos cd6 ht7
            refine lv_iinc (v := (y2 + 1)) (lv' := [(2, .int (y2 + 1)), (3, .int t5), (0, .ref oM.1), (1, .int y1)]) hx hb dX6_chokes_70 hl (k := 3) rfl rfl (by decide) rfl (fun ls hl => ?_)
            have e1 := z_s1 ht7
            subst e1
            exact Jt7 H locs ls hC (lv_sub hl [2, 3, 0, 1] rfl)
          · replace ht7 := z_neg cd6 ht7
            refine lv_aload_n hx hb dX6_chokes_51 rfl (lv_at hl 1 rfl) ?_
            refine lv_iload_n hx hb dX6_chokes_52 rfl (lv_at hl 3 rfl) ?_
            obtain ⟨r8, hr8, ht7⟩ := z_bind ht7
            refine z_callv (z_runV (n := 1) (rest := []) (As := [.int y2]) S0 hC (c_X6_dropsVoice l G c3 oM (Ms, Mas, Mpa, Mkn, Mke, Mik, Mpp, Mle, Mso, Mfz, Msp, Mfo, Mrd, Mrs, Mlt, Mfi, Mse) y2 hr8) [0, 1, 2, 3, 4, 5, 6, 7] (by decide) rfl gX6_chokes_X6_dropsVoice rfl rfl rfl (by decide +kernel) ⟨Nat.le_of_ble_eq_true rfl, Nat.le_of_ble_eq_true rfl⟩ (ci := 6) (q0 := 0) rfl rfl rfl hl.1 rfl (Nat.le_of_ble_eq_true rfl) dX6_chokes_53) hC [0, 1, 2, 3, 4, 5, 6, 7] [] [0, 1, 2, 3, 4, 5, 6, 7] rfl (wr := ([] : va_W)) rfl (by decide) (by decide) (ws2 := (zwM c3.1 c3.2.2 oM (r8, Mas, Mpa, Mkn, Mke, Mik, Mpp, Mle, Mso, Mfz, Msp, Mfo, Mrd, Mrs, Mlt, Mfi, Mse))) rfl (by decide) (fun H locs hC => ?_)
            refine lv_aload_n hx hb dX6_chokes_56 rfl (lv_at hl 1 rfl) ?_
            refine z_get S0 hC (ci := 6) (C := RX6) (T := TX6) (N := 17) (v := .ref oM.2.1) jX6_chokes_X6 0 rfl rfl 0 (by decide) kX6_chokes_7 rfl rfl dX6_chokes_57 ?_
            refine lv_bipush (v := 6) hx hb dX6_chokes_60 (by decide) ?_
            refine lv_dup2_11 hx hb dX6_chokes_62 rfl rfl ?_
            obtain ⟨x9, hx9, ht7⟩ := z_bind ht7
            refine z_iald S0 hC 1 rfl hx9 dX6_chokes_63 ?_
            refine lv_iconst (v := 1) hx hb dX6_chokes_64 (by decide) ?_
            refine lv_iadd hx hb dX6_chokes_65 ?_
            obtain ⟨g10, hg10, ht7⟩ := z_bind ht7
            refine z_iast S0 hC 1 rfl hg10 dX6_chokes_66 (ws2 := (zwM c3.1 c3.2.2 oM (g10, Mas, Mpa, Mkn, Mke, Mik, Mpp, Mle, Mso, Mfz, Msp, Mfo, Mrd, Mrs, Mlt, Mfi, Mse))) rfl (fun H locs hC => ?_)
            refine lv_goto (tgt := 73) hx hb dX6_chokes_67 (by decide) ?_
            have e1 := z_s1 ht7
            subst e1
            exact Jt7 H locs ls hC (lv_sub hl [1, 2, 3, 0] rfl)
        refine lv_if_le (tgt := 45) hx hb dX6_chokes_13 (by decide) (fun cd4 => ?_) (fun cd4 => ?_)
        · replace ht5 := z_pos cd4 ht5
          refine lv_iconst (v := 0) hx hb dX6_chokes_45 (by decide) ?_
          have e1 := z_s1 ht5
          subst e1
          exact Jt5 H locs ls hC (lv_sub hl [0, 1, 2] rfl)
        · replace ht5 := z_neg cd4 ht5
          refine lv_aload_n hx hb dX6_chokes_16 rfl (lv_at hl 0 rfl) ?_
          refine lv_aload_n hx hb dX6_chokes_17 rfl (lv_at hl 0 rfl) ?_
          refine lv_iload_n hx hb dX6_chokes_18 rfl (lv_at hl 2 rfl) ?_
          refine lv_iconst (v := 0) hx hb dX6_chokes_19 (by decide) ?_
          obtain ⟨r11, hr11, ht5⟩ := z_bind ht5
          refine z_callPi (z_runV (n := 2) (rest := [.ref oM.1]) (As := [.int y2, .int 0]) S0 hC (c_X6_of l G c3 oM (Ms, Mas, Mpa, Mkn, Mke, Mik, Mpp, Mle, Mso, Mfz, Msp, Mfo, Mrd, Mrs, Mlt, Mfi, Mse) y2 0 hr11) [0, 1, 2, 3, 4, 5, 6, 7] (by decide) rfl gX6_chokes_X6_of rfl rfl rfl (by decide +kernel) ⟨Nat.le_of_ble_eq_true rfl, Nat.le_of_ble_eq_true rfl⟩ (ci := 6) (q0 := 0) rfl rfl rfl hl.1 rfl (Nat.le_of_ble_eq_true rfl) dX6_chokes_20) hC [0, 1, 2, 3, 4, 5, 6, 7] rfl (fun H locs hC => ?_)
          refine lv_iconst (v := 4) hx hb dX6_chokes_23 (by decide) ?_
          obtain ⟨r12, hr12, ht5⟩ := z_bind ht5
          refine z_callPi (z_runV (n := 2) (rest := []) (As := [.int r11, .int 4]) S0 hC (c_X6_ofZone l G c3 oM (Ms, Mas, Mpa, Mkn, Mke, Mik, Mpp, Mle, Mso, Mfz, Msp, Mfo, Mrd, Mrs, Mlt, Mfi, Mse) r11 4 hr12) [0, 1, 2, 3, 4, 5, 6, 7] (by decide) rfl gX6_chokes_X6_ofZone rfl rfl rfl (by decide +kernel) ⟨Nat.le_of_ble_eq_true rfl, Nat.le_of_ble_eq_true rfl⟩ (ci := 6) (q0 := 0) rfl rfl rfl hl.1 rfl (Nat.le_of_ble_eq_true rfl) dX6_chokes_24) hC [0, 1, 2, 3, 4, 5, 6, 7] rfl (fun H locs hC => ?_)
          refine lv_iload_n hx hb dX6_chokes_27 rfl (lv_at hl 1 rfl) ?_
          refine lv_icmp_ne (tgt := 45) hx hb dX6_chokes_28 (by decide) (fun cd13 => ?_) (fun cd13 => ?_)
          · replace ht5 := z_neg cd13 ht5
            refine lv_iconst (v := 0) hx hb dX6_chokes_45 (by decide) ?_
            have e1 := z_s1 ht5
            subst e1
            exact Jt5 H locs ls hC (lv_sub hl [0, 1, 2] rfl)
          · replace ht5 := z_pos cd13 ht5
            refine lv_aload_n hx hb dX6_chokes_31 rfl (lv_at hl 0 rfl) ?_
            refine lv_iload_n hx hb dX6_chokes_32 rfl (lv_at hl 2 rfl) ?_
            refine lv_bipush (v := 6) hx hb dX6_chokes_33 (by decide) ?_
            obtain ⟨r14, hr14, ht5⟩ := z_bind ht5
            refine z_callPi (z_runV (n := 2) (rest := []) (As := [.int y2, .int 6]) S0 hC (c_X6_of l G c3 oM (Ms, Mas, Mpa, Mkn, Mke, Mik, Mpp, Mle, Mso, Mfz, Msp, Mfo, Mrd, Mrs, Mlt, Mfi, Mse) y2 6 hr14) [0, 1, 2, 3, 4, 5, 6, 7] (by decide) rfl gX6_chokes_X6_of rfl rfl rfl (by decide +kernel) ⟨Nat.le_of_ble_eq_true rfl, Nat.le_of_ble_eq_true rfl⟩ (ci := 6) (q0 := 0) rfl rfl rfl hl.1 rfl (Nat.le_of_ble_eq_true rfl) dX6_chokes_35) hC [0, 1, 2, 3, 4, 5, 6, 7] rfl (fun H locs hC => ?_)
            refine lv_if_ne (tgt := 45) hx hb dX6_chokes_38 (by decide) (fun cd15 => ?_) (fun cd15 => ?_)
            · replace ht5 := z_neg cd15 ht5
              refine lv_iconst (v := 0) hx hb dX6_chokes_45 (by decide) ?_
              have e1 := z_s1 ht5
              subst e1
              exact Jt5 H locs ls hC (lv_sub hl [0, 1, 2] rfl)
            · replace ht5 := z_pos cd15 ht5
              refine lv_iconst (v := 1) hx hb dX6_chokes_41 (by decide) ?_
              refine lv_goto (tgt := 46) hx hb dX6_chokes_42 (by decide) ?_
              have e1 := z_s1 ht5
              subst e1
              exact Jt5 H locs ls hC (lv_sub hl [0, 1, 2] rfl)
  obtain ⟨t16, ht16, hf⟩ := z_bind hf
  refine L2 zF p1 0 Ms Mas Mpa Mkn Mke Mik Mpp Mle Mso Mfz Msp Mfo Mrd Mrs Mlt Mfi Mse t16 ht16 H locs ls hC (lv_sub hl [1, 2, 0] rfl) (fun H locs ls hC hl => ?_)
  have e1 := z_s1 hf
  subst e1
  exact z_vret S0 hr hlk hC dX6_chokes_76

-- X6 begins
def f_X6_begins (Ms : (Nat → Int32)) (p1 : Int32) (p2 : Int32) (p3 : Int32) : Option ((Nat → Int32)) :=
  (f_X6_ofZone Ms p1 4).bind fun r1 => (f_X6_chokes Ms r1).bind fun r2 => (zald 150 r2 1).bind fun x3 => (zald 150 r2 9).bind fun x4 => Option.bind (α := (Nat → Int32)) (
    if x3 < x4 then
      some (r2)
    else
      (f_X6_steals r2).bind fun r19 => some (r19)
  ) fun t6 =>
    (zald 150 t6 1).bind fun x7 => (f_X6_lays t6 x7 0 p1).bind fun r8 => (f_X6_lays r8 x7 1 p2).bind fun r9 => (f_X6_lays r9 x7 2 p3).bind fun r10 => (f_X6_lays r10 x7 3 (10 * p3)).bind fun r11 => (f_X6_lays r11 x7 4 0).bind fun r12 => (f_X6_lays r12 x7 5 0).bind fun r13 => (f_X6_lays r13 x7 6 1).bind fun r14 => (zald 150 r14 1).bind fun x15 => (zast 150 r14 1 (x15 + 1)).bind fun g16 => (zald 150 g16 4).bind fun x17 => (zast 150 g16 4 (x17 + 1)).bind fun g18 => some (g18)

theorem kX6_begins_7 : Cond.fieldLink RX6 7 "ZoneSamplerModel" "s" "[I" ∈ wsX6_begins := by decide +kernel
theorem jX6_begins_X6 : ∀ w ∈ u_ws RX6 TX6 17, w ∈ wsX6_begins := by decide +kernel
set_option maxHeartbeats 4000000 in
set_option maxRecDepth 100000 in
theorem c_X6_begins (l : Launch) (G : va_G) (c3 : zT3) (oM : zR8) (BM : zMd) (p1 : Int32) (p2 : Int32) (p3 : Int32) {Ms' : (Nat → Int32)} (hf : f_X6_begins BM.1 p1 p2 p3 = some (Ms')) : zM l yX6_begins wsX6_begins ⟨3, 0, 0, 65⟩ G c3 (zwM c3.1 c3.2.2 oM (BM.1, BM.2.1, BM.2.2.1, BM.2.2.2.1, BM.2.2.2.2.1, BM.2.2.2.2.2.1, BM.2.2.2.2.2.2.1, BM.2.2.2.2.2.2.2.1, BM.2.2.2.2.2.2.2.2.1, BM.2.2.2.2.2.2.2.2.2.1, BM.2.2.2.2.2.2.2.2.2.2.1, BM.2.2.2.2.2.2.2.2.2.2.2.1, BM.2.2.2.2.2.2.2.2.2.2.2.2.1, BM.2.2.2.2.2.2.2.2.2.2.2.2.2.1, BM.2.2.2.2.2.2.2.2.2.2.2.2.2.2.1, BM.2.2.2.2.2.2.2.2.2.2.2.2.2.2.2.1, BM.2.2.2.2.2.2.2.2.2.2.2.2.2.2.2.2)) [.ref oM.1, .int p1, .int p2, .int p3] none (zwM c3.1 c3.2.2 oM (Ms', BM.2.1, BM.2.2.1, BM.2.2.2.1, BM.2.2.2.2.1, BM.2.2.2.2.2.1, BM.2.2.2.2.2.2.1, BM.2.2.2.2.2.2.2.1, BM.2.2.2.2.2.2.2.2.1, BM.2.2.2.2.2.2.2.2.2.1, BM.2.2.2.2.2.2.2.2.2.2.1, BM.2.2.2.2.2.2.2.2.2.2.2.1, BM.2.2.2.2.2.2.2.2.2.2.2.2.1, BM.2.2.2.2.2.2.2.2.2.2.2.2.2.1, BM.2.2.2.2.2.2.2.2.2.2.2.2.2.2.1, BM.2.2.2.2.2.2.2.2.2.2.2.2.2.2.2.1, BM.2.2.2.2.2.2.2.2.2.2.2.2.2.2.2.2)) := by
  obtain ⟨Ms, Mas, Mpa, Mkn, Mke, Mik, Mpp, Mle, Mso, Mfz, Msp, Mfo, Mrd, Mrs, Mlt, Mfi, Mse⟩ := BM
  have hf : f_X6_begins Ms p1 p2 p3 = some (Ms') := hf
  show zM l yX6_begins wsX6_begins ⟨3, 0, 0, 65⟩ G c3 (zwM c3.1 c3.2.2 oM (Ms, Mas, Mpa, Mkn, Mke, Mik, Mpp, Mle, Mso, Mfz, Msp, Mfo, Mrd, Mrs, Mlt, Mfi, Mse)) [.ref oM.1, .int p1, .int p2, .int p3] none (zwM c3.1 c3.2.2 oM (Ms', Mas, Mpa, Mkn, Mke, Mik, Mpp, Mle, Mso, Mfz, Msp, Mfo, Mrd, Mrs, Mlt, Mfi, Mse))
  refine zM.of (cc := cX6_begins) (maxL := 5) (ret := none) (by decide) rfl (Nat.le_of_ble_eq_true rfl) ?_
  intro p e s m args below meth c A ls S0 hr hlk hC hl
  have S0 : CallFix p m c cX6_begins 5 s args wsX6_begins RX6 := S0
  have hl : lv_has ls 5 [(0, .ref oM.1), (1, .int p1), (2, .int p2), (3, .int p3)] := hl
  have hx := S0.1
  have hb := S0.2.1
  obtain ⟨H, hH⟩ : ∃ y, y = s.heap := ⟨_, rfl⟩
  rw [← hH] at hC ⊢
  obtain ⟨locs, hlo⟩ : ∃ y : List Loc, y = [] := ⟨_, rfl⟩
  rw [← hlo] at hC ⊢
  clear hH hlo
  unfold f_X6_begins at hf
  refine lv_aload_n hx hb dX6_begins_0 rfl (lv_at hl 0 rfl) ?_
  refine lv_aload_n hx hb dX6_begins_1 rfl (lv_at hl 0 rfl) ?_
  refine lv_iload_n hx hb dX6_begins_2 rfl (lv_at hl 1 rfl) ?_
  refine lv_iconst (v := 4) hx hb dX6_begins_3 (by decide) ?_
  obtain ⟨r1, hr1, hf⟩ := z_bind hf
  refine z_callPi (z_runV (n := 2) (rest := [.ref oM.1]) (As := [.int p1, .int 4]) S0 hC (c_X6_ofZone l G c3 oM (Ms, Mas, Mpa, Mkn, Mke, Mik, Mpp, Mle, Mso, Mfz, Msp, Mfo, Mrd, Mrs, Mlt, Mfi, Mse) p1 4 hr1) [0, 1, 2, 3, 4, 5, 6, 7] (by decide) rfl gX6_begins_X6_ofZone rfl rfl rfl (by decide +kernel) ⟨Nat.le_of_ble_eq_true rfl, Nat.le_of_ble_eq_true rfl⟩ (ci := 6) (q0 := 0) rfl rfl rfl hl.1 rfl (Nat.le_of_ble_eq_true rfl) dX6_begins_4) hC [0, 1, 2, 3, 4, 5, 6, 7] rfl (fun H locs hC => ?_)
  obtain ⟨r2, hr2, hf⟩ := z_bind hf
  refine z_callv (z_runV (n := 1) (rest := []) (As := [.int r1]) S0 hC (c_X6_chokes l G c3 oM (Ms, Mas, Mpa, Mkn, Mke, Mik, Mpp, Mle, Mso, Mfz, Msp, Mfo, Mrd, Mrs, Mlt, Mfi, Mse) r1 hr2) [0, 1, 2, 3, 4, 5, 6, 7] (by decide) rfl gX6_begins_X6_chokes rfl rfl rfl (by decide +kernel) ⟨Nat.le_of_ble_eq_true rfl, Nat.le_of_ble_eq_true rfl⟩ (ci := 6) (q0 := 0) rfl rfl rfl hl.1 rfl (Nat.le_of_ble_eq_true rfl) dX6_begins_7) hC [0, 1, 2, 3, 4, 5, 6, 7] [] [0, 1, 2, 3, 4, 5, 6, 7] rfl (wr := ([] : va_W)) rfl (by decide) (by decide) (ws2 := (zwM c3.1 c3.2.2 oM (r2, Mas, Mpa, Mkn, Mke, Mik, Mpp, Mle, Mso, Mfz, Msp, Mfo, Mrd, Mrs, Mlt, Mfi, Mse))) rfl (by decide) (fun H locs hC => ?_)
  refine lv_aload_n hx hb dX6_begins_10 rfl (lv_at hl 0 rfl) ?_
  refine z_get S0 hC (ci := 6) (C := RX6) (T := TX6) (N := 17) (v := .ref oM.2.1) jX6_begins_X6 0 rfl rfl 0 (by decide) kX6_begins_7 rfl rfl dX6_begins_11 ?_
  refine lv_iconst (v := 1) hx hb dX6_begins_14 (by decide) ?_
  obtain ⟨x3, hx3, hf⟩ := z_bind hf
  refine z_iald S0 hC 1 rfl hx3 dX6_begins_15 ?_
  refine lv_aload_n hx hb dX6_begins_16 rfl (lv_at hl 0 rfl) ?_
  refine z_get S0 hC (ci := 6) (C := RX6) (T := TX6) (N := 17) (v := .ref oM.2.1) jX6_begins_X6 0 rfl rfl 0 (by decide) kX6_begins_7 rfl rfl dX6_begins_17 ?_
  refine lv_bipush (v := 9) hx hb dX6_begins_20 (by decide) ?_
  obtain ⟨x4, hx4, hf⟩ := z_bind hf
  refine z_iald S0 hC 1 rfl hx4 dX6_begins_22 ?_
  obtain ⟨t6, ht6, hf⟩ := z_bind hf
  have Jt6 : ∀ (H : Heap) (locs : List Loc) (ls : Array Slot), zC G c3 A s (zwM c3.1 c3.2.2 oM (t6, Mas, Mpa, Mkn, Mke, Mik, Mpp, Mle, Mso, Mfz, Msp, Mfo, Mrd, Mrs, Mlt, Mfi, Mse)) H locs → lv_has ls 5 [(0, .ref oM.1), (1, .int p1), (2, .int p2), (3, .int p3)] → W p l e ⟨3, 0, 0, 65⟩ s m args below meth c H locs 0 0 (MQ below (zPost G (zwM c3.1 c3.2.2 oM (Ms', Mas, Mpa, Mkn, Mke, Mik, Mpp, Mle, Mso, Mfz, Msp, Mfo, Mrd, Mrs, Mlt, Mfi, Mse)) none A) args s 0 0 A) (F0 m 30 ls []) := by
    intro H locs ls hC hl
    refine lv_aload_n hx hb dX6_begins_30 rfl (lv_at hl 0 rfl) ?_
    refine z_get S0 hC (ci := 6) (C := RX6) (T := TX6) (N := 17) (v := .ref oM.2.1) jX6_begins_X6 0 rfl rfl 0 (by decide) kX6_begins_7 rfl rfl dX6_begins_31 ?_
    refine lv_iconst (v := 1) hx hb dX6_begins_34 (by decide) ?_
    obtain ⟨x7, hx7, hf⟩ := z_bind hf
    refine z_iald S0 hC 1 rfl hx7 dX6_begins_35 ?_
    refine lv_istore (lv' := [(4, .int x7), (0, .ref oM.1), (1, .int p1), (2, .int p2), (3, .int p3)]) hx hb dX6_begins_36 hl (by decide) rfl (fun ls hl => ?_)
    refine lv_aload_n hx hb dX6_begins_38 rfl (lv_at hl 1 rfl) ?_
    refine lv_iload hx hb dX6_begins_39 (lv_at hl 0 rfl) ?_
    refine lv_iconst (v := 0) hx hb dX6_begins_41 (by decide) ?_
    refine lv_iload_n hx hb dX6_begins_42 rfl (lv_at hl 2 rfl) ?_
    obtain ⟨r8, hr8, hf⟩ := z_bind hf
    refine z_callv (z_runV (n := 3) (rest := []) (As := [.int x7, .int 0, .int p1]) S0 hC (c_X6_lays l G c3 oM (t6, Mas, Mpa, Mkn, Mke, Mik, Mpp, Mle, Mso, Mfz, Msp, Mfo, Mrd, Mrs, Mlt, Mfi, Mse) x7 0 p1 hr8) [0, 1, 2, 3, 4, 5, 6, 7] (by decide) rfl gX6_begins_X6_lays rfl rfl rfl (by decide +kernel) ⟨Nat.le_of_ble_eq_true rfl, Nat.le_of_ble_eq_true rfl⟩ (ci := 6) (q0 := 0) rfl rfl rfl hl.1 rfl (Nat.le_of_ble_eq_true rfl) dX6_begins_43) hC [0, 1, 2, 3, 4, 5, 6, 7] [] [0, 1, 2, 3, 4, 5, 6, 7] rfl (wr := ([] : va_W)) rfl (by decide) (by decide) (ws2 := (zwM c3.1 c3.2.2 oM (r8, Mas, Mpa, Mkn, Mke, Mik, Mpp, Mle, Mso, Mfz, Msp, Mfo, Mrd, Mrs, Mlt, Mfi, Mse))) rfl (by decide) (fun H locs hC => ?_)
    refine lv_aload_n hx hb dX6_begins_46 rfl (lv_at hl 1 rfl) ?_
    refine lv_iload hx hb dX6_begins_47 (lv_at hl 0 rfl) ?_
    refine lv_iconst (v := 1) hx hb dX6_begins_49 (by decide) ?_
    refine lv_iload_n hx hb dX6_begins_50 rfl (lv_at hl 3 rfl) ?_
    obtain ⟨r9, hr9, hf⟩ := z_bind hf
    refine z_callv (z_runV (n := 3) (rest := []) (As := [.int x7, .int 1, .int p2]) S0 hC (c_X6_lays l G c3 oM (r8, Mas, Mpa, Mkn, Mke, Mik, Mpp, Mle, Mso, Mfz, Msp, Mfo, Mrd, Mrs, Mlt, Mfi, Mse) x7 1 p2 hr9) [0, 1, 2, 3, 4, 5, 6, 7] (by decide) rfl gX6_begins_X6_lays rfl rfl rfl (by decide +kernel) ⟨Nat.le_of_ble_eq_true rfl, Nat.le_of_ble_eq_true rfl⟩ (ci := 6) (q0 := 0) rfl rfl rfl hl.1 rfl (Nat.le_of_ble_eq_true rfl) dX6_begins_51) hC [0, 1, 2, 3, 4, 5, 6, 7] [] [0, 1, 2, 3, 4, 5, 6, 7] rfl (wr := ([] : va_W)) rfl (by decide) (by decide) (ws2 := (zwM c3.1 c3.2.2 oM (r9, Mas, Mpa, Mkn, Mke, Mik, Mpp, Mle, Mso, Mfz, Msp, Mfo, Mrd, Mrs, Mlt, Mfi, Mse))) rfl (by decide) (fun H locs hC => ?_)
    refine lv_aload_n hx hb dX6_begins_54 rfl (lv_at hl 1 rfl) ?_
    refine lv_iload hx hb dX6_begins_55 (lv_at hl 0 rfl) ?_
    refine lv_iconst (v := 2) hx hb dX6_begins_57 (by decide) ?_
    refine lv_iload_n hx hb dX6_begins_58 rfl (lv_at hl 4 rfl) ?_
    obtain ⟨r10, hr10, hf⟩ := z_bind hf
    refine z_callv (z_runV (n := 3) (rest := []) (As := [.int x7, .int 2, .int p3]) S0 hC (c_X6_lays l G c3 oM (r9, Mas, Mpa, Mkn, Mke, Mik, Mpp, Mle, Mso, Mfz, Msp, Mfo, Mrd, Mrs, Mlt, Mfi, Mse) x7 2 p3 hr10) [0, 1, 2, 3, 4, 5, 6, 7] (by decide) rfl gX6_begins_X6_lays rfl rfl rfl (by decide +kernel) ⟨Nat.le_of_ble_eq_true rfl, Nat.le_of_ble_eq_true rfl⟩ (ci := 6) (q0 := 0) rfl rfl rfl hl.1 rfl (Nat.le_of_ble_eq_true rfl) dX6_begins_59) hC [0, 1, 2, 3, 4, 5, 6, 7] [] [0, 1, 2, 3, 4, 5, 6, 7] rfl (wr := ([] : va_W)) rfl (by decide) (by decide) (ws2 := (zwM c3.1 c3.2.2 oM (r10, Mas, Mpa, Mkn, Mke, Mik, Mpp, Mle, Mso, Mfz, Msp, Mfo, Mrd, Mrs, Mlt, Mfi, Mse))) rfl (by decide) (fun H locs hC => ?_)
    refine lv_aload_n hx hb dX6_begins_62 rfl (lv_at hl 1 rfl) ?_
    refine lv_iload hx hb dX6_begins_63 (lv_at hl 0 rfl) ?_
    refine lv_iconst (v := 3) hx hb dX6_begins_65 (by decide) ?_
    refine lv_bipush (v := 10) hx hb dX6_begins_66 (by decide) ?_
    refine lv_iload_n hx hb dX6_begins_68 rfl (lv_at hl 4 rfl) ?_
    refine lv_imul hx hb dX6_begins_69 ?_
    obtain ⟨r11, hr11, hf⟩ := z_bind hf
    refine z_callv (z_runV (n := 3) (rest := []) (As := [.int x7, .int 3, .int (10 * p3)]) S0 hC (c_X6_lays l G c3 oM (r10, Mas, Mpa, Mkn, Mke, Mik, Mpp, Mle, Mso, Mfz, Msp, Mfo, Mrd, Mrs, Mlt, Mfi, Mse) x7 3 (10 * p3) hr11) [0, 1, 2, 3, 4, 5, 6, 7] (by decide) rfl gX6_begins_X6_lays rfl rfl rfl (by decide +kernel) ⟨Nat.le_of_ble_eq_true rfl, Nat.le_of_ble_eq_true rfl⟩ (ci := 6) (q0 := 0) rfl rfl rfl hl.1 rfl (Nat.le_of_ble_eq_true rfl) dX6_begins_70) hC [0, 1, 2, 3, 4, 5, 6, 7] [] [0, 1, 2, 3, 4, 5, 6, 7] rfl (wr := ([] : va_W)) rfl (by decide) (by decide) (ws2 := (zwM c3.1 c3.2.2 oM (r11, Mas, Mpa, Mkn, Mke, Mik, Mpp, Mle, Mso, Mfz, Msp, Mfo, Mrd, Mrs, Mlt, Mfi, Mse))) rfl (by decide) (fun H locs hC => ?_)
    refine lv_aload_n hx hb dX6_begins_73 rfl (lv_at hl 1 rfl) ?_
    refine lv_iload hx hb dX6_begins_74 (lv_at hl 0 rfl) ?_
    refine lv_iconst (v := 4) hx hb dX6_begins_76 (by decide) ?_
    refine lv_iconst (v := 0) hx hb dX6_begins_77 (by decide) ?_
    obtain ⟨r12, hr12, hf⟩ := z_bind hf
    refine z_callv (z_runV (n := 3) (rest := []) (As := [.int x7, .int 4, .int 0]) S0 hC (c_X6_lays l G c3 oM (r11, Mas, Mpa, Mkn, Mke, Mik, Mpp, Mle, Mso, Mfz, Msp, Mfo, Mrd, Mrs, Mlt, Mfi, Mse) x7 4 0 hr12) [0, 1, 2, 3, 4, 5, 6, 7] (by decide) rfl gX6_begins_X6_lays rfl rfl rfl (by decide +kernel) ⟨Nat.le_of_ble_eq_true rfl, Nat.le_of_ble_eq_true rfl⟩ (ci := 6) (q0 := 0) rfl rfl rfl hl.1 rfl (Nat.le_of_ble_eq_true rfl) dX6_begins_78) hC [0, 1, 2, 3, 4, 5, 6, 7] [] [0, 1, 2, 3, 4, 5, 6, 7] rfl (wr := ([] : va_W)) rfl (by decide) (by decide) (ws2 := (zwM c3.1 c3.2.2 oM (r12, Mas, Mpa, Mkn, Mke, Mik, Mpp, Mle, Mso, Mfz, Msp, Mfo, Mrd, Mrs, Mlt, Mfi, Mse))) rfl (by decide) (fun H locs hC => ?_)
    refine lv_aload_n hx hb dX6_begins_81 rfl (lv_at hl 1 rfl) ?_
    refine lv_iload hx hb dX6_begins_82 (lv_at hl 0 rfl) ?_
    refine lv_iconst (v := 5) hx hb dX6_begins_84 (by decide) ?_
    refine lv_iconst (v := 0) hx hb dX6_begins_85 (by decide) ?_
    obtain ⟨r13, hr13, hf⟩ := z_bind hf
    refine z_callv (z_runV (n := 3) (rest := []) (As := [.int x7, .int 5, .int 0]) S0 hC (c_X6_lays l G c3 oM (r12, Mas, Mpa, Mkn, Mke, Mik, Mpp, Mle, Mso, Mfz, Msp, Mfo, Mrd, Mrs, Mlt, Mfi, Mse) x7 5 0 hr13) [0, 1, 2, 3, 4, 5, 6, 7] (by decide) rfl gX6_begins_X6_lays rfl rfl rfl (by decide +kernel) ⟨Nat.le_of_ble_eq_true rfl, Nat.le_of_ble_eq_true rfl⟩ (ci := 6) (q0 := 0) rfl rfl rfl hl.1 rfl (Nat.le_of_ble_eq_true rfl) dX6_begins_86) hC [0, 1, 2, 3, 4, 5, 6, 7] [] [0, 1, 2, 3, 4, 5, 6, 7] rfl (wr := ([] : va_W)) rfl (by decide) (by decide) (ws2 := (zwM c3.1 c3.2.2 oM (r13, Mas, Mpa, Mkn, Mke, Mik, Mpp, Mle, Mso, Mfz, Msp, Mfo, Mrd, Mrs, Mlt, Mfi, Mse))) rfl (by decide) (fun H locs hC => ?_)
    refine lv_aload_n hx hb dX6_begins_89 rfl (lv_at hl 1 rfl) ?_
    refine lv_iload hx hb dX6_begins_90 (lv_at hl 0 rfl) ?_
    refine lv_bipush (v := 6) hx hb dX6_begins_92 (by decide) ?_
    refine lv_iconst (v := 1) hx hb dX6_begins_94 (by decide) ?_
    obtain ⟨r14, hr14, hf⟩ := z_bind hf
    refine z_callv (z_runV (n := 3) (rest := []) (As := [.int x7, .int 6, .int 1]) S0 hC (c_X6_lays l G c3 oM (r13, Mas, Mpa, Mkn, Mke, Mik, Mpp, Mle, Mso, Mfz, Msp, Mfo, Mrd, Mrs, Mlt, Mfi, Mse) x7 6 1 hr14) [0, 1, 2, 3, 4, 5, 6, 7] (by decide) rfl gX6_begins_X6_lays rfl rfl rfl (by decide +kernel) ⟨Nat.le_of_ble_eq_true rfl, Nat.le_of_ble_eq_true rfl⟩ (ci := 6) (q0 := 0) rfl rfl rfl hl.1 rfl (Nat.le_of_ble_eq_true rfl) dX6_begins_95) hC [0, 1, 2, 3, 4, 5, 6, 7] [] [0, 1, 2, 3, 4, 5, 6, 7] rfl (wr := ([] : va_W)) rfl (by decide) (by decide) (ws2 := (zwM c3.1 c3.2.2 oM (r14, Mas, Mpa, Mkn, Mke, Mik, Mpp, Mle, Mso, Mfz, Msp, Mfo, Mrd, Mrs, Mlt, Mfi, Mse))) rfl (by decide) (fun H locs hC => ?_)
    refine lv_aload_n hx hb dX6_begins_98 rfl (lv_at hl 1 rfl) ?_
    refine z_get S0 hC (ci := 6) (C := RX6) (T := TX6) (N := 17) (v := .ref oM.2.1) jX6_begins_X6 0 rfl rfl 0 (by decide) kX6_begins_7 rfl rfl dX6_begins_99 ?_
    refine lv_iconst (v := 1) hx hb dX6_begins_102 (by decide) ?_
    refine lv_dup2_11 hx hb dX6_begins_103 rfl rfl ?_
    obtain ⟨x15, hx15, hf⟩ := z_bind hf
    refine z_iald S0 hC 1 rfl hx15 dX6_begins_104 ?_
    refine lv_iconst (v := 1) hx hb dX6_begins_105 (by decide) ?_
    refine lv_iadd hx hb dX6_begins_106 ?_
    obtain ⟨g16, hg16, hf⟩ := z_bind hf
    refine z_iast S0 hC 1 rfl hg16 dX6_begins_107 (ws2 := (zwM c3.1 c3.2.2 oM (g16, Mas, Mpa, Mkn, Mke, Mik, Mpp, Mle, Mso, Mfz, Msp, Mfo, Mrd, Mrs, Mlt, Mfi, Mse))) rfl (fun H locs hC => ?_)
    refine lv_aload_n hx hb dX6_begins_108 rfl (lv_at hl 1 rfl) ?_
    refine z_get S0 hC (ci := 6) (C := RX6) (T := TX6) (N := 17) (v := .ref oM.2.1) jX6_begins_X6 0 rfl rfl 0 (by decide) kX6_begins_7 rfl rfl dX6_begins_109 ?_
    refine lv_iconst (v := 4) hx hb dX6_begins_112 (by decide) ?_
    refine lv_dup2_11 hx hb dX6_begins_113 rfl rfl ?_
    obtain ⟨x17, hx17, hf⟩ := z_bind hf
    refine z_iald S0 hC 1 rfl hx17 dX6_begins_114 ?_
    refine lv_iconst (v := 1) hx hb dX6_begins_115 (by decide) ?_
    refine lv_iadd hx hb dX6_begins_116 ?_
    obtain ⟨g18, hg18, hf⟩ := z_bind hf
    refine z_iast S0 hC 1 rfl hg18 dX6_begins_117 (ws2 := (zwM c3.1 c3.2.2 oM (g18, Mas, Mpa, Mkn, Mke, Mik, Mpp, Mle, Mso, Mfz, Msp, Mfo, Mrd, Mrs, Mlt, Mfi, Mse))) rfl (fun H locs hC => ?_)
    have e1 := z_s1 hf
    subst e1
    exact z_vret S0 hr hlk hC dX6_begins_118
  refine lv_icmp_lt (tgt := 30) hx hb dX6_begins_23 (by decide) (fun cd5 => ?_) (fun cd5 => ?_)
  · replace ht6 := z_pos cd5 ht6
    have e1 := z_s1 ht6
    subst e1
    exact Jt6 H locs ls hC (lv_sub hl [0, 1, 2, 3] rfl)
  · replace ht6 := z_neg cd5 ht6
    refine lv_aload_n hx hb dX6_begins_26 rfl (lv_at hl 0 rfl) ?_
    obtain ⟨r19, hr19, ht6⟩ := z_bind ht6
    refine z_callv (z_runV (n := 0) (rest := []) (As := []) S0 hC (c_X6_steals l G c3 oM (r2, Mas, Mpa, Mkn, Mke, Mik, Mpp, Mle, Mso, Mfz, Msp, Mfo, Mrd, Mrs, Mlt, Mfi, Mse) hr19) [0, 1, 2, 3, 4, 5, 6, 7] (by decide) rfl gX6_begins_X6_steals rfl rfl rfl (by decide +kernel) ⟨Nat.le_of_ble_eq_true rfl, Nat.le_of_ble_eq_true rfl⟩ (ci := 6) (q0 := 0) rfl rfl rfl hl.1 rfl (Nat.le_of_ble_eq_true rfl) dX6_begins_27) hC [0, 1, 2, 3, 4, 5, 6, 7] [] [0, 1, 2, 3, 4, 5, 6, 7] rfl (wr := ([] : va_W)) rfl (by decide) (by decide) (ws2 := (zwM c3.1 c3.2.2 oM (r19, Mas, Mpa, Mkn, Mke, Mik, Mpp, Mle, Mso, Mfz, Msp, Mfo, Mrd, Mrs, Mlt, Mfi, Mse))) rfl (by decide) (fun H locs hC => ?_)
    have e1 := z_s1 ht6
    subst e1
    exact Jt6 H locs ls hC (lv_sub hl [0, 1, 2, 3] rfl)

-- X6 goHit
def f_X6_goHit_2 (y1 : Int32) : Nat → Int32 → (Nat → Int32) → Option (Int32 × (Nat → Int32))
  | 0, _, _ => none
  | fu + 1, y3, Ms =>
    (zald 150 Ms 1).bind fun x2 => if x2 ≤ y3 then
      some (y3, Ms)
    else
      (f_X6_of Ms y3 1).bind fun r4 => Option.bind (α := Int32) (
        if r4 = y1 then
          (f_X6_of Ms y3 5).bind fun r11 => if r11 = 0 then
            some (1)
          else
            some (0)
        else
          some (0)
      ) fun t6 =>
        Option.bind (α := Int32) (
          if t6 = 0 then
            (f_X6_of Ms y3 5).bind fun r10 => some (r10)
          else
            some (2)
        ) fun t8 =>
          (f_X6_lays Ms y3 5 t8).bind fun r9 => f_X6_goHit_2 y1 fu (y3 + 1) r9

theorem f_X6_goHit_2_s (y1 : Int32) (y3 : Int32) (Ms : (Nat → Int32)) (fu : Nat) : f_X6_goHit_2 y1 (fu + 1) y3 Ms = (
    (zald 150 Ms 1).bind fun x2 => if x2 ≤ y3 then
      some (y3, Ms)
    else
      (f_X6_of Ms y3 1).bind fun r4 => Option.bind (α := Int32) (
        if r4 = y1 then
          (f_X6_of Ms y3 5).bind fun r11 => if r11 = 0 then
            some (1)
          else
            some (0)
        else
          some (0)
      ) fun t6 =>
        Option.bind (α := Int32) (
          if t6 = 0 then
            (f_X6_of Ms y3 5).bind fun r10 => some (r10)
          else
            some (2)
        ) fun t8 =>
          (f_X6_lays Ms y3 5 t8).bind fun r9 => f_X6_goHit_2 y1 fu (y3 + 1) r9
    ) := rfl

def f_X6_goHit_80 (y1 : Int32) (y2 : Int32) (Ms : (Nat → Int32)) : Nat → Int32 → (Nat → Int32) → Int32 → Option (Int32 × (Nat → Int32) × Int32)
  | 0, _, _, _ => none
  | fu + 1, y3, Mso, Mfz =>
    if y3 < 0 then
      some (y3, Mso, Mfz)
    else
      (f_X6_isSounding Ms y3 y1 y2).bind fun r17 => (zbool r17).bind fun _ => (zast 10 Mso y3 r17).bind fun g19 => (zald 10 g19 y3).bind fun x20 => Option.bind (α := Int32) (
        if x20 = 0 then
          some (Mfz)
        else
          some (y3)
      ) fun t22 =>
        f_X6_goHit_80 y1 y2 Ms fu (y3 + (-1)) g19 t22

theorem f_X6_goHit_80_s (y1 : Int32) (y2 : Int32) (Ms : (Nat → Int32)) (y3 : Int32) (Mso : (Nat → Int32)) (Mfz : Int32) (fu : Nat) : f_X6_goHit_80 y1 y2 Ms (fu + 1) y3 Mso Mfz = (
    if y3 < 0 then
      some (y3, Mso, Mfz)
    else
      (f_X6_isSounding Ms y3 y1 y2).bind fun r17 => (zbool r17).bind fun _ => (zast 10 Mso y3 r17).bind fun g19 => (zald 10 g19 y3).bind fun x20 => Option.bind (α := Int32) (
        if x20 = 0 then
          some (Mfz)
        else
          some (y3)
      ) fun t22 =>
        f_X6_goHit_80 y1 y2 Ms fu (y3 + (-1)) g19 t22
    ) := rfl

def f_X6_goHit_126 (y1 : Int32) (y2 : Int32) : Nat → Int32 → (Nat → Int32) → Option (Int32 × (Nat → Int32))
  | 0, _, _ => none
  | fu + 1, y3, Ms =>
    if 5 ≤ y3 then
      some (y3, Ms)
    else
      (zald 150 Ms ((12 + y3) - 1)).bind fun x26 => (zald 150 Ms 0).bind fun x27 => (f_X6_ofRobin Ms y3 x27 y1 y2).bind fun r28 => Option.bind (α := Int32) (
        if r28 ≤ 0 then
          some (0)
        else
          some (1)
      ) fun t30 =>
        (zast 150 Ms ((12 + y3) - 1) (x26 + t30)).bind fun g31 => f_X6_goHit_126 y1 y2 fu (y3 + 1) g31

theorem f_X6_goHit_126_s (y1 : Int32) (y2 : Int32) (y3 : Int32) (Ms : (Nat → Int32)) (fu : Nat) : f_X6_goHit_126 y1 y2 (fu + 1) y3 Ms = (
    if 5 ≤ y3 then
      some (y3, Ms)
    else
      (zald 150 Ms ((12 + y3) - 1)).bind fun x26 => (zald 150 Ms 0).bind fun x27 => (f_X6_ofRobin Ms y3 x27 y1 y2).bind fun r28 => Option.bind (α := Int32) (
        if r28 ≤ 0 then
          some (0)
        else
          some (1)
      ) fun t30 =>
        (zast 150 Ms ((12 + y3) - 1) (x26 + t30)).bind fun g31 => f_X6_goHit_126 y1 y2 fu (y3 + 1) g31
    ) := rfl

def f_X6_goHit_177 (y1 : Int32) (y2 : Int32) (Mso : (Nat → Int32)) : Nat → Int32 → Int32 → (Nat → Int32) → Option (Int32 × Int32 × (Nat → Int32))
  | 0, _, _, _ => none
  | fu + 1, y3, y4, Ms =>
    (zald 150 Ms 0).bind fun x34 => if x34 ≤ y4 then
      some (y3, y4, Ms)
    else
      (zald 10 Mso y4).bind fun x36 => Option.bind (α := Int32 × (Nat → Int32)) (
        if x36 = 0 then
          some (y3, Ms)
        else
          (f_X6_begins Ms y4 y1 y2).bind fun r39 => some ((y3 + 1), r39)
      ) fun t38 =>
        f_X6_goHit_177 y1 y2 Mso fu t38.1 (y4 + 1) t38.2

theorem f_X6_goHit_177_s (y1 : Int32) (y2 : Int32) (Mso : (Nat → Int32)) (y3 : Int32) (y4 : Int32) (Ms : (Nat → Int32)) (fu : Nat) : f_X6_goHit_177 y1 y2 Mso (fu + 1) y3 y4 Ms = (
    (zald 150 Ms 0).bind fun x34 => if x34 ≤ y4 then
      some (y3, y4, Ms)
    else
      (zald 10 Mso y4).bind fun x36 => Option.bind (α := Int32 × (Nat → Int32)) (
        if x36 = 0 then
          some (y3, Ms)
        else
          (f_X6_begins Ms y4 y1 y2).bind fun r39 => some ((y3 + 1), r39)
      ) fun t38 =>
        f_X6_goHit_177 y1 y2 Mso fu t38.1 (y4 + 1) t38.2
    ) := rfl

def f_X6_goHit_218 (y3 : Int32) : Nat → Int32 → (Nat → Int32) → Option (Int32 × (Nat → Int32))
  | 0, _, _ => none
  | fu + 1, y4, Ms =>
    (zald 150 Ms 1).bind fun x42 => if x42 ≤ y4 then
      some (y4, Ms)
    else
      (f_X6_lays Ms y4 6 0).bind fun r44 => f_X6_goHit_218 y3 fu (y4 + 1) r44

theorem f_X6_goHit_218_s (y3 : Int32) (y4 : Int32) (Ms : (Nat → Int32)) (fu : Nat) : f_X6_goHit_218 y3 (fu + 1) y4 Ms = (
    (zald 150 Ms 1).bind fun x42 => if x42 ≤ y4 then
      some (y4, Ms)
    else
      (f_X6_lays Ms y4 6 0).bind fun r44 => f_X6_goHit_218 y3 fu (y4 + 1) r44
    ) := rfl

def f_X6_goHit (Ms : (Nat → Int32)) (Mso : (Nat → Int32)) (Mfz : Int32) (p1 : Int32) (p2 : Int32) : Option (Int32 × (Nat → Int32) × (Nat → Int32) × Int32) :=
  (f_X6_goHit_2 p1 zF 0 Ms).bind fun t13 =>
    (zald 150 t13.2 0).bind fun x14 => (f_X6_goHit_80 p1 p2 t13.2 zF (x14 - 1) Mso (-4)).bind fun t23 =>
      (f_X6_goHit_126 p1 p2 zF 1 t13.2).bind fun t32 =>
        (f_X6_goHit_177 p1 p2 t23.2.1 zF 0 0 t32.2).bind fun t40 =>
          (f_X6_goHit_218 t40.1 zF 0 t40.2.2).bind fun t45 =>
            some (t40.1, t45.2, t23.2.1, t23.2.2)

theorem kX6_goHit_7 : Cond.fieldLink RX6 7 "ZoneSamplerModel" "s" "[I" ∈ wsX6_goHit := by decide +kernel
theorem kX6_goHit_76 : Cond.fieldLink RX6 76 "ZoneSamplerModel" "firstZone" "I" ∈ wsX6_goHit := by decide +kernel
theorem kX6_goHit_25 : Cond.fieldLink RX6 25 "ZoneSamplerModel" "sounds" "[Z" ∈ wsX6_goHit := by decide +kernel
theorem jX6_goHit_X6 : ∀ w ∈ u_ws RX6 TX6 17, w ∈ wsX6_goHit := by decide +kernel
set_option maxHeartbeats 4000000 in
set_option maxRecDepth 100000 in
theorem c_X6_goHit (l : Launch) (G : va_G) (c3 : zT3) (oM : zR8) (BM : zMd) (p1 : Int32) (p2 : Int32) {r : Int32} {Ms' : (Nat → Int32)} {Mso' : (Nat → Int32)} {Mfz' : Int32} (hf : f_X6_goHit BM.1 BM.2.2.2.2.2.2.2.2.1 BM.2.2.2.2.2.2.2.2.2.1 p1 p2 = some (r, Ms', Mso', Mfz')) : zM l yX6_goHit wsX6_goHit ⟨4, 0, 0, 96⟩ G c3 (zwM c3.1 c3.2.2 oM (BM.1, BM.2.1, BM.2.2.1, BM.2.2.2.1, BM.2.2.2.2.1, BM.2.2.2.2.2.1, BM.2.2.2.2.2.2.1, BM.2.2.2.2.2.2.2.1, BM.2.2.2.2.2.2.2.2.1, BM.2.2.2.2.2.2.2.2.2.1, BM.2.2.2.2.2.2.2.2.2.2.1, BM.2.2.2.2.2.2.2.2.2.2.2.1, BM.2.2.2.2.2.2.2.2.2.2.2.2.1, BM.2.2.2.2.2.2.2.2.2.2.2.2.2.1, BM.2.2.2.2.2.2.2.2.2.2.2.2.2.2.1, BM.2.2.2.2.2.2.2.2.2.2.2.2.2.2.2.1, BM.2.2.2.2.2.2.2.2.2.2.2.2.2.2.2.2)) [.ref oM.1, .int p1, .int p2] (some (.int r)) (zwM c3.1 c3.2.2 oM (Ms', BM.2.1, BM.2.2.1, BM.2.2.2.1, BM.2.2.2.2.1, BM.2.2.2.2.2.1, BM.2.2.2.2.2.2.1, BM.2.2.2.2.2.2.2.1, Mso', Mfz', BM.2.2.2.2.2.2.2.2.2.2.1, BM.2.2.2.2.2.2.2.2.2.2.2.1, BM.2.2.2.2.2.2.2.2.2.2.2.2.1, BM.2.2.2.2.2.2.2.2.2.2.2.2.2.1, BM.2.2.2.2.2.2.2.2.2.2.2.2.2.2.1, BM.2.2.2.2.2.2.2.2.2.2.2.2.2.2.2.1, BM.2.2.2.2.2.2.2.2.2.2.2.2.2.2.2.2)) := by
  obtain ⟨Ms, Mas, Mpa, Mkn, Mke, Mik, Mpp, Mle, Mso, Mfz, Msp, Mfo, Mrd, Mrs, Mlt, Mfi, Mse⟩ := BM
  have hf : f_X6_goHit Ms Mso Mfz p1 p2 = some (r, Ms', Mso', Mfz') := hf
  show zM l yX6_goHit wsX6_goHit ⟨4, 0, 0, 96⟩ G c3 (zwM c3.1 c3.2.2 oM (Ms, Mas, Mpa, Mkn, Mke, Mik, Mpp, Mle, Mso, Mfz, Msp, Mfo, Mrd, Mrs, Mlt, Mfi, Mse)) [.ref oM.1, .int p1, .int p2] (some (.int r)) (zwM c3.1 c3.2.2 oM (Ms', Mas, Mpa, Mkn, Mke, Mik, Mpp, Mle, Mso', Mfz', Msp, Mfo, Mrd, Mrs, Mlt, Mfi, Mse))
  refine zM.of (cc := cX6_goHit) (maxL := 5) (ret := (some .int)) (by decide) rfl (Nat.le_of_ble_eq_true rfl) ?_
  intro p e s m args below meth c A ls S0 hr hlk hC hl
  have S0 : CallFix p m c cX6_goHit 5 s args wsX6_goHit RX6 := S0
  have hl : lv_has ls 5 [(0, .ref oM.1), (1, .int p1), (2, .int p2)] := hl
  have hx := S0.1
  have hb := S0.2.1
  obtain ⟨H, hH⟩ : ∃ y, y = s.heap := ⟨_, rfl⟩
  rw [← hH] at hC ⊢
  obtain ⟨locs, hlo⟩ : ∃ y : List Loc, y = [] := ⟨_, rfl⟩
  rw [← hlo] at hC ⊢
  clear hH hlo
  unfold f_X6_goHit at hf
  refine lv_iconst (v := 0) hx hb dX6_goHit_0 (by decide) ?_
  refine lv_istore_n (lv' := [(3, .int 0), (0, .ref oM.1), (1, .int p1), (2, .int p2)]) hx hb dX6_goHit_1 rfl hl (by decide) rfl (fun ls hl => ?_)
  have L2 : ∀ (fu : Nat) (y1 : Int32) (y2 : Int32) (y3 : Int32) (Ms : (Nat → Int32)) (Mas : (Nat → Int32)) (Mpa : (Nat → Int32)) (Mkn : Int32) (Mke : (Nat → Int32)) (Mik : Int32) (Mpp : (Nat → Int32)) (Mle : Int32) (Mso : (Nat → Int32)) (Mfz : Int32) (Msp : Int32) (Mfo : Int32) (Mrd : (Nat → Int32)) (Mrs : Int32) (Mlt : Int32) (Mfi : Int32) (Mse : Int32) (tt : Int32 × (Nat → Int32)), f_X6_goHit_2 y1 fu y3 Ms = some tt → ∀ (H : Heap) (locs : List Loc) (ls : Array Slot), zC G c3 A s (zwM c3.1 c3.2.2 oM (Ms, Mas, Mpa, Mkn, Mke, Mik, Mpp, Mle, Mso, Mfz, Msp, Mfo, Mrd, Mrs, Mlt, Mfi, Mse)) H locs → lv_has ls 5 [(0, .ref oM.1), (1, .int y1), (2, .int y2), (3, .int y3)] → (∀ (H : Heap) (locs : List Loc) (ls : Array Slot), zC G c3 A s (zwM c3.1 c3.2.2 oM (tt.2, Mas, Mpa, Mkn, Mke, Mik, Mpp, Mle, Mso, Mfz, Msp, Mfo, Mrd, Mrs, Mlt, Mfi, Mse)) H locs → lv_has ls 5 [(0, .ref oM.1), (1, .int y1), (2, .int y2), (3, .int tt.1)] → W p l e ⟨4, 0, 0, 96⟩ s m args below meth c H locs 0 0 (MQ below (zPost G (zwM c3.1 c3.2.2 oM (Ms', Mas, Mpa, Mkn, Mke, Mik, Mpp, Mle, Mso', Mfz', Msp, Mfo, Mrd, Mrs, Mlt, Mfi, Mse)) (some (.int r)) A) args s 0 0 A) (F0 m 65 ls [])) → W p l e ⟨4, 0, 0, 96⟩ s m args below meth c H locs 0 0 (MQ below (zPost G (zwM c3.1 c3.2.2 oM (Ms', Mas, Mpa, Mkn, Mke, Mik, Mpp, Mle, Mso', Mfz', Msp, Mfo, Mrd, Mrs, Mlt, Mfi, Mse)) (some (.int r)) A) args s 0 0 A) (F0 m 2 ls []) := by
    intro fu
    induction fu with
    | zero =>
      intro y1 y2 y3 Ms Mas Mpa Mkn Mke Mik Mpp Mle Mso Mfz Msp Mfo Mrd Mrs Mlt Mfi Mse tt hf H locs ls hC hl hK
      exact (z_none hf).elim
    | succ fu ih2 =>
      intro y1 y2 y3 Ms Mas Mpa Mkn Mke Mik Mpp Mle Mso Mfz Msp Mfo Mrd Mrs Mlt Mfi Mse tt hf H locs ls hC hl hK
      replace hf := (f_X6_goHit_2_s y1 y3 Ms fu).symm.trans hf
      refine lv_iload_n hx hb dX6_goHit_2 rfl (lv_at hl 3 rfl) ?_
      refine lv_aload_n hx hb dX6_goHit_3 rfl (lv_at hl 0 rfl) ?_
      refine z_get S0 hC (ci := 6) (C := RX6) (T := TX6) (N := 17) (v := .ref oM.2.1) jX6_goHit_X6 0 rfl rfl 0 (by decide) kX6_goHit_7 rfl rfl dX6_goHit_4 ?_
      refine lv_iconst (v := 1) hx hb dX6_goHit_7 (by decide) ?_
      obtain ⟨x2, hx2, hf⟩ := z_bind hf
      refine z_iald S0 hC 1 rfl hx2 dX6_goHit_8 ?_
      refine lv_icmp_ge (tgt := 65) hx hb dX6_goHit_9 (by decide) (fun cd3 => ?_) (fun cd3 => ?_)
      · replace hf := z_pos cd3 hf
        have e1 := z_s1 hf
        subst e1
        exact hK H locs ls hC (lv_sub hl [0, 1, 2, 3] rfl)
      · replace hf := z_neg cd3 hf
        refine lv_aload_n hx hb dX6_goHit_12 rfl (lv_at hl 0 rfl) ?_
        refine lv_iload_n hx hb dX6_goHit_13 rfl (lv_at hl 3 rfl) ?_
        refine lv_iconst (v := 1) hx hb dX6_goHit_14 (by decide) ?_
        obtain ⟨r4, hr4, hf⟩ := z_bind hf
        refine z_callPi (z_runV (n := 2) (rest := []) (As := [.int y3, .int 1]) S0 hC (c_X6_of l G c3 oM (Ms, Mas, Mpa, Mkn, Mke, Mik, Mpp, Mle, Mso, Mfz, Msp, Mfo, Mrd, Mrs, Mlt, Mfi, Mse) y3 1 hr4) [0, 1, 2, 3, 4, 5, 6, 7] (by decide) rfl gX6_goHit_X6_of rfl rfl rfl (by decide +kernel) ⟨Nat.le_of_ble_eq_true rfl, Nat.le_of_ble_eq_true rfl⟩ (ci := 6) (q0 := 0) rfl rfl rfl hl.1 rfl (Nat.le_of_ble_eq_true rfl) dX6_goHit_15) hC [0, 1, 2, 3, 4, 5, 6, 7] rfl (fun H locs hC => ?_)
        refine lv_iload_n hx hb dX6_goHit_18 rfl (lv_at hl 1 rfl) ?_
        obtain ⟨t6, ht6, hf⟩ := z_bind hf
        have Jt6 : ∀ (H : Heap) (locs : List Loc) (ls : Array Slot), zC G c3 A s (zwM c3.1 c3.2.2 oM (Ms, Mas, Mpa, Mkn, Mke, Mik, Mpp, Mle, Mso, Mfz, Msp, Mfo, Mrd, Mrs, Mlt, Mfi, Mse)) H locs → lv_has ls 5 [(0, .ref oM.1), (1, .int y1), (2, .int y2), (3, .int y3)] → W p l e ⟨4, 0, 0, 96⟩ s m args below meth c H locs 0 0 (MQ below (zPost G (zwM c3.1 c3.2.2 oM (Ms', Mas, Mpa, Mkn, Mke, Mik, Mpp, Mle, Mso', Mfz', Msp, Mfo, Mrd, Mrs, Mlt, Mfi, Mse)) (some (.int r)) A) args s 0 0 A) (F0 m 36 ls [.int t6]) := by
          intro H locs ls hC hl
          refine lv_istore (lv' := [(4, .int t6), (0, .ref oM.1), (1, .int y1), (2, .int y2), (3, .int y3)]) hx hb dX6_goHit_36 hl (by decide) rfl (fun ls hl => ?_)
          refine lv_aload_n hx hb dX6_goHit_38 rfl (lv_at hl 1 rfl) ?_
          refine lv_iload_n hx hb dX6_goHit_39 rfl (lv_at hl 4 rfl) ?_
          refine lv_iconst (v := 5) hx hb dX6_goHit_40 (by decide) ?_
          refine lv_iload hx hb dX6_goHit_41 (lv_at hl 0 rfl) ?_
          obtain ⟨t8, ht8, hf⟩ := z_bind hf
          have Jt8 : ∀ (H : Heap) (locs : List Loc) (ls : Array Slot), zC G c3 A s (zwM c3.1 c3.2.2 oM (Ms, Mas, Mpa, Mkn, Mke, Mik, Mpp, Mle, Mso, Mfz, Msp, Mfo, Mrd, Mrs, Mlt, Mfi, Mse)) H locs → lv_has ls 5 [(0, .ref oM.1), (1, .int y1), (2, .int y2), (3, .int y3), (4, .int t6)] → W p l e ⟨4, 0, 0, 96⟩ s m args below meth c H locs 0 0 (MQ below (zPost G (zwM c3.1 c3.2.2 oM (Ms', Mas, Mpa, Mkn, Mke, Mik, Mpp, Mle, Mso', Mfz', Msp, Mfo, Mrd, Mrs, Mlt, Mfi, Mse)) (some (.int r)) A) args s 0 0 A) (F0 m 56 ls [.int t8, .int 5, .int y3, .ref oM.1]) := by
            intro H locs ls hC hl
            obtain ⟨r9, hr9, hf⟩ := z_bind hf
            refine z_callv (z_runV (n := 3) (rest := []) (As := [.int y3, .int 5, .int t8]) S0 hC (c_X6_lays l G c3 oM (Ms, Mas, Mpa, Mkn, Mke, Mik, Mpp, Mle, Mso, Mfz, Msp, Mfo, Mrd, Mrs, Mlt, Mfi, Mse) y3 5 t8 hr9) [0, 1, 2, 3, 4, 5, 6, 7] (by decide) rfl gX6_goHit_X6_lays rfl rfl rfl (by decide +kernel) ⟨Nat.le_of_ble_eq_true rfl, Nat.le_of_ble_eq_true rfl⟩ (ci := 6) (q0 := 0) rfl rfl rfl hl.1 rfl (Nat.le_of_ble_eq_true rfl) dX6_goHit_56) hC [0, 1, 2, 3, 4, 5, 6, 7] [] [0, 1, 2, 3, 4, 5, 6, 7] rfl (wr := ([] : va_W)) rfl (by decide) (by decide) (ws2 := (zwM c3.1 c3.2.2 oM (r9, Mas, Mpa, Mkn, Mke, Mik, Mpp, Mle, Mso, Mfz, Msp, Mfo, Mrd, Mrs, Mlt, Mfi, Mse))) rfl (by decide) (fun H locs hC => ?_)
            refine lv_iinc (v := (y3 + 1)) (lv' := [(3, .int (y3 + 1)), (0, .ref oM.1), (1, .int y1), (2, .int y2), (4, .int t6)]) hx hb dX6_goHit_59 hl (k := 3) rfl rfl (by decide) rfl (fun ls hl => ?_)
            refine lv_goto (tgt := 2) hx hb dX6_goHit_62 (by decide) ?_
            exact ih2 y1 y2 (y3 + 1) r9 Mas Mpa Mkn Mke Mik Mpp Mle Mso Mfz Msp Mfo Mrd Mrs Mlt Mfi Mse _ hf H locs ls hC (lv_sub hl [1, 2, 3, 0] rfl) hK
          refine lv_if_eq (tgt := 50) hx hb dX6_goHit_43 (by decide) (fun cd7 => ?_) (fun cd7 => ?_)
          · replace ht8 := z_pos cd7 ht8
            refine lv_aload_n hx hb dX6_goHit_50 rfl (lv_at hl 1 rfl) ?_
            refine lv_iload_n hx hb dX6_goHit_51 rfl (lv_at hl 4 rfl) ?_
            refine lv_iconst (v := 5) hx hb dX6_goHit_52 (by decide) ?_
            obtain ⟨r10, hr10, ht8⟩ := z_bind ht8
            refine z_callPi (z_runV (n := 2) (rest := [.int 5, .int y3, .ref oM.1]) (As := [.int y3, .int 5]) S0 hC (c_X6_of l G c3 oM (Ms, Mas, Mpa, Mkn, Mke, Mik, Mpp, Mle, Mso, Mfz, Msp, Mfo, Mrd, Mrs, Mlt, Mfi, Mse) y3 5 hr10) [0, 1, 2, 3, 4, 5, 6, 7] (by decide) rfl gX6_goHit_X6_of rfl rfl rfl (by decide +kernel) ⟨Nat.le_of_ble_eq_true rfl, Nat.le_of_ble_eq_true rfl⟩ (ci := 6) (q0 := 0) rfl rfl rfl hl.1 rfl (Nat.le_of_ble_eq_true rfl) dX6_goHit_53) hC [0, 1, 2, 3, 4, 5, 6, 7] rfl (fun H locs hC => ?_)
            have e1 := z_s1 ht8
            subst e1
            exact Jt8 H locs ls hC (lv_sub hl [1, 2, 3, 4, 0] rfl)
          · replace ht8 := z_neg cd7 ht8
            refine lv_iconst (v := 2) hx hb dX6_goHit_46 (by decide) ?_
            refine lv_goto (tgt := 56) hx hb dX6_goHit_47 (by decide) ?_
            have e1 := z_s1 ht8
            subst e1
            exact Jt8 H locs ls hC (lv_sub hl [1, 2, 3, 4, 0] rfl)
        refine lv_icmp_ne (tgt := 35) hx hb dX6_goHit_19 (by decide) (fun cd5 => ?_) (fun cd5 => ?_)
        · replace ht6 := z_neg cd5 ht6
          refine lv_iconst (v := 0) hx hb dX6_goHit_35 (by decide) ?_
          have e1 := z_s1 ht6
          subst e1
          exact Jt6 H locs ls hC (lv_sub hl [0, 1, 2, 3] rfl)
        · replace ht6 := z_pos cd5 ht6
          refine lv_aload_n hx hb dX6_goHit_22 rfl (lv_at hl 0 rfl) ?_
          refine lv_iload_n hx hb dX6_goHit_23 rfl (lv_at hl 3 rfl) ?_
          refine lv_iconst (v := 5) hx hb dX6_goHit_24 (by decide) ?_
          obtain ⟨r11, hr11, ht6⟩ := z_bind ht6
          refine z_callPi (z_runV (n := 2) (rest := []) (As := [.int y3, .int 5]) S0 hC (c_X6_of l G c3 oM (Ms, Mas, Mpa, Mkn, Mke, Mik, Mpp, Mle, Mso, Mfz, Msp, Mfo, Mrd, Mrs, Mlt, Mfi, Mse) y3 5 hr11) [0, 1, 2, 3, 4, 5, 6, 7] (by decide) rfl gX6_goHit_X6_of rfl rfl rfl (by decide +kernel) ⟨Nat.le_of_ble_eq_true rfl, Nat.le_of_ble_eq_true rfl⟩ (ci := 6) (q0 := 0) rfl rfl rfl hl.1 rfl (Nat.le_of_ble_eq_true rfl) dX6_goHit_25) hC [0, 1, 2, 3, 4, 5, 6, 7] rfl (fun H locs hC => ?_)
          refine lv_if_ne (tgt := 35) hx hb dX6_goHit_28 (by decide) (fun cd12 => ?_) (fun cd12 => ?_)
          · replace ht6 := z_neg cd12 ht6
            refine lv_iconst (v := 0) hx hb dX6_goHit_35 (by decide) ?_
            have e1 := z_s1 ht6
            subst e1
            exact Jt6 H locs ls hC (lv_sub hl [0, 1, 2, 3] rfl)
          · replace ht6 := z_pos cd12 ht6
            refine lv_iconst (v := 1) hx hb dX6_goHit_31 (by decide) ?_
            refine lv_goto (tgt := 36) hx hb dX6_goHit_32 (by decide) ?_
            have e1 := z_s1 ht6
            subst e1
            exact Jt6 H locs ls hC (lv_sub hl [0, 1, 2, 3] rfl)
  obtain ⟨t13, ht13, hf⟩ := z_bind hf
  refine L2 zF p1 p2 0 Ms Mas Mpa Mkn Mke Mik Mpp Mle Mso Mfz Msp Mfo Mrd Mrs Mlt Mfi Mse t13 ht13 H locs ls hC (lv_sub hl [1, 2, 3, 0] rfl) (fun H locs ls hC hl => ?_)
  refine lv_aload_n hx hb dX6_goHit_65 rfl (lv_at hl 0 rfl) ?_
  refine lv_bipush (v := (-4)) hx hb dX6_goHit_66 (by decide) ?_
  refine z_put S0 hC (ci := 6) (C := RX6) (T := TX6) (N := 17) (v := .int (-4)) jX6_goHit_X6 tyX6 tyX6_ok nmX6 0 rfl rfl 9 (by decide) kX6_goHit_76 rfl rfl rfl rfl (Nat.le_of_ble_eq_true rfl) dX6_goHit_68 (ws2 := (zwM c3.1 c3.2.2 oM (t13.2, Mas, Mpa, Mkn, Mke, Mik, Mpp, Mle, Mso, (-4), Msp, Mfo, Mrd, Mrs, Mlt, Mfi, Mse))) rfl (fun H locs hC => ?_)
  refine lv_aload_n hx hb dX6_goHit_71 rfl (lv_at hl 0 rfl) ?_
  refine z_get S0 hC (ci := 6) (C := RX6) (T := TX6) (N := 17) (v := .ref oM.2.1) jX6_goHit_X6 0 rfl rfl 0 (by decide) kX6_goHit_7 rfl rfl dX6_goHit_72 ?_
  refine lv_iconst (v := 0) hx hb dX6_goHit_75 (by decide) ?_
  obtain ⟨x14, hx14, hf⟩ := z_bind hf
  refine z_iald S0 hC 1 rfl hx14 dX6_goHit_76 ?_
  refine lv_iconst (v := 1) hx hb dX6_goHit_77 (by decide) ?_
  refine lv_isub hx hb dX6_goHit_78 ?_
  refine lv_istore_n (lv' := [(3, .int (x14 - 1)), (0, .ref oM.1), (1, .int p1), (2, .int p2)]) hx hb dX6_goHit_79 rfl hl (by decide) rfl (fun ls hl => ?_)
  have L80 : ∀ (fu : Nat) (y1 : Int32) (y2 : Int32) (y3 : Int32) (Ms : (Nat → Int32)) (Mas : (Nat → Int32)) (Mpa : (Nat → Int32)) (Mkn : Int32) (Mke : (Nat → Int32)) (Mik : Int32) (Mpp : (Nat → Int32)) (Mle : Int32) (Mso : (Nat → Int32)) (Mfz : Int32) (Msp : Int32) (Mfo : Int32) (Mrd : (Nat → Int32)) (Mrs : Int32) (Mlt : Int32) (Mfi : Int32) (Mse : Int32) (tt : Int32 × (Nat → Int32) × Int32), f_X6_goHit_80 y1 y2 Ms fu y3 Mso Mfz = some tt → ∀ (H : Heap) (locs : List Loc) (ls : Array Slot), zC G c3 A s (zwM c3.1 c3.2.2 oM (Ms, Mas, Mpa, Mkn, Mke, Mik, Mpp, Mle, Mso, Mfz, Msp, Mfo, Mrd, Mrs, Mlt, Mfi, Mse)) H locs → lv_has ls 5 [(0, .ref oM.1), (1, .int y1), (2, .int y2), (3, .int y3)] → (∀ (H : Heap) (locs : List Loc) (ls : Array Slot), zC G c3 A s (zwM c3.1 c3.2.2 oM (Ms, Mas, Mpa, Mkn, Mke, Mik, Mpp, Mle, tt.2.1, tt.2.2, Msp, Mfo, Mrd, Mrs, Mlt, Mfi, Mse)) H locs → lv_has ls 5 [(0, .ref oM.1), (1, .int y1), (2, .int y2), (3, .int tt.1)] → W p l e ⟨4, 0, 0, 96⟩ s m args below meth c H locs 0 0 (MQ below (zPost G (zwM c3.1 c3.2.2 oM (Ms', Mas, Mpa, Mkn, Mke, Mik, Mpp, Mle, Mso', Mfz', Msp, Mfo, Mrd, Mrs, Mlt, Mfi, Mse)) (some (.int r)) A) args s 0 0 A) (F0 m 124 ls [])) → W p l e ⟨4, 0, 0, 96⟩ s m args below meth c H locs 0 0 (MQ below (zPost G (zwM c3.1 c3.2.2 oM (Ms', Mas, Mpa, Mkn, Mke, Mik, Mpp, Mle, Mso', Mfz', Msp, Mfo, Mrd, Mrs, Mlt, Mfi, Mse)) (some (.int r)) A) args s 0 0 A) (F0 m 80 ls []) := by
    intro fu
    induction fu with
    | zero =>
      intro y1 y2 y3 Ms Mas Mpa Mkn Mke Mik Mpp Mle Mso Mfz Msp Mfo Mrd Mrs Mlt Mfi Mse tt hf H locs ls hC hl hK
      exact (z_none hf).elim
    | succ fu ih80 =>
      intro y1 y2 y3 Ms Mas Mpa Mkn Mke Mik Mpp Mle Mso Mfz Msp Mfo Mrd Mrs Mlt Mfi Mse tt hf H locs ls hC hl hK
      replace hf := (f_X6_goHit_80_s y1 y2 Ms y3 Mso Mfz fu).symm.trans hf
      refine lv_iload_n hx hb dX6_goHit_80 rfl (lv_at hl 3 rfl) ?_
      refine lv_if_lt (tgt := 124) hx hb dX6_goHit_81 (by decide) (fun cd16 => ?_) (fun cd16 => ?_)
      · replace hf := z_pos cd16 hf
        have e1 := z_s1 hf
        subst e1
        exact hK H locs ls hC (lv_sub hl [0, 1, 2, 3] rfl)
      · replace hf := z_neg cd16 hf
        refine lv_aload_n hx hb dX6_goHit_84 rfl (lv_at hl 0 rfl) ?_
        refine z_get S0 hC (ci := 6) (C := RX6) (T := TX6) (N := 17) (v := .ref oM.2.2.2.2.2.2.1) jX6_goHit_X6 0 rfl rfl 8 (by decide) kX6_goHit_25 rfl rfl dX6_goHit_85 ?_
        refine lv_iload_n hx hb dX6_goHit_88 rfl (lv_at hl 3 rfl) ?_
        refine lv_aload_n hx hb dX6_goHit_89 rfl (lv_at hl 0 rfl) ?_
        refine lv_iload_n hx hb dX6_goHit_90 rfl (lv_at hl 3 rfl) ?_
        refine lv_iload_n hx hb dX6_goHit_91 rfl (lv_at hl 1 rfl) ?_
        refine lv_iload_n hx hb dX6_goHit_92 rfl (lv_at hl 2 rfl) ?_
        obtain ⟨r17, hr17, hf⟩ := z_bind hf
        refine z_callPi (z_runV (n := 3) (rest := [.int y3, .ref oM.2.2.2.2.2.2.1]) (As := [.int y3, .int y1, .int y2]) S0 hC (c_X6_isSounding l G c3 oM (Ms, Mas, Mpa, Mkn, Mke, Mik, Mpp, Mle, Mso, Mfz, Msp, Mfo, Mrd, Mrs, Mlt, Mfi, Mse) y3 y1 y2 hr17) [0, 1, 2, 3, 4, 5, 6, 7] (by decide) rfl gX6_goHit_X6_isSounding rfl rfl rfl (by decide +kernel) ⟨Nat.le_of_ble_eq_true rfl, Nat.le_of_ble_eq_true rfl⟩ (ci := 6) (q0 := 0) rfl rfl rfl hl.1 rfl (Nat.le_of_ble_eq_true rfl) dX6_goHit_93) hC [0, 1, 2, 3, 4, 5, 6, 7] rfl (fun H locs hC => ?_)
        obtain ⟨w18, hw18, hf⟩ := z_bind hf
        obtain ⟨g19, hg19, hf⟩ := z_bind hf
        refine z_zast S0 hC 6 rfl hw18 hg19 dX6_goHit_96 (ws2 := (zwM c3.1 c3.2.2 oM (Ms, Mas, Mpa, Mkn, Mke, Mik, Mpp, Mle, g19, Mfz, Msp, Mfo, Mrd, Mrs, Mlt, Mfi, Mse))) rfl (fun H locs hC => ?_)
        refine lv_aload_n hx hb dX6_goHit_97 rfl (lv_at hl 0 rfl) ?_
        refine lv_aload_n hx hb dX6_goHit_98 rfl (lv_at hl 0 rfl) ?_
        refine z_get S0 hC (ci := 6) (C := RX6) (T := TX6) (N := 17) (v := .ref oM.2.2.2.2.2.2.1) jX6_goHit_X6 0 rfl rfl 8 (by decide) kX6_goHit_25 rfl rfl dX6_goHit_99 ?_
        refine lv_iload_n hx hb dX6_goHit_102 rfl (lv_at hl 3 rfl) ?_
        obtain ⟨x20, hx20, hf⟩ := z_bind hf
        refine z_zald S0 hC 6 rfl hx20 dX6_goHit_103 ?_
        obtain ⟨t22, ht22, hf⟩ := z_bind hf
        have Jt22 : ∀ (H : Heap) (locs : List Loc) (ls : Array Slot), zC G c3 A s (zwM c3.1 c3.2.2 oM (Ms, Mas, Mpa, Mkn, Mke, Mik, Mpp, Mle, g19, Mfz, Msp, Mfo, Mrd, Mrs, Mlt, Mfi, Mse)) H locs → lv_has ls 5 [(0, .ref oM.1), (1, .int y1), (2, .int y2), (3, .int y3)] → W p l e ⟨4, 0, 0, 96⟩ s m args below meth c H locs 0 0 (MQ below (zPost G (zwM c3.1 c3.2.2 oM (Ms', Mas, Mpa, Mkn, Mke, Mik, Mpp, Mle, Mso', Mfz', Msp, Mfo, Mrd, Mrs, Mlt, Mfi, Mse)) (some (.int r)) A) args s 0 0 A) (F0 m 115 ls [.int t22, .ref oM.1]) := by
          intro H locs ls hC hl
          refine z_put S0 hC (ci := 6) (C := RX6) (T := TX6) (N := 17) (v := .int t22) jX6_goHit_X6 tyX6 tyX6_ok nmX6 0 rfl rfl 9 (by decide) kX6_goHit_76 rfl rfl rfl rfl (Nat.le_of_ble_eq_true rfl) dX6_goHit_115 (ws2 := (zwM c3.1 c3.2.2 oM (Ms, Mas, Mpa, Mkn, Mke, Mik, Mpp, Mle, g19, t22, Msp, Mfo, Mrd, Mrs, Mlt, Mfi, Mse))) rfl (fun H locs hC => ?_)
          refine lv_iinc (v := (y3 + (-1))) (lv' := [(3, .int (y3 + (-1))), (0, .ref oM.1), (1, .int y1), (2, .int y2)]) hx hb dX6_goHit_118 hl (k := 3) rfl rfl (by decide) rfl (fun ls hl => ?_)
          refine lv_goto (tgt := 80) hx hb dX6_goHit_121 (by decide) ?_
          exact ih80 y1 y2 (y3 + (-1)) Ms Mas Mpa Mkn Mke Mik Mpp Mle g19 t22 Msp Mfo Mrd Mrs Mlt Mfi Mse _ hf H locs ls hC (lv_sub hl [1, 2, 3, 0] rfl) hK
        refine lv_if_eq (tgt := 111) hx hb dX6_goHit_104 (by decide) (fun cd21 => ?_) (fun cd21 => ?_)
        · replace ht22 := z_pos cd21 ht22
          refine lv_aload_n hx hb dX6_goHit_111 rfl (lv_at hl 0 rfl) ?_
          refine z_get S0 hC (ci := 6) (C := RX6) (T := TX6) (N := 17) (v := .int Mfz) jX6_goHit_X6 0 rfl rfl 9 (by decide) kX6_goHit_76 rfl rfl dX6_goHit_112 ?_
          have e1 := z_s1 ht22
          subst e1
          exact Jt22 H locs ls hC (lv_sub hl [0, 1, 2, 3] rfl)
        · replace ht22 := z_neg cd21 ht22
          refine lv_iload_n hx hb dX6_goHit_107 rfl (lv_at hl 3 rfl) ?_
          refine lv_goto (tgt := 115) hx hb dX6_goHit_108 (by decide) ?_
          have e1 := z_s1 ht22
          subst e1
          exact Jt22 H locs ls hC (lv_sub hl [0, 1, 2, 3] rfl)
  obtain ⟨t23, ht23, hf⟩ := z_bind hf
  refine L80 zF p1 p2 (x14 - 1) t13.2 Mas Mpa Mkn Mke Mik Mpp Mle Mso (-4) Msp Mfo Mrd Mrs Mlt Mfi Mse t23 ht23 H locs ls hC (lv_sub hl [1, 2, 3, 0] rfl) (fun H locs ls hC hl => ?_)
  refine lv_iconst (v := 1) hx hb dX6_goHit_124 (by decide) ?_
  refine lv_istore_n (lv' := [(3, .int 1), (0, .ref oM.1), (1, .int p1), (2, .int p2)]) hx hb dX6_goHit_125 rfl hl (by decide) rfl (fun ls hl => ?_)
  have L126 : ∀ (fu : Nat) (y1 : Int32) (y2 : Int32) (y3 : Int32) (Ms : (Nat → Int32)) (Mas : (Nat → Int32)) (Mpa : (Nat → Int32)) (Mkn : Int32) (Mke : (Nat → Int32)) (Mik : Int32) (Mpp : (Nat → Int32)) (Mle : Int32) (Mso : (Nat → Int32)) (Mfz : Int32) (Msp : Int32) (Mfo : Int32) (Mrd : (Nat → Int32)) (Mrs : Int32) (Mlt : Int32) (Mfi : Int32) (Mse : Int32) (tt : Int32 × (Nat → Int32)), f_X6_goHit_126 y1 y2 fu y3 Ms = some tt → ∀ (H : Heap) (locs : List Loc) (ls : Array Slot), zC G c3 A s (zwM c3.1 c3.2.2 oM (Ms, Mas, Mpa, Mkn, Mke, Mik, Mpp, Mle, Mso, Mfz, Msp, Mfo, Mrd, Mrs, Mlt, Mfi, Mse)) H locs → lv_has ls 5 [(0, .ref oM.1), (1, .int y1), (2, .int y2), (3, .int y3)] → (∀ (H : Heap) (locs : List Loc) (ls : Array Slot), zC G c3 A s (zwM c3.1 c3.2.2 oM (tt.2, Mas, Mpa, Mkn, Mke, Mik, Mpp, Mle, Mso, Mfz, Msp, Mfo, Mrd, Mrs, Mlt, Mfi, Mse)) H locs → lv_has ls 5 [(0, .ref oM.1), (1, .int y1), (2, .int y2), (3, .int tt.1)] → W p l e ⟨4, 0, 0, 96⟩ s m args below meth c H locs 0 0 (MQ below (zPost G (zwM c3.1 c3.2.2 oM (Ms', Mas, Mpa, Mkn, Mke, Mik, Mpp, Mle, Mso', Mfz', Msp, Mfo, Mrd, Mrs, Mlt, Mfi, Mse)) (some (.int r)) A) args s 0 0 A) (F0 m 172 ls [])) → W p l e ⟨4, 0, 0, 96⟩ s m args below meth c H locs 0 0 (MQ below (zPost G (zwM c3.1 c3.2.2 oM (Ms', Mas, Mpa, Mkn, Mke, Mik, Mpp, Mle, Mso', Mfz', Msp, Mfo, Mrd, Mrs, Mlt, Mfi, Mse)) (some (.int r)) A) args s 0 0 A) (F0 m 126 ls []) := by
    intro fu
    induction fu with
    | zero =>
      intro y1 y2 y3 Ms Mas Mpa Mkn Mke Mik Mpp Mle Mso Mfz Msp Mfo Mrd Mrs Mlt Mfi Mse tt hf H locs ls hC hl hK
      exact (z_none hf).elim
    | succ fu ih126 =>
      intro y1 y2 y3 Ms Mas Mpa Mkn Mke Mik Mpp Mle Mso Mfz Msp Mfo Mrd Mrs Mlt Mfi Mse tt hf H locs ls hC hl hK
      replace hf := (f_X6_goHit_126_s y1 y2 y3 Ms fu).symm.trans hf
      refine lv_iload_n hx hb dX6_goHit_126 rfl (lv_at hl 3 rfl) ?_
      refine lv_iconst (v := 5) hx hb dX6_goHit_127 (by decide) ?_
      refine lv_icmp_ge (tgt := 172) hx hb dX6_goHit_128 (by decide) (fun cd25 => ?_) (fun cd25 => ?_)
      · replace hf := z_pos cd25 hf
        have e1 := z_s1 hf
        subst e1
        exact hK H locs ls hC (lv_sub hl [0, 1, 2, 3] rfl)
      · replace hf := z_neg cd25 hf
        refine lv_aload_n hx hb dX6_goHit_131 rfl (lv_at hl 0 rfl) ?_
        refine z_get S0 hC (ci := 6) (C := RX6) (T := TX6) (N := 17) (v := .ref oM.2.1) jX6_goHit_X6 0 rfl rfl 0 (by decide) kX6_goHit_7 rfl rfl dX6_goHit_132 ?_
        refine lv_bipush (v := 12) hx hb dX6_goHit_135 (by decide) ?_
        refine lv_iload_n hx hb dX6_goHit_137 rfl (lv_at hl 3 rfl) ?_
        refine lv_iadd hx hb dX6_goHit_138 ?_
        refine lv_iconst (v := 1) hx hb dX6_goHit_139 (by decide) ?_
        refine lv_isub hx hb dX6_goHit_140 ?_
        refine lv_dup2_11 hx hb dX6_goHit_141 rfl rfl ?_
        obtain ⟨x26, hx26, hf⟩ := z_bind hf
        refine z_iald S0 hC 1 rfl hx26 dX6_goHit_142 ?_
        refine lv_aload_n hx hb dX6_goHit_143 rfl (lv_at hl 0 rfl) ?_
        refine lv_iload_n hx hb dX6_goHit_144 rfl (lv_at hl 3 rfl) ?_
        refine lv_aload_n hx hb dX6_goHit_145 rfl (lv_at hl 0 rfl) ?_
        refine z_get S0 hC (ci := 6) (C := RX6) (T := TX6) (N := 17) (v := .ref oM.2.1) jX6_goHit_X6 0 rfl rfl 0 (by decide) kX6_goHit_7 rfl rfl dX6_goHit_146 ?_
        refine lv_iconst (v := 0) hx hb dX6_goHit_149 (by decide) ?_
        obtain ⟨x27, hx27, hf⟩ := z_bind hf
        refine z_iald S0 hC 1 rfl hx27 dX6_goHit_150 ?_
        refine lv_iload_n hx hb dX6_goHit_151 rfl (lv_at hl 1 rfl) ?_
        refine lv_iload_n hx hb dX6_goHit_152 rfl (lv_at hl 2 rfl) ?_
        obtain ⟨r28, hr28, hf⟩ := z_bind hf
        refine z_callPi (z_runV (n := 4) (rest := [.int x26, .int ((12 + y3) - 1), .ref oM.2.1]) (As := [.int y3, .int x27, .int y1, .int y2]) S0 hC (c_X6_ofRobin l G c3 oM (Ms, Mas, Mpa, Mkn, Mke, Mik, Mpp, Mle, Mso, Mfz, Msp, Mfo, Mrd, Mrs, Mlt, Mfi, Mse) y3 x27 y1 y2 hr28) [0, 1, 2, 3, 4, 5, 6, 7] (by decide) rfl gX6_goHit_X6_ofRobin rfl rfl rfl (by decide +kernel) ⟨Nat.le_of_ble_eq_true rfl, Nat.le_of_ble_eq_true rfl⟩ (ci := 6) (q0 := 0) rfl rfl rfl hl.1 rfl (Nat.le_of_ble_eq_true rfl) dX6_goHit_153) hC [0, 1, 2, 3, 4, 5, 6, 7] rfl (fun H locs hC => ?_)
        obtain ⟨t30, ht30, hf⟩ := z_bind hf
        have Jt30 : ∀ (H : Heap) (locs : List Loc) (ls : Array Slot), zC G c3 A s (zwM c3.1 c3.2.2 oM (Ms, Mas, Mpa, Mkn, Mke, Mik, Mpp, Mle, Mso, Mfz, Msp, Mfo, Mrd, Mrs, Mlt, Mfi, Mse)) H locs → lv_has ls 5 [(0, .ref oM.1), (1, .int y1), (2, .int y2), (3, .int y3)] → W p l e ⟨4, 0, 0, 96⟩ s m args below meth c H locs 0 0 (MQ below (zPost G (zwM c3.1 c3.2.2 oM (Ms', Mas, Mpa, Mkn, Mke, Mik, Mpp, Mle, Mso', Mfz', Msp, Mfo, Mrd, Mrs, Mlt, Mfi, Mse)) (some (.int r)) A) args s 0 0 A) (F0 m 164 ls [.int t30, .int x26, .int ((12 + y3) - 1), .ref oM.2.1]) := by
          intro H locs ls hC hl
          refine lv_iadd hx hb dX6_goHit_164 ?_
          obtain ⟨g31, hg31, hf⟩ := z_bind hf
          refine z_iast S0 hC 1 rfl hg31 dX6_goHit_165 (ws2 := (zwM c3.1 c3.2.2 oM (g31, Mas, Mpa, Mkn, Mke, Mik, Mpp, Mle, Mso, Mfz, Msp, Mfo, Mrd, Mrs, Mlt, Mfi, Mse))) rfl (fun H locs hC => ?_)
          refine lv_iinc (v := (y3 + 1)) (lv' := [(3, .int (y3 + 1)), (0, .ref oM.1), (1, .int y1), (2, .int y2)]) hx hb dX6_goHit_166 hl (k := 3) rfl rfl (by decide) rfl (fun ls hl => ?_)
          refine lv_goto (tgt := 126) hx hb dX6_goHit_169 (by decide) ?_
          exact ih126 y1 y2 (y3 + 1) g31 Mas Mpa Mkn Mke Mik Mpp Mle Mso Mfz Msp Mfo Mrd Mrs Mlt Mfi Mse _ hf H locs ls hC (lv_sub hl [1, 2, 3, 0] rfl) hK
        refine lv_if_le (tgt := 163) hx hb dX6_goHit_156 (by decide) (fun cd29 => ?_) (fun cd29 => ?_)
        · replace ht30 := z_pos cd29 ht30
          refine lv_iconst (v := 0) hx hb dX6_goHit_163 (by decide) ?_
          have e1 := z_s1 ht30
          subst e1
          exact Jt30 H locs ls hC (lv_sub hl [0, 1, 2, 3] rfl)
        · replace ht30 := z_neg cd29 ht30
          refine lv_iconst (v := 1) hx hb dX6_goHit_159 (by decide) ?_
          refine lv_goto (tgt := 164) hx hb dX6_goHit_160 (by decide) ?_
          have e1 := z_s1 ht30
          subst e1
          exact Jt30 H locs ls hC (lv_sub hl [0, 1, 2, 3] rfl)
  obtain ⟨t32, ht32, hf⟩ := z_bind hf
  refine L126 zF p1 p2 1 t13.2 Mas Mpa Mkn Mke Mik Mpp Mle t23.2.1 t23.2.2 Msp Mfo Mrd Mrs Mlt Mfi Mse t32 ht32 H locs ls hC (lv_sub hl [1, 2, 3, 0] rfl) (fun H locs ls hC hl => ?_)
  refine lv_iconst (v := 0) hx hb dX6_goHit_172 (by decide) ?_
  refine lv_istore_n (lv' := [(3, .int 0), (0, .ref oM.1), (1, .int p1), (2, .int p2)]) hx hb dX6_goHit_173 rfl hl (by decide) rfl (fun ls hl => ?_)
  refine lv_iconst (v := 0) hx hb dX6_goHit_174 (by decide) ?_
  refine lv_istore (lv' := [(4, .int 0), (3, .int 0), (0, .ref oM.1), (1, .int p1), (2, .int p2)]) hx hb dX6_goHit_175 hl (by decide) rfl (fun ls hl => ?_)
  have L177 : ∀ (fu : Nat) (y1 : Int32) (y2 : Int32) (y3 : Int32) (y4 : Int32) (Ms : (Nat → Int32)) (Mas : (Nat → Int32)) (Mpa : (Nat → Int32)) (Mkn : Int32) (Mke : (Nat → Int32)) (Mik : Int32) (Mpp : (Nat → Int32)) (Mle : Int32) (Mso : (Nat → Int32)) (Mfz : Int32) (Msp : Int32) (Mfo : Int32) (Mrd : (Nat → Int32)) (Mrs : Int32) (Mlt : Int32) (Mfi : Int32) (Mse : Int32) (tt : Int32 × Int32 × (Nat → Int32)), f_X6_goHit_177 y1 y2 Mso fu y3 y4 Ms = some tt → ∀ (H : Heap) (locs : List Loc) (ls : Array Slot), zC G c3 A s (zwM c3.1 c3.2.2 oM (Ms, Mas, Mpa, Mkn, Mke, Mik, Mpp, Mle, Mso, Mfz, Msp, Mfo, Mrd, Mrs, Mlt, Mfi, Mse)) H locs → lv_has ls 5 [(0, .ref oM.1), (1, .int y1), (2, .int y2), (3, .int y3), (4, .int y4)] → (∀ (H : Heap) (locs : List Loc) (ls : Array Slot), zC G c3 A s (zwM c3.1 c3.2.2 oM (tt.2.2, Mas, Mpa, Mkn, Mke, Mik, Mpp, Mle, Mso, Mfz, Msp, Mfo, Mrd, Mrs, Mlt, Mfi, Mse)) H locs → lv_has ls 5 [(0, .ref oM.1), (1, .int y1), (2, .int y2), (3, .int tt.1), (4, .int tt.2.1)] → W p l e ⟨4, 0, 0, 96⟩ s m args below meth c H locs 0 0 (MQ below (zPost G (zwM c3.1 c3.2.2 oM (Ms', Mas, Mpa, Mkn, Mke, Mik, Mpp, Mle, Mso', Mfz', Msp, Mfo, Mrd, Mrs, Mlt, Mfi, Mse)) (some (.int r)) A) args s 0 0 A) (F0 m 215 ls [])) → W p l e ⟨4, 0, 0, 96⟩ s m args below meth c H locs 0 0 (MQ below (zPost G (zwM c3.1 c3.2.2 oM (Ms', Mas, Mpa, Mkn, Mke, Mik, Mpp, Mle, Mso', Mfz', Msp, Mfo, Mrd, Mrs, Mlt, Mfi, Mse)) (some (.int r)) A) args s 0 0 A) (F0 m 177 ls []) := by
    intro fu
    induction fu with
    | zero =>
      intro y1 y2 y3 y4 Ms Mas Mpa Mkn Mke Mik Mpp Mle Mso Mfz Msp Mfo Mrd Mrs Mlt Mfi Mse tt hf H locs ls hC hl hK
      exact (z_none hf).elim
    | succ fu ih177 =>
      intro y1 y2 y3 y4 Ms Mas Mpa Mkn Mke Mik Mpp Mle Mso Mfz Msp Mfo Mrd Mrs Mlt Mfi Mse tt hf H locs ls hC hl hK
      replace hf := (f_X6_goHit_177_s y1 y2 Mso y3 y4 Ms fu).symm.trans hf
      refine lv_iload hx hb dX6_goHit_177 (lv_at hl 4 rfl) ?_
      refine lv_aload_n hx hb dX6_goHit_179 rfl (lv_at hl 0 rfl) ?_
      refine z_get S0 hC (ci := 6) (C := RX6) (T := TX6) (N := 17) (v := .ref oM.2.1) jX6_goHit_X6 0 rfl rfl 0 (by decide) kX6_goHit_7 rfl rfl dX6_goHit_180 ?_
      refine lv_iconst (v := 0) hx hb dX6_goHit_183 (by decide) ?_
      obtain ⟨x34, hx34, hf⟩ := z_bind hf
      refine z_iald S0 hC 1 rfl hx34 dX6_goHit_184 ?_
      refine lv_icmp_ge (tgt := 215) hx hb dX6_goHit_185 (by decide) (fun cd35 => ?_) (fun cd35 => ?_)
      · replace hf := z_pos cd35 hf
        have e1 := z_s1 hf
        subst e1
        exact hK H locs ls hC (lv_sub hl [0, 1, 2, 3, 4] rfl)
      · replace hf := z_neg cd35 hf
        refine lv_aload_n hx hb dX6_goHit_188 rfl (lv_at hl 0 rfl) ?_
        refine z_get S0 hC (ci := 6) (C := RX6) (T := TX6) (N := 17) (v := .ref oM.2.2.2.2.2.2.1) jX6_goHit_X6 0 rfl rfl 8 (by decide) kX6_goHit_25 rfl rfl dX6_goHit_189 ?_
        refine lv_iload hx hb dX6_goHit_192 (lv_at hl 4 rfl) ?_
        obtain ⟨x36, hx36, hf⟩ := z_bind hf
        refine z_zald S0 hC 6 rfl hx36 dX6_goHit_194 ?_
        obtain ⟨t38, ht38, hf⟩ := z_bind hf
        have Jt38 : ∀ (H : Heap) (locs : List Loc) (ls : Array Slot), zC G c3 A s (zwM c3.1 c3.2.2 oM (t38.2, Mas, Mpa, Mkn, Mke, Mik, Mpp, Mle, Mso, Mfz, Msp, Mfo, Mrd, Mrs, Mlt, Mfi, Mse)) H locs → lv_has ls 5 [(0, .ref oM.1), (1, .int y1), (2, .int y2), (3, .int t38.1), (4, .int y4)] → W p l e ⟨4, 0, 0, 96⟩ s m args below meth c H locs 0 0 (MQ below (zPost G (zwM c3.1 c3.2.2 oM (Ms', Mas, Mpa, Mkn, Mke, Mik, Mpp, Mle, Mso', Mfz', Msp, Mfo, Mrd, Mrs, Mlt, Mfi, Mse)) (some (.int r)) A) args s 0 0 A) (F0 m 209 ls []) := by
          intro H locs ls hC hl
          refine lv_iinc (v := (y4 + 1)) (lv' := [(4, .int (y4 + 1)), (0, .ref oM.1), (1, .int y1), (2, .int y2), (3, .int t38.1)]) hx hb dX6_goHit_209 hl (k := 4) rfl rfl (by decide) rfl (fun ls hl => ?_)
          refine lv_goto (tgt := 177) hx hb dX6_goHit_212 (by decide) ?_
          exact ih177 y1 y2 t38.1 (y4 + 1) t38.2 Mas Mpa Mkn Mke Mik Mpp Mle Mso Mfz Msp Mfo Mrd Mrs Mlt Mfi Mse _ hf H locs ls hC (lv_sub hl [1, 2, 3, 4, 0] rfl) hK
        refine lv_if_eq (tgt := 209) hx hb dX6_goHit_195 (by decide) (fun cd37 => ?_) (fun cd37 => ?_)
        · replace ht38 := z_pos cd37 ht38
          have e1 := z_s1 ht38
          subst e1
          exact Jt38 H locs ls hC (lv_sub hl [0, 1, 2, 3, 4] rfl)
        · replace ht38 := z_neg cd37 ht38
          refine lv_aload_n hx hb dX6_goHit_198 rfl (lv_at hl 0 rfl) ?_
          refine lv_iload hx hb dX6_goHit_199 (lv_at hl 4 rfl) ?_
          refine lv_iload_n hx hb dX6_goHit_201 rfl (lv_at hl 1 rfl) ?_
          refine lv_iload_n hx hb dX6_goHit_202 rfl (lv_at hl 2 rfl) ?_
          obtain ⟨r39, hr39, ht38⟩ := z_bind ht38
          refine z_callv (z_runV (n := 3) (rest := []) (As := [.int y4, .int y1, .int y2]) S0 hC (c_X6_begins l G c3 oM (Ms, Mas, Mpa, Mkn, Mke, Mik, Mpp, Mle, Mso, Mfz, Msp, Mfo, Mrd, Mrs, Mlt, Mfi, Mse) y4 y1 y2 hr39) [0, 1, 2, 3, 4, 5, 6, 7] (by decide) rfl gX6_goHit_X6_begins rfl rfl rfl (by decide +kernel) ⟨Nat.le_of_ble_eq_true rfl, Nat.le_of_ble_eq_true rfl⟩ (ci := 6) (q0 := 0) rfl rfl rfl hl.1 rfl (Nat.le_of_ble_eq_true rfl) dX6_goHit_203) hC [0, 1, 2, 3, 4, 5, 6, 7] [] [0, 1, 2, 3, 4, 5, 6, 7] rfl (wr := ([] : va_W)) rfl (by decide) (by decide) (ws2 := (zwM c3.1 c3.2.2 oM (r39, Mas, Mpa, Mkn, Mke, Mik, Mpp, Mle, Mso, Mfz, Msp, Mfo, Mrd, Mrs, Mlt, Mfi, Mse))) rfl (by decide) (fun H locs hC => ?_)
          refine lv_iinc (v := (y3 + 1)) (lv' := [(3, .int (y3 + 1)), (0, .ref oM.1), (1, .int y1), (2, .int y2), (4, .int y4)]) hx hb dX6_goHit_206 hl (k := 3) rfl rfl (by decide) rfl (fun ls hl => ?_)
          have e1 := z_s1 ht38
          subst e1
          exact Jt38 H locs ls hC (lv_sub hl [1, 2, 3, 0, 4] rfl)
  obtain ⟨t40, ht40, hf⟩ := z_bind hf
  refine L177 zF p1 p2 0 0 t32.2 Mas Mpa Mkn Mke Mik Mpp Mle t23.2.1 t23.2.2 Msp Mfo Mrd Mrs Mlt Mfi Mse t40 ht40 H locs ls hC (lv_sub hl [2, 3, 4, 1, 0] rfl) (fun H locs ls hC hl => ?_)
  refine lv_iconst (v := 0) hx hb dX6_goHit_215 (by decide) ?_
  refine lv_istore (lv' := [(4, .int 0), (0, .ref oM.1), (1, .int p1), (2, .int p2), (3, .int t40.1)]) hx hb dX6_goHit_216 hl (by decide) rfl (fun ls hl => ?_)
  have L218 : ∀ (fu : Nat) (y1 : Int32) (y2 : Int32) (y3 : Int32) (y4 : Int32) (Ms : (Nat → Int32)) (Mas : (Nat → Int32)) (Mpa : (Nat → Int32)) (Mkn : Int32) (Mke : (Nat → Int32)) (Mik : Int32) (Mpp : (Nat → Int32)) (Mle : Int32) (Mso : (Nat → Int32)) (Mfz : Int32) (Msp : Int32) (Mfo : Int32) (Mrd : (Nat → Int32)) (Mrs : Int32) (Mlt : Int32) (Mfi : Int32) (Mse : Int32) (tt : Int32 × (Nat → Int32)), f_X6_goHit_218 y3 fu y4 Ms = some tt → ∀ (H : Heap) (locs : List Loc) (ls : Array Slot), zC G c3 A s (zwM c3.1 c3.2.2 oM (Ms, Mas, Mpa, Mkn, Mke, Mik, Mpp, Mle, Mso, Mfz, Msp, Mfo, Mrd, Mrs, Mlt, Mfi, Mse)) H locs → lv_has ls 5 [(0, .ref oM.1), (1, .int y1), (2, .int y2), (3, .int y3), (4, .int y4)] → (∀ (H : Heap) (locs : List Loc) (ls : Array Slot), zC G c3 A s (zwM c3.1 c3.2.2 oM (tt.2, Mas, Mpa, Mkn, Mke, Mik, Mpp, Mle, Mso, Mfz, Msp, Mfo, Mrd, Mrs, Mlt, Mfi, Mse)) H locs → lv_has ls 5 [(0, .ref oM.1), (1, .int y1), (2, .int y2), (3, .int y3), (4, .int tt.1)] → W p l e ⟨4, 0, 0, 96⟩ s m args below meth c H locs 0 0 (MQ below (zPost G (zwM c3.1 c3.2.2 oM (Ms', Mas, Mpa, Mkn, Mke, Mik, Mpp, Mle, Mso', Mfz', Msp, Mfo, Mrd, Mrs, Mlt, Mfi, Mse)) (some (.int r)) A) args s 0 0 A) (F0 m 244 ls [])) → W p l e ⟨4, 0, 0, 96⟩ s m args below meth c H locs 0 0 (MQ below (zPost G (zwM c3.1 c3.2.2 oM (Ms', Mas, Mpa, Mkn, Mke, Mik, Mpp, Mle, Mso', Mfz', Msp, Mfo, Mrd, Mrs, Mlt, Mfi, Mse)) (some (.int r)) A) args s 0 0 A) (F0 m 218 ls []) := by
    intro fu
    induction fu with
    | zero =>
      intro y1 y2 y3 y4 Ms Mas Mpa Mkn Mke Mik Mpp Mle Mso Mfz Msp Mfo Mrd Mrs Mlt Mfi Mse tt hf H locs ls hC hl hK
      exact (z_none hf).elim
    | succ fu ih218 =>
      intro y1 y2 y3 y4 Ms Mas Mpa Mkn Mke Mik Mpp Mle Mso Mfz Msp Mfo Mrd Mrs Mlt Mfi Mse tt hf H locs ls hC hl hK
      replace hf := (f_X6_goHit_218_s y3 y4 Ms fu).symm.trans hf
      refine lv_iload hx hb dX6_goHit_218 (lv_at hl 4 rfl) ?_
      refine lv_aload_n hx hb dX6_goHit_220 rfl (lv_at hl 0 rfl) ?_
      refine z_get S0 hC (ci := 6) (C := RX6) (T := TX6) (N := 17) (v := .ref oM.2.1) jX6_goHit_X6 0 rfl rfl 0 (by decide) kX6_goHit_7 rfl rfl dX6_goHit_221 ?_
      refine lv_iconst (v := 1) hx hb dX6_goHit_224 (by decide) ?_
      obtain ⟨x42, hx42, hf⟩ := z_bind hf
      refine z_iald S0 hC 1 rfl hx42 dX6_goHit_225 ?_
      refine lv_icmp_ge (tgt := 244) hx hb dX6_goHit_226 (by decide) (fun cd43 => ?_) (fun cd43 => ?_)
      · replace hf := z_pos cd43 hf
        have e1 := z_s1 hf
        subst e1
        exact hK H locs ls hC (lv_sub hl [0, 1, 2, 3, 4] rfl)
      · replace hf := z_neg cd43 hf
        refine lv_aload_n hx hb dX6_goHit_229 rfl (lv_at hl 0 rfl) ?_
        refine lv_iload hx hb dX6_goHit_230 (lv_at hl 4 rfl) ?_
        refine lv_bipush (v := 6) hx hb dX6_goHit_232 (by decide) ?_
        refine lv_iconst (v := 0) hx hb dX6_goHit_234 (by decide) ?_
        obtain ⟨r44, hr44, hf⟩ := z_bind hf
        refine z_callv (z_runV (n := 3) (rest := []) (As := [.int y4, .int 6, .int 0]) S0 hC (c_X6_lays l G c3 oM (Ms, Mas, Mpa, Mkn, Mke, Mik, Mpp, Mle, Mso, Mfz, Msp, Mfo, Mrd, Mrs, Mlt, Mfi, Mse) y4 6 0 hr44) [0, 1, 2, 3, 4, 5, 6, 7] (by decide) rfl gX6_goHit_X6_lays rfl rfl rfl (by decide +kernel) ⟨Nat.le_of_ble_eq_true rfl, Nat.le_of_ble_eq_true rfl⟩ (ci := 6) (q0 := 0) rfl rfl rfl hl.1 rfl (Nat.le_of_ble_eq_true rfl) dX6_goHit_235) hC [0, 1, 2, 3, 4, 5, 6, 7] [] [0, 1, 2, 3, 4, 5, 6, 7] rfl (wr := ([] : va_W)) rfl (by decide) (by decide) (ws2 := (zwM c3.1 c3.2.2 oM (r44, Mas, Mpa, Mkn, Mke, Mik, Mpp, Mle, Mso, Mfz, Msp, Mfo, Mrd, Mrs, Mlt, Mfi, Mse))) rfl (by decide) (fun H locs hC => ?_)
        refine lv_iinc (v := (y4 + 1)) (lv' := [(4, .int (y4 + 1)), (0, .ref oM.1), (1, .int y1), (2, .int y2), (3, .int y3)]) hx hb dX6_goHit_238 hl (k := 4) rfl rfl (by decide) rfl (fun ls hl => ?_)
        refine lv_goto (tgt := 218) hx hb dX6_goHit_241 (by decide) ?_
        exact ih218 y1 y2 y3 (y4 + 1) r44 Mas Mpa Mkn Mke Mik Mpp Mle Mso Mfz Msp Mfo Mrd Mrs Mlt Mfi Mse _ hf H locs ls hC (lv_sub hl [1, 2, 3, 4, 0] rfl) hK
  obtain ⟨t45, ht45, hf⟩ := z_bind hf
  refine L218 zF p1 p2 t40.1 0 t40.2.2 Mas Mpa Mkn Mke Mik Mpp Mle t23.2.1 t23.2.2 Msp Mfo Mrd Mrs Mlt Mfi Mse t45 ht45 H locs ls hC (lv_sub hl [1, 2, 3, 4, 0] rfl) (fun H locs ls hC hl => ?_)
  refine lv_iload_n hx hb dX6_goHit_244 rfl (lv_at hl 3 rfl) ?_
  obtain ⟨e1, e2, e3, e4⟩ := z_s4 hf
  subst e1
  subst e2
  subst e3
  subst e4
  exact z_iret S0 hr hlk hC dX6_goHit_245

-- X6 goLet
def f_X6_goLet_4 (y1 : Int32) : Nat → Int32 → Int32 → (Nat → Int32) → Option (Int32 × Int32 × (Nat → Int32))
  | 0, _, _, _ => none
  | fu + 1, y2, y3, Ms =>
    (zald 150 Ms 1).bind fun x2 => if x2 ≤ y3 then
      some (y2, y3, Ms)
    else
      (f_X6_of Ms y3 1).bind fun r4 => Option.bind (α := Int32) (
        if r4 = y1 then
          (f_X6_of Ms y3 5).bind fun r15 => if r15 = 0 then
            some (1)
          else
            some (0)
        else
          some (0)
      ) fun t6 =>
        Option.bind (α := Int32) (
          if t6 = 0 then
            (f_X6_of Ms y3 5).bind fun r14 => some (r14)
          else
            (zald 150 Ms 2).bind fun x12 => if x12 = 1 then
              some (1)
            else
              some (2)
        ) fun t8 =>
          (f_X6_lays Ms y3 5 t8).bind fun r9 => Option.bind (α := Int32) (
            if t6 = 0 then
              some (0)
            else
              some (1)
          ) fun t11 =>
            f_X6_goLet_4 y1 fu (y2 + t11) (y3 + 1) r9

theorem f_X6_goLet_4_s (y1 : Int32) (y2 : Int32) (y3 : Int32) (Ms : (Nat → Int32)) (fu : Nat) : f_X6_goLet_4 y1 (fu + 1) y2 y3 Ms = (
    (zald 150 Ms 1).bind fun x2 => if x2 ≤ y3 then
      some (y2, y3, Ms)
    else
      (f_X6_of Ms y3 1).bind fun r4 => Option.bind (α := Int32) (
        if r4 = y1 then
          (f_X6_of Ms y3 5).bind fun r15 => if r15 = 0 then
            some (1)
          else
            some (0)
        else
          some (0)
      ) fun t6 =>
        Option.bind (α := Int32) (
          if t6 = 0 then
            (f_X6_of Ms y3 5).bind fun r14 => some (r14)
          else
            (zald 150 Ms 2).bind fun x12 => if x12 = 1 then
              some (1)
            else
              some (2)
        ) fun t8 =>
          (f_X6_lays Ms y3 5 t8).bind fun r9 => Option.bind (α := Int32) (
            if t6 = 0 then
              some (0)
            else
              some (1)
          ) fun t11 =>
            f_X6_goLet_4 y1 fu (y2 + t11) (y3 + 1) r9
    ) := rfl

def f_X6_goLet (Ms : (Nat → Int32)) (p1 : Int32) : Option (Int32 × (Nat → Int32)) :=
  (f_X6_goLet_4 p1 zF 0 0 Ms).bind fun t17 =>
    some (t17.1, t17.2.2)

theorem kX6_goLet_7 : Cond.fieldLink RX6 7 "ZoneSamplerModel" "s" "[I" ∈ wsX6_goLet := by decide +kernel
theorem jX6_goLet_X6 : ∀ w ∈ u_ws RX6 TX6 17, w ∈ wsX6_goLet := by decide +kernel
set_option maxHeartbeats 4000000 in
set_option maxRecDepth 100000 in
theorem c_X6_goLet (l : Launch) (G : va_G) (c3 : zT3) (oM : zR8) (BM : zMd) (p1 : Int32) {r : Int32} {Ms' : (Nat → Int32)} (hf : f_X6_goLet BM.1 p1 = some (r, Ms')) : zM l yX6_goLet wsX6_goLet ⟨1, 0, 0, 23⟩ G c3 (zwM c3.1 c3.2.2 oM (BM.1, BM.2.1, BM.2.2.1, BM.2.2.2.1, BM.2.2.2.2.1, BM.2.2.2.2.2.1, BM.2.2.2.2.2.2.1, BM.2.2.2.2.2.2.2.1, BM.2.2.2.2.2.2.2.2.1, BM.2.2.2.2.2.2.2.2.2.1, BM.2.2.2.2.2.2.2.2.2.2.1, BM.2.2.2.2.2.2.2.2.2.2.2.1, BM.2.2.2.2.2.2.2.2.2.2.2.2.1, BM.2.2.2.2.2.2.2.2.2.2.2.2.2.1, BM.2.2.2.2.2.2.2.2.2.2.2.2.2.2.1, BM.2.2.2.2.2.2.2.2.2.2.2.2.2.2.2.1, BM.2.2.2.2.2.2.2.2.2.2.2.2.2.2.2.2)) [.ref oM.1, .int p1] (some (.int r)) (zwM c3.1 c3.2.2 oM (Ms', BM.2.1, BM.2.2.1, BM.2.2.2.1, BM.2.2.2.2.1, BM.2.2.2.2.2.1, BM.2.2.2.2.2.2.1, BM.2.2.2.2.2.2.2.1, BM.2.2.2.2.2.2.2.2.1, BM.2.2.2.2.2.2.2.2.2.1, BM.2.2.2.2.2.2.2.2.2.2.1, BM.2.2.2.2.2.2.2.2.2.2.2.1, BM.2.2.2.2.2.2.2.2.2.2.2.2.1, BM.2.2.2.2.2.2.2.2.2.2.2.2.2.1, BM.2.2.2.2.2.2.2.2.2.2.2.2.2.2.1, BM.2.2.2.2.2.2.2.2.2.2.2.2.2.2.2.1, BM.2.2.2.2.2.2.2.2.2.2.2.2.2.2.2.2)) := by
  obtain ⟨Ms, Mas, Mpa, Mkn, Mke, Mik, Mpp, Mle, Mso, Mfz, Msp, Mfo, Mrd, Mrs, Mlt, Mfi, Mse⟩ := BM
  have hf : f_X6_goLet Ms p1 = some (r, Ms') := hf
  show zM l yX6_goLet wsX6_goLet ⟨1, 0, 0, 23⟩ G c3 (zwM c3.1 c3.2.2 oM (Ms, Mas, Mpa, Mkn, Mke, Mik, Mpp, Mle, Mso, Mfz, Msp, Mfo, Mrd, Mrs, Mlt, Mfi, Mse)) [.ref oM.1, .int p1] (some (.int r)) (zwM c3.1 c3.2.2 oM (Ms', Mas, Mpa, Mkn, Mke, Mik, Mpp, Mle, Mso, Mfz, Msp, Mfo, Mrd, Mrs, Mlt, Mfi, Mse))
  refine zM.of (cc := cX6_goLet) (maxL := 5) (ret := (some .int)) (by decide) rfl (Nat.le_of_ble_eq_true rfl) ?_
  intro p e s m args below meth c A ls S0 hr hlk hC hl
  have S0 : CallFix p m c cX6_goLet 5 s args wsX6_goLet RX6 := S0
  have hl : lv_has ls 5 [(0, .ref oM.1), (1, .int p1)] := hl
  have hx := S0.1
  have hb := S0.2.1
  obtain ⟨H, hH⟩ : ∃ y, y = s.heap := ⟨_, rfl⟩
  rw [← hH] at hC ⊢
  obtain ⟨locs, hlo⟩ : ∃ y : List Loc, y = [] := ⟨_, rfl⟩
  rw [← hlo] at hC ⊢
  clear hH hlo
  unfold f_X6_goLet at hf
  refine lv_iconst (v := 0) hx hb dX6_goLet_0 (by decide) ?_
  refine lv_istore_n (lv' := [(2, .int 0), (0, .ref oM.1), (1, .int p1)]) hx hb dX6_goLet_1 rfl hl (by decide) rfl (fun ls hl => ?_)
  refine lv_iconst (v := 0) hx hb dX6_goLet_2 (by decide) ?_
  refine lv_istore_n (lv' := [(3, .int 0), (2, .int 0), (0, .ref oM.1), (1, .int p1)]) hx hb dX6_goLet_3 rfl hl (by decide) rfl (fun ls hl => ?_)
  have L4 : ∀ (fu : Nat) (y1 : Int32) (y2 : Int32) (y3 : Int32) (Ms : (Nat → Int32)) (Mas : (Nat → Int32)) (Mpa : (Nat → Int32)) (Mkn : Int32) (Mke : (Nat → Int32)) (Mik : Int32) (Mpp : (Nat → Int32)) (Mle : Int32) (Mso : (Nat → Int32)) (Mfz : Int32) (Msp : Int32) (Mfo : Int32) (Mrd : (Nat → Int32)) (Mrs : Int32) (Mlt : Int32) (Mfi : Int32) (Mse : Int32) (tt : Int32 × Int32 × (Nat → Int32)), f_X6_goLet_4 y1 fu y2 y3 Ms = some tt → ∀ (H : Heap) (locs : List Loc) (ls : Array Slot), zC G c3 A s (zwM c3.1 c3.2.2 oM (Ms, Mas, Mpa, Mkn, Mke, Mik, Mpp, Mle, Mso, Mfz, Msp, Mfo, Mrd, Mrs, Mlt, Mfi, Mse)) H locs → lv_has ls 5 [(0, .ref oM.1), (1, .int y1), (2, .int y2), (3, .int y3)] → (∀ (H : Heap) (locs : List Loc) (ls : Array Slot), zC G c3 A s (zwM c3.1 c3.2.2 oM (tt.2.2, Mas, Mpa, Mkn, Mke, Mik, Mpp, Mle, Mso, Mfz, Msp, Mfo, Mrd, Mrs, Mlt, Mfi, Mse)) H locs → lv_has ls 5 [(0, .ref oM.1), (1, .int y1), (2, .int tt.1), (3, .int tt.2.1)] → W p l e ⟨1, 0, 0, 23⟩ s m args below meth c H locs 0 0 (MQ below (zPost G (zwM c3.1 c3.2.2 oM (Ms', Mas, Mpa, Mkn, Mke, Mik, Mpp, Mle, Mso, Mfz, Msp, Mfo, Mrd, Mrs, Mlt, Mfi, Mse)) (some (.int r)) A) args s 0 0 A) (F0 m 94 ls [])) → W p l e ⟨1, 0, 0, 23⟩ s m args below meth c H locs 0 0 (MQ below (zPost G (zwM c3.1 c3.2.2 oM (Ms', Mas, Mpa, Mkn, Mke, Mik, Mpp, Mle, Mso, Mfz, Msp, Mfo, Mrd, Mrs, Mlt, Mfi, Mse)) (some (.int r)) A) args s 0 0 A) (F0 m 4 ls []) := by
    intro fu
    induction fu with
    | zero =>
      intro y1 y2 y3 Ms Mas Mpa Mkn Mke Mik Mpp Mle Mso Mfz Msp Mfo Mrd Mrs Mlt Mfi Mse tt hf H locs ls hC hl hK
      exact (z_none hf).elim
    | succ fu ih4 =>
      intro y1 y2 y3 Ms Mas Mpa Mkn Mke Mik Mpp Mle Mso Mfz Msp Mfo Mrd Mrs Mlt Mfi Mse tt hf H locs ls hC hl hK
      replace hf := (f_X6_goLet_4_s y1 y2 y3 Ms fu).symm.trans hf
      refine lv_iload_n hx hb dX6_goLet_4 rfl (lv_at hl 3 rfl) ?_
      refine lv_aload_n hx hb dX6_goLet_5 rfl (lv_at hl 0 rfl) ?_
      refine z_get S0 hC (ci := 6) (C := RX6) (T := TX6) (N := 17) (v := .ref oM.2.1) jX6_goLet_X6 0 rfl rfl 0 (by decide) kX6_goLet_7 rfl rfl dX6_goLet_6 ?_
      refine lv_iconst (v := 1) hx hb dX6_goLet_9 (by decide) ?_
      obtain ⟨x2, hx2, hf⟩ := z_bind hf
      refine z_iald S0 hC 1 rfl hx2 dX6_goLet_10 ?_
      refine lv_icmp_ge (tgt := 94) hx hb dX6_goLet_11 (by decide) (fun cd3 => ?_) (fun cd3 => ?_)
      · replace hf := z_pos cd3 hf
        have e1 := z_s1 hf
        subst e1
        exact hK H locs ls hC (lv_sub hl [0, 1, 2, 3] rfl)
      · replace hf := z_neg cd3 hf
        refine lv_aload_n hx hb dX6_goLet_14 rfl (lv_at hl 0 rfl) ?_
        refine lv_iload_n hx hb dX6_goLet_15 rfl (lv_at hl 3 rfl) ?_
        refine lv_iconst (v := 1) hx hb dX6_goLet_16 (by decide) ?_
        obtain ⟨r4, hr4, hf⟩ := z_bind hf
        refine z_callPi (z_runV (n := 2) (rest := []) (As := [.int y3, .int 1]) S0 hC (c_X6_of l G c3 oM (Ms, Mas, Mpa, Mkn, Mke, Mik, Mpp, Mle, Mso, Mfz, Msp, Mfo, Mrd, Mrs, Mlt, Mfi, Mse) y3 1 hr4) [0, 1, 2, 3, 4, 5, 6, 7] (by decide) rfl gX6_goLet_X6_of rfl rfl rfl (by decide +kernel) ⟨Nat.le_of_ble_eq_true rfl, Nat.le_of_ble_eq_true rfl⟩ (ci := 6) (q0 := 0) rfl rfl rfl hl.1 rfl (Nat.le_of_ble_eq_true rfl) dX6_goLet_17) hC [0, 1, 2, 3, 4, 5, 6, 7] rfl (fun H locs hC => ?_)
        refine lv_iload_n hx hb dX6_goLet_20 rfl (lv_at hl 1 rfl) ?_
        obtain ⟨t6, ht6, hf⟩ := z_bind hf
        have Jt6 : ∀ (H : Heap) (locs : List Loc) (ls : Array Slot), zC G c3 A s (zwM c3.1 c3.2.2 oM (Ms, Mas, Mpa, Mkn, Mke, Mik, Mpp, Mle, Mso, Mfz, Msp, Mfo, Mrd, Mrs, Mlt, Mfi, Mse)) H locs → lv_has ls 5 [(0, .ref oM.1), (1, .int y1), (2, .int y2), (3, .int y3)] → W p l e ⟨1, 0, 0, 23⟩ s m args below meth c H locs 0 0 (MQ below (zPost G (zwM c3.1 c3.2.2 oM (Ms', Mas, Mpa, Mkn, Mke, Mik, Mpp, Mle, Mso, Mfz, Msp, Mfo, Mrd, Mrs, Mlt, Mfi, Mse)) (some (.int r)) A) args s 0 0 A) (F0 m 38 ls [.int t6]) := by
          intro H locs ls hC hl
          refine lv_istore (lv' := [(4, .int t6), (0, .ref oM.1), (1, .int y1), (2, .int y2), (3, .int y3)]) hx hb dX6_goLet_38 hl (by decide) rfl (fun ls hl => ?_)
          refine lv_aload_n hx hb dX6_goLet_40 rfl (lv_at hl 1 rfl) ?_
          refine lv_iload_n hx hb dX6_goLet_41 rfl (lv_at hl 4 rfl) ?_
          refine lv_iconst (v := 5) hx hb dX6_goLet_42 (by decide) ?_
          refine lv_iload hx hb dX6_goLet_43 (lv_at hl 0 rfl) ?_
          obtain ⟨t8, ht8, hf⟩ := z_bind hf
          have Jt8 : ∀ (H : Heap) (locs : List Loc) (ls : Array Slot), zC G c3 A s (zwM c3.1 c3.2.2 oM (Ms, Mas, Mpa, Mkn, Mke, Mik, Mpp, Mle, Mso, Mfz, Msp, Mfo, Mrd, Mrs, Mlt, Mfi, Mse)) H locs → lv_has ls 5 [(0, .ref oM.1), (1, .int y1), (2, .int y2), (3, .int y3), (4, .int t6)] → W p l e ⟨1, 0, 0, 23⟩ s m args below meth c H locs 0 0 (MQ below (zPost G (zwM c3.1 c3.2.2 oM (Ms', Mas, Mpa, Mkn, Mke, Mik, Mpp, Mle, Mso, Mfz, Msp, Mfo, Mrd, Mrs, Mlt, Mfi, Mse)) (some (.int r)) A) args s 0 0 A) (F0 m 72 ls [.int t8, .int 5, .int y3, .ref oM.1]) := by
            intro H locs ls hC hl
            obtain ⟨r9, hr9, hf⟩ := z_bind hf
            refine z_callv (z_runV (n := 3) (rest := []) (As := [.int y3, .int 5, .int t8]) S0 hC (c_X6_lays l G c3 oM (Ms, Mas, Mpa, Mkn, Mke, Mik, Mpp, Mle, Mso, Mfz, Msp, Mfo, Mrd, Mrs, Mlt, Mfi, Mse) y3 5 t8 hr9) [0, 1, 2, 3, 4, 5, 6, 7] (by decide) rfl gX6_goLet_X6_lays rfl rfl rfl (by decide +kernel) ⟨Nat.le_of_ble_eq_true rfl, Nat.le_of_ble_eq_true rfl⟩ (ci := 6) (q0 := 0) rfl rfl rfl hl.1 rfl (Nat.le_of_ble_eq_true rfl) dX6_goLet_72) hC [0, 1, 2, 3, 4, 5, 6, 7] [] [0, 1, 2, 3, 4, 5, 6, 7] rfl (wr := ([] : va_W)) rfl (by decide) (by decide) (ws2 := (zwM c3.1 c3.2.2 oM (r9, Mas, Mpa, Mkn, Mke, Mik, Mpp, Mle, Mso, Mfz, Msp, Mfo, Mrd, Mrs, Mlt, Mfi, Mse))) rfl (by decide) (fun H locs hC => ?_)
            refine lv_iload_n hx hb dX6_goLet_75 rfl (lv_at hl 2 rfl) ?_
            refine lv_iload hx hb dX6_goLet_76 (lv_at hl 4 rfl) ?_
            obtain ⟨t11, ht11, hf⟩ := z_bind hf
            have Jt11 : ∀ (H : Heap) (locs : List Loc) (ls : Array Slot), zC G c3 A s (zwM c3.1 c3.2.2 oM (r9, Mas, Mpa, Mkn, Mke, Mik, Mpp, Mle, Mso, Mfz, Msp, Mfo, Mrd, Mrs, Mlt, Mfi, Mse)) H locs → lv_has ls 5 [(0, .ref oM.1), (1, .int y1), (2, .int y2), (3, .int y3), (4, .int t6)] → W p l e ⟨1, 0, 0, 23⟩ s m args below meth c H locs 0 0 (MQ below (zPost G (zwM c3.1 c3.2.2 oM (Ms', Mas, Mpa, Mkn, Mke, Mik, Mpp, Mle, Mso, Mfz, Msp, Mfo, Mrd, Mrs, Mlt, Mfi, Mse)) (some (.int r)) A) args s 0 0 A) (F0 m 86 ls [.int t11, .int y2]) := by
              intro H locs ls hC hl
              refine lv_iadd hx hb dX6_goLet_86 ?_
              refine lv_istore_n (lv' := [(2, .int (y2 + t11)), (0, .ref oM.1), (1, .int y1), (3, .int y3), (4, .int t6)]) hx hb dX6_goLet_87 rfl hl (by decide) rfl (fun ls hl => ?_)
              refine lv_iinc (v := (y3 + 1)) (lv' := [(3, .int (y3 + 1)), (2, .int (y2 + t11)), (0, .ref oM.1), (1, .int y1), (4, .int t6)]) hx hb dX6_goLet_88 hl (k := 3) rfl rfl (by decide) rfl (fun ls hl => ?_)
              refine lv_goto (tgt := 4) hx hb dX6_goLet_91 (by decide) ?_
              exact ih4 y1 (y2 + t11) (y3 + 1) r9 Mas Mpa Mkn Mke Mik Mpp Mle Mso Mfz Msp Mfo Mrd Mrs Mlt Mfi Mse _ hf H locs ls hC (lv_sub hl [2, 3, 1, 0] rfl) hK
            refine lv_if_eq (tgt := 85) hx hb dX6_goLet_78 (by decide) (fun cd10 => ?_) (fun cd10 => ?_)
            · replace ht11 := z_pos cd10 ht11
              refine lv_iconst (v := 0) hx hb dX6_goLet_85 (by decide) ?_
              have e1 := z_s1 ht11
              subst e1
              exact Jt11 H locs ls hC (lv_sub hl [0, 1, 2, 3, 4] rfl)
            · replace ht11 := z_neg cd10 ht11
              refine lv_iconst (v := 1) hx hb dX6_goLet_81 (by decide) ?_
              refine lv_goto (tgt := 86) hx hb dX6_goLet_82 (by decide) ?_
              have e1 := z_s1 ht11
              subst e1
              exact Jt11 H locs ls hC (lv_sub hl [0, 1, 2, 3, 4] rfl)
          refine lv_if_ne (tgt := 57) hx hb dX6_goLet_45 (by decide) (fun cd7 => ?_) (fun cd7 => ?_)
          · replace ht8 := z_neg cd7 ht8
            refine lv_aload_n hx hb dX6_goLet_57 rfl (lv_at hl 1 rfl) ?_
            refine z_get S0 hC (ci := 6) (C := RX6) (T := TX6) (N := 17) (v := .ref oM.2.1) jX6_goLet_X6 0 rfl rfl 0 (by decide) kX6_goLet_7 rfl rfl dX6_goLet_58 ?_
            refine lv_iconst (v := 2) hx hb dX6_goLet_61 (by decide) ?_
            obtain ⟨x12, hx12, ht8⟩ := z_bind ht8
            refine z_iald S0 hC 1 rfl hx12 dX6_goLet_62 ?_
            refine lv_iconst (v := 1) hx hb dX6_goLet_63 (by decide) ?_
            refine lv_icmp_ne (tgt := 71) hx hb dX6_goLet_64 (by decide) (fun cd13 => ?_) (fun cd13 => ?_)
            · replace ht8 := z_neg cd13 ht8
              refine lv_iconst (v := 2) hx hb dX6_goLet_71 (by decide) ?_
              have e1 := z_s1 ht8
              subst e1
              exact Jt8 H locs ls hC (lv_sub hl [1, 2, 3, 4, 0] rfl)
            · replace ht8 := z_pos cd13 ht8
              refine lv_iconst (v := 1) hx hb dX6_goLet_67 (by decide) ?_
              refine lv_goto (tgt := 72) hx hb dX6_goLet_68 (by decide) ?_
              have e1 := z_s1 ht8
              subst e1
              exact Jt8 H locs ls hC (lv_sub hl [1, 2, 3, 4, 0] rfl)
          · replace ht8 := z_pos cd7 ht8
            refine lv_aload_n hx hb dX6_goLet_48 rfl (lv_at hl 1 rfl) ?_
            refine lv_iload_n hx hb dX6_goLet_49 rfl (lv_at hl 4 rfl) ?_
            refine lv_iconst (v := 5) hx hb dX6_goLet_50 (by decide) ?_
            obtain ⟨r14, hr14, ht8⟩ := z_bind ht8
            refine z_callPi (z_runV (n := 2) (rest := [.int 5, .int y3, .ref oM.1]) (As := [.int y3, .int 5]) S0 hC (c_X6_of l G c3 oM (Ms, Mas, Mpa, Mkn, Mke, Mik, Mpp, Mle, Mso, Mfz, Msp, Mfo, Mrd, Mrs, Mlt, Mfi, Mse) y3 5 hr14) [0, 1, 2, 3, 4, 5, 6, 7] (by decide) rfl gX6_goLet_X6_of rfl rfl rfl (by decide +kernel) ⟨Nat.le_of_ble_eq_true rfl, Nat.le_of_ble_eq_true rfl⟩ (ci := 6) (q0 := 0) rfl rfl rfl hl.1 rfl (Nat.le_of_ble_eq_true rfl) dX6_goLet_51) hC [0, 1, 2, 3, 4, 5, 6, 7] rfl (fun H locs hC => ?_)
            refine lv_goto (tgt := 72) hx hb dX6_goLet_54 (by decide) ?_
            have e1 := z_s1 ht8
            subst e1
            exact Jt8 H locs ls hC (lv_sub hl [1, 2, 3, 4, 0] rfl)
        refine lv_icmp_ne (tgt := 37) hx hb dX6_goLet_21 (by decide) (fun cd5 => ?_) (fun cd5 => ?_)
        · replace ht6 := z_neg cd5 ht6
          refine lv_iconst (v := 0) hx hb dX6_goLet_37 (by decide) ?_
          have e1 := z_s1 ht6
          subst e1
          exact Jt6 H locs ls hC (lv_sub hl [0, 1, 2, 3] rfl)
        · replace ht6 := z_pos cd5 ht6
          refine lv_aload_n hx hb dX6_goLet_24 rfl (lv_at hl 0 rfl) ?_
          refine lv_iload_n hx hb dX6_goLet_25 rfl (lv_at hl 3 rfl) ?_
          refine lv_iconst (v := 5) hx hb dX6_goLet_26 (by decide) ?_
          obtain ⟨r15, hr15, ht6⟩ := z_bind ht6
          refine z_callPi (z_runV (n := 2) (rest := []) (As := [.int y3, .int 5]) S0 hC (c_X6_of l G c3 oM (Ms, Mas, Mpa, Mkn, Mke, Mik, Mpp, Mle, Mso, Mfz, Msp, Mfo, Mrd, Mrs, Mlt, Mfi, Mse) y3 5 hr15) [0, 1, 2, 3, 4, 5, 6, 7] (by decide) rfl gX6_goLet_X6_of rfl rfl rfl (by decide +kernel) ⟨Nat.le_of_ble_eq_true rfl, Nat.le_of_ble_eq_true rfl⟩ (ci := 6) (q0 := 0) rfl rfl rfl hl.1 rfl (Nat.le_of_ble_eq_true rfl) dX6_goLet_27) hC [0, 1, 2, 3, 4, 5, 6, 7] rfl (fun H locs hC => ?_)
          refine lv_if_ne (tgt := 37) hx hb dX6_goLet_30 (by decide) (fun cd16 => ?_) (fun cd16 => ?_)
          · replace ht6 := z_neg cd16 ht6
            refine lv_iconst (v := 0) hx hb dX6_goLet_37 (by decide) ?_
            have e1 := z_s1 ht6
            subst e1
            exact Jt6 H locs ls hC (lv_sub hl [0, 1, 2, 3] rfl)
          · replace ht6 := z_pos cd16 ht6
            refine lv_iconst (v := 1) hx hb dX6_goLet_33 (by decide) ?_
            refine lv_goto (tgt := 38) hx hb dX6_goLet_34 (by decide) ?_
            have e1 := z_s1 ht6
            subst e1
            exact Jt6 H locs ls hC (lv_sub hl [0, 1, 2, 3] rfl)
  obtain ⟨t17, ht17, hf⟩ := z_bind hf
  refine L4 zF p1 0 0 Ms Mas Mpa Mkn Mke Mik Mpp Mle Mso Mfz Msp Mfo Mrd Mrs Mlt Mfi Mse t17 ht17 H locs ls hC (lv_sub hl [2, 3, 1, 0] rfl) (fun H locs ls hC hl => ?_)
  refine lv_iload_n hx hb dX6_goLet_94 rfl (lv_at hl 2 rfl) ?_
  obtain ⟨e1, e2⟩ := z_s2 hf
  subst e1
  subst e2
  exact z_iret S0 hr hlk hC dX6_goLet_95

-- X6 goPedal
def f_X6_goPedal_4  : Nat → Int32 → Int32 → (Nat → Int32) → Option (Int32 × Int32 × (Nat → Int32))
  | 0, _, _, _ => none
  | fu + 1, y1, y2, Ms =>
    (zald 150 Ms 1).bind fun x2 => if x2 ≤ y2 then
      some (y1, y2, Ms)
    else
      (zald 150 Ms 2).bind fun x4 => if x4 = 1 then
        (f_X6_of Ms y2 5).bind fun r6 => Option.bind (α := Int32) (
          if r6 = 1 then
            some (1)
          else
            some (0)
        ) fun t8 =>
          (f_X6_of Ms y2 5).bind fun r9 => Option.bind (α := Int32) (
            if r9 = 1 then
              some (2)
            else
              (f_X6_of Ms y2 5).bind fun r13 => some (r13)
          ) fun t11 =>
            (f_X6_lays Ms y2 5 t11).bind fun r12 => f_X6_goPedal_4 fu (y1 + t8) (y2 + 1) r12
      else
        some (y1, y2, Ms)

theorem f_X6_goPedal_4_s (y1 : Int32) (y2 : Int32) (Ms : (Nat → Int32)) (fu : Nat) : f_X6_goPedal_4 (fu + 1) y1 y2 Ms = (
    (zald 150 Ms 1).bind fun x2 => if x2 ≤ y2 then
      some (y1, y2, Ms)
    else
      (zald 150 Ms 2).bind fun x4 => if x4 = 1 then
        (f_X6_of Ms y2 5).bind fun r6 => Option.bind (α := Int32) (
          if r6 = 1 then
            some (1)
          else
            some (0)
        ) fun t8 =>
          (f_X6_of Ms y2 5).bind fun r9 => Option.bind (α := Int32) (
            if r9 = 1 then
              some (2)
            else
              (f_X6_of Ms y2 5).bind fun r13 => some (r13)
          ) fun t11 =>
            (f_X6_lays Ms y2 5 t11).bind fun r12 => f_X6_goPedal_4 fu (y1 + t8) (y2 + 1) r12
      else
        some (y1, y2, Ms)
    ) := rfl

def f_X6_goPedal (Ms : (Nat → Int32)) : Option (Int32 × (Nat → Int32)) :=
  (f_X6_goPedal_4 zF 0 0 Ms).bind fun t14 =>
    (zald 150 t14.2.2 2).bind fun x15 => (zast 150 t14.2.2 2 (1 - x15)).bind fun g16 => some (t14.1, g16)

theorem kX6_goPedal_7 : Cond.fieldLink RX6 7 "ZoneSamplerModel" "s" "[I" ∈ wsX6_goPedal := by decide +kernel
theorem jX6_goPedal_X6 : ∀ w ∈ u_ws RX6 TX6 17, w ∈ wsX6_goPedal := by decide +kernel
set_option maxHeartbeats 4000000 in
set_option maxRecDepth 100000 in
theorem c_X6_goPedal (l : Launch) (G : va_G) (c3 : zT3) (oM : zR8) (BM : zMd) {r : Int32} {Ms' : (Nat → Int32)} (hf : f_X6_goPedal BM.1 = some (r, Ms')) : zM l yX6_goPedal wsX6_goPedal ⟨1, 0, 0, 23⟩ G c3 (zwM c3.1 c3.2.2 oM (BM.1, BM.2.1, BM.2.2.1, BM.2.2.2.1, BM.2.2.2.2.1, BM.2.2.2.2.2.1, BM.2.2.2.2.2.2.1, BM.2.2.2.2.2.2.2.1, BM.2.2.2.2.2.2.2.2.1, BM.2.2.2.2.2.2.2.2.2.1, BM.2.2.2.2.2.2.2.2.2.2.1, BM.2.2.2.2.2.2.2.2.2.2.2.1, BM.2.2.2.2.2.2.2.2.2.2.2.2.1, BM.2.2.2.2.2.2.2.2.2.2.2.2.2.1, BM.2.2.2.2.2.2.2.2.2.2.2.2.2.2.1, BM.2.2.2.2.2.2.2.2.2.2.2.2.2.2.2.1, BM.2.2.2.2.2.2.2.2.2.2.2.2.2.2.2.2)) [.ref oM.1] (some (.int r)) (zwM c3.1 c3.2.2 oM (Ms', BM.2.1, BM.2.2.1, BM.2.2.2.1, BM.2.2.2.2.1, BM.2.2.2.2.2.1, BM.2.2.2.2.2.2.1, BM.2.2.2.2.2.2.2.1, BM.2.2.2.2.2.2.2.2.1, BM.2.2.2.2.2.2.2.2.2.1, BM.2.2.2.2.2.2.2.2.2.2.1, BM.2.2.2.2.2.2.2.2.2.2.2.1, BM.2.2.2.2.2.2.2.2.2.2.2.2.1, BM.2.2.2.2.2.2.2.2.2.2.2.2.2.1, BM.2.2.2.2.2.2.2.2.2.2.2.2.2.2.1, BM.2.2.2.2.2.2.2.2.2.2.2.2.2.2.2.1, BM.2.2.2.2.2.2.2.2.2.2.2.2.2.2.2.2)) := by
  obtain ⟨Ms, Mas, Mpa, Mkn, Mke, Mik, Mpp, Mle, Mso, Mfz, Msp, Mfo, Mrd, Mrs, Mlt, Mfi, Mse⟩ := BM
  have hf : f_X6_goPedal Ms = some (r, Ms') := hf
  show zM l yX6_goPedal wsX6_goPedal ⟨1, 0, 0, 23⟩ G c3 (zwM c3.1 c3.2.2 oM (Ms, Mas, Mpa, Mkn, Mke, Mik, Mpp, Mle, Mso, Mfz, Msp, Mfo, Mrd, Mrs, Mlt, Mfi, Mse)) [.ref oM.1] (some (.int r)) (zwM c3.1 c3.2.2 oM (Ms', Mas, Mpa, Mkn, Mke, Mik, Mpp, Mle, Mso, Mfz, Msp, Mfo, Mrd, Mrs, Mlt, Mfi, Mse))
  refine zM.of (cc := cX6_goPedal) (maxL := 3) (ret := (some .int)) (by decide) rfl (Nat.le_of_ble_eq_true rfl) ?_
  intro p e s m args below meth c A ls S0 hr hlk hC hl
  have S0 : CallFix p m c cX6_goPedal 3 s args wsX6_goPedal RX6 := S0
  have hl : lv_has ls 3 [(0, .ref oM.1)] := hl
  have hx := S0.1
  have hb := S0.2.1
  obtain ⟨H, hH⟩ : ∃ y, y = s.heap := ⟨_, rfl⟩
  rw [← hH] at hC ⊢
  obtain ⟨locs, hlo⟩ : ∃ y : List Loc, y = [] := ⟨_, rfl⟩
  rw [← hlo] at hC ⊢
  clear hH hlo
  unfold f_X6_goPedal at hf
  refine lv_iconst (v := 0) hx hb dX6_goPedal_0 (by decide) ?_
  refine lv_istore_n (lv' := [(1, .int 0), (0, .ref oM.1)]) hx hb dX6_goPedal_1 rfl hl (by decide) rfl (fun ls hl => ?_)
  refine lv_iconst (v := 0) hx hb dX6_goPedal_2 (by decide) ?_
  refine lv_istore_n (lv' := [(2, .int 0), (1, .int 0), (0, .ref oM.1)]) hx hb dX6_goPedal_3 rfl hl (by decide) rfl (fun ls hl => ?_)
  have L4 : ∀ (fu : Nat) (y1 : Int32) (y2 : Int32) (Ms : (Nat → Int32)) (Mas : (Nat → Int32)) (Mpa : (Nat → Int32)) (Mkn : Int32) (Mke : (Nat → Int32)) (Mik : Int32) (Mpp : (Nat → Int32)) (Mle : Int32) (Mso : (Nat → Int32)) (Mfz : Int32) (Msp : Int32) (Mfo : Int32) (Mrd : (Nat → Int32)) (Mrs : Int32) (Mlt : Int32) (Mfi : Int32) (Mse : Int32) (tt : Int32 × Int32 × (Nat → Int32)), f_X6_goPedal_4 fu y1 y2 Ms = some tt → ∀ (H : Heap) (locs : List Loc) (ls : Array Slot), zC G c3 A s (zwM c3.1 c3.2.2 oM (Ms, Mas, Mpa, Mkn, Mke, Mik, Mpp, Mle, Mso, Mfz, Msp, Mfo, Mrd, Mrs, Mlt, Mfi, Mse)) H locs → lv_has ls 3 [(0, .ref oM.1), (1, .int y1), (2, .int y2)] → (∀ (H : Heap) (locs : List Loc) (ls : Array Slot), zC G c3 A s (zwM c3.1 c3.2.2 oM (tt.2.2, Mas, Mpa, Mkn, Mke, Mik, Mpp, Mle, Mso, Mfz, Msp, Mfo, Mrd, Mrs, Mlt, Mfi, Mse)) H locs → lv_has ls 3 [(0, .ref oM.1), (1, .int tt.1), (2, .int tt.2.1)] → W p l e ⟨1, 0, 0, 23⟩ s m args below meth c H locs 0 0 (MQ below (zPost G (zwM c3.1 c3.2.2 oM (Ms', Mas, Mpa, Mkn, Mke, Mik, Mpp, Mle, Mso, Mfz, Msp, Mfo, Mrd, Mrs, Mlt, Mfi, Mse)) (some (.int r)) A) args s 0 0 A) (F0 m 74 ls [])) → W p l e ⟨1, 0, 0, 23⟩ s m args below meth c H locs 0 0 (MQ below (zPost G (zwM c3.1 c3.2.2 oM (Ms', Mas, Mpa, Mkn, Mke, Mik, Mpp, Mle, Mso, Mfz, Msp, Mfo, Mrd, Mrs, Mlt, Mfi, Mse)) (some (.int r)) A) args s 0 0 A) (F0 m 4 ls []) := by
    intro fu
    induction fu with
    | zero =>
      intro y1 y2 Ms Mas Mpa Mkn Mke Mik Mpp Mle Mso Mfz Msp Mfo Mrd Mrs Mlt Mfi Mse tt hf H locs ls hC hl hK
      exact (z_none hf).elim
    | succ fu ih4 =>
      intro y1 y2 Ms Mas Mpa Mkn Mke Mik Mpp Mle Mso Mfz Msp Mfo Mrd Mrs Mlt Mfi Mse tt hf H locs ls hC hl hK
      replace hf := (f_X6_goPedal_4_s y1 y2 Ms fu).symm.trans hf
      refine lv_iload_n hx hb dX6_goPedal_4 rfl (lv_at hl 2 rfl) ?_
      refine lv_aload_n hx hb dX6_goPedal_5 rfl (lv_at hl 0 rfl) ?_
      refine z_get S0 hC (ci := 6) (C := RX6) (T := TX6) (N := 17) (v := .ref oM.2.1) jX6_goPedal_X6 0 rfl rfl 0 (by decide) kX6_goPedal_7 rfl rfl dX6_goPedal_6 ?_
      refine lv_iconst (v := 1) hx hb dX6_goPedal_9 (by decide) ?_
      obtain ⟨x2, hx2, hf⟩ := z_bind hf
      refine z_iald S0 hC 1 rfl hx2 dX6_goPedal_10 ?_
      refine lv_icmp_ge (tgt := 74) hx hb dX6_goPedal_11 (by decide) (fun cd3 => ?_) (fun cd3 => ?_)
      · replace hf := z_pos cd3 hf
        have e1 := z_s1 hf
        subst e1
        exact hK H locs ls hC (lv_sub hl [0, 1, 2] rfl)
      · replace hf := z_neg cd3 hf
        refine lv_aload_n hx hb dX6_goPedal_14 rfl (lv_at hl 0 rfl) ?_
        refine z_get S0 hC (ci := 6) (C := RX6) (T := TX6) (N := 17) (v := .ref oM.2.1) jX6_goPedal_X6 0 rfl rfl 0 (by decide) kX6_goPedal_7 rfl rfl dX6_goPedal_15 ?_
        refine lv_iconst (v := 2) hx hb dX6_goPedal_18 (by decide) ?_
        obtain ⟨x4, hx4, hf⟩ := z_bind hf
        refine z_iald S0 hC 1 rfl hx4 dX6_goPedal_19 ?_
        refine lv_iconst (v := 1) hx hb dX6_goPedal_20 (by decide) ?_
        refine lv_icmp_ne (tgt := 74) hx hb dX6_goPedal_21 (by decide) (fun cd5 => ?_) (fun cd5 => ?_)
        · replace hf := z_neg cd5 hf
          have e1 := z_s1 hf
          subst e1
          exact hK H locs ls hC (lv_sub hl [0, 1, 2] rfl)
        · replace hf := z_pos cd5 hf
          refine lv_iload_n hx hb dX6_goPedal_24 rfl (lv_at hl 1 rfl) ?_
          refine lv_aload_n hx hb dX6_goPedal_25 rfl (lv_at hl 0 rfl) ?_
          refine lv_iload_n hx hb dX6_goPedal_26 rfl (lv_at hl 2 rfl) ?_
          refine lv_iconst (v := 5) hx hb dX6_goPedal_27 (by decide) ?_
          obtain ⟨r6, hr6, hf⟩ := z_bind hf
          refine z_callPi (z_runV (n := 2) (rest := [.int y1]) (As := [.int y2, .int 5]) S0 hC (c_X6_of l G c3 oM (Ms, Mas, Mpa, Mkn, Mke, Mik, Mpp, Mle, Mso, Mfz, Msp, Mfo, Mrd, Mrs, Mlt, Mfi, Mse) y2 5 hr6) [0, 1, 2, 3, 4, 5, 6, 7] (by decide) rfl gX6_goPedal_X6_of rfl rfl rfl (by decide +kernel) ⟨Nat.le_of_ble_eq_true rfl, Nat.le_of_ble_eq_true rfl⟩ (ci := 6) (q0 := 0) rfl rfl rfl hl.1 rfl (Nat.le_of_ble_eq_true rfl) dX6_goPedal_28) hC [0, 1, 2, 3, 4, 5, 6, 7] rfl (fun H locs hC => ?_)
          refine lv_iconst (v := 1) hx hb dX6_goPedal_31 (by decide) ?_
          obtain ⟨t8, ht8, hf⟩ := z_bind hf
          have Jt8 : ∀ (H : Heap) (locs : List Loc) (ls : Array Slot), zC G c3 A s (zwM c3.1 c3.2.2 oM (Ms, Mas, Mpa, Mkn, Mke, Mik, Mpp, Mle, Mso, Mfz, Msp, Mfo, Mrd, Mrs, Mlt, Mfi, Mse)) H locs → lv_has ls 3 [(0, .ref oM.1), (1, .int y1), (2, .int y2)] → W p l e ⟨1, 0, 0, 23⟩ s m args below meth c H locs 0 0 (MQ below (zPost G (zwM c3.1 c3.2.2 oM (Ms', Mas, Mpa, Mkn, Mke, Mik, Mpp, Mle, Mso, Mfz, Msp, Mfo, Mrd, Mrs, Mlt, Mfi, Mse)) (some (.int r)) A) args s 0 0 A) (F0 m 40 ls [.int t8, .int y1]) := by
            intro H locs ls hC hl
            refine lv_iadd hx hb dX6_goPedal_40 ?_
            refine lv_istore_n (lv' := [(1, .int (y1 + t8)), (0, .ref oM.1), (2, .int y2)]) hx hb dX6_goPedal_41 rfl hl (by decide) rfl (fun ls hl => ?_)
            refine lv_aload_n hx hb dX6_goPedal_42 rfl (lv_at hl 1 rfl) ?_
            refine lv_iload_n hx hb dX6_goPedal_43 rfl (lv_at hl 2 rfl) ?_
            refine lv_iconst (v := 5) hx hb dX6_goPedal_44 (by decide) ?_
            refine lv_aload_n hx hb dX6_goPedal_45 rfl (lv_at hl 1 rfl) ?_
            refine lv_iload_n hx hb dX6_goPedal_46 rfl (lv_at hl 2 rfl) ?_
            refine lv_iconst (v := 5) hx hb dX6_goPedal_47 (by decide) ?_
            obtain ⟨r9, hr9, hf⟩ := z_bind hf
            refine z_callPi (z_runV (n := 2) (rest := [.int 5, .int y2, .ref oM.1]) (As := [.int y2, .int 5]) S0 hC (c_X6_of l G c3 oM (Ms, Mas, Mpa, Mkn, Mke, Mik, Mpp, Mle, Mso, Mfz, Msp, Mfo, Mrd, Mrs, Mlt, Mfi, Mse) y2 5 hr9) [0, 1, 2, 3, 4, 5, 6, 7] (by decide) rfl gX6_goPedal_X6_of rfl rfl rfl (by decide +kernel) ⟨Nat.le_of_ble_eq_true rfl, Nat.le_of_ble_eq_true rfl⟩ (ci := 6) (q0 := 0) rfl rfl rfl hl.1 rfl (Nat.le_of_ble_eq_true rfl) dX6_goPedal_48) hC [0, 1, 2, 3, 4, 5, 6, 7] rfl (fun H locs hC => ?_)
            refine lv_iconst (v := 1) hx hb dX6_goPedal_51 (by decide) ?_
            obtain ⟨t11, ht11, hf⟩ := z_bind hf
            have Jt11 : ∀ (H : Heap) (locs : List Loc) (ls : Array Slot), zC G c3 A s (zwM c3.1 c3.2.2 oM (Ms, Mas, Mpa, Mkn, Mke, Mik, Mpp, Mle, Mso, Mfz, Msp, Mfo, Mrd, Mrs, Mlt, Mfi, Mse)) H locs → lv_has ls 3 [(0, .ref oM.1), (1, .int (y1 + t8)), (2, .int y2)] → W p l e ⟨1, 0, 0, 23⟩ s m args below meth c H locs 0 0 (MQ below (zPost G (zwM c3.1 c3.2.2 oM (Ms', Mas, Mpa, Mkn, Mke, Mik, Mpp, Mle, Mso, Mfz, Msp, Mfo, Mrd, Mrs, Mlt, Mfi, Mse)) (some (.int r)) A) args s 0 0 A) (F0 m 65 ls [.int t11, .int 5, .int y2, .ref oM.1]) := by
              intro H locs ls hC hl
              obtain ⟨r12, hr12, hf⟩ := z_bind hf
              refine z_callv (z_runV (n := 3) (rest := []) (As := [.int y2, .int 5, .int t11]) S0 hC (c_X6_lays l G c3 oM (Ms, Mas, Mpa, Mkn, Mke, Mik, Mpp, Mle, Mso, Mfz, Msp, Mfo, Mrd, Mrs, Mlt, Mfi, Mse) y2 5 t11 hr12) [0, 1, 2, 3, 4, 5, 6, 7] (by decide) rfl gX6_goPedal_X6_lays rfl rfl rfl (by decide +kernel) ⟨Nat.le_of_ble_eq_true rfl, Nat.le_of_ble_eq_true rfl⟩ (ci := 6) (q0 := 0) rfl rfl rfl hl.1 rfl (Nat.le_of_ble_eq_true rfl) dX6_goPedal_65) hC [0, 1, 2, 3, 4, 5, 6, 7] [] [0, 1, 2, 3, 4, 5, 6, 7] rfl (wr := ([] : va_W)) rfl (by decide) (by decide) (ws2 := (zwM c3.1 c3.2.2 oM (r12, Mas, Mpa, Mkn, Mke, Mik, Mpp, Mle, Mso, Mfz, Msp, Mfo, Mrd, Mrs, Mlt, Mfi, Mse))) rfl (by decide) (fun H locs hC => ?_)
              refine lv_iinc (v := (y2 + 1)) (lv' := [(2, .int (y2 + 1)), (0, .ref oM.1), (1, .int (y1 + t8))]) hx hb dX6_goPedal_68 hl (k := 2) rfl rfl (by decide) rfl (fun ls hl => ?_)
              refine lv_goto (tgt := 4) hx hb dX6_goPedal_71 (by decide) ?_
              exact ih4 (y1 + t8) (y2 + 1) r12 Mas Mpa Mkn Mke Mik Mpp Mle Mso Mfz Msp Mfo Mrd Mrs Mlt Mfi Mse _ hf H locs ls hC (lv_sub hl [1, 2, 0] rfl) hK
            refine lv_icmp_ne (tgt := 59) hx hb dX6_goPedal_52 (by decide) (fun cd10 => ?_) (fun cd10 => ?_)
            · replace ht11 := z_neg cd10 ht11
              refine lv_aload_n hx hb dX6_goPedal_59 rfl (lv_at hl 1 rfl) ?_
              refine lv_iload_n hx hb dX6_goPedal_60 rfl (lv_at hl 2 rfl) ?_
              refine lv_iconst (v := 5) hx hb dX6_goPedal_61 (by decide) ?_
              obtain ⟨r13, hr13, ht11⟩ := z_bind ht11
              refine z_callPi (z_runV (n := 2) (rest := [.int 5, .int y2, .ref oM.1]) (As := [.int y2, .int 5]) S0 hC (c_X6_of l G c3 oM (Ms, Mas, Mpa, Mkn, Mke, Mik, Mpp, Mle, Mso, Mfz, Msp, Mfo, Mrd, Mrs, Mlt, Mfi, Mse) y2 5 hr13) [0, 1, 2, 3, 4, 5, 6, 7] (by decide) rfl gX6_goPedal_X6_of rfl rfl rfl (by decide +kernel) ⟨Nat.le_of_ble_eq_true rfl, Nat.le_of_ble_eq_true rfl⟩ (ci := 6) (q0 := 0) rfl rfl rfl hl.1 rfl (Nat.le_of_ble_eq_true rfl) dX6_goPedal_62) hC [0, 1, 2, 3, 4, 5, 6, 7] rfl (fun H locs hC => ?_)
              have e1 := z_s1 ht11
              subst e1
              exact Jt11 H locs ls hC (lv_sub hl [1, 0, 2] rfl)
            · replace ht11 := z_pos cd10 ht11
              refine lv_iconst (v := 2) hx hb dX6_goPedal_55 (by decide) ?_
              refine lv_goto (tgt := 65) hx hb dX6_goPedal_56 (by decide) ?_
              have e1 := z_s1 ht11
              subst e1
              exact Jt11 H locs ls hC (lv_sub hl [1, 0, 2] rfl)
          refine lv_icmp_ne (tgt := 39) hx hb dX6_goPedal_32 (by decide) (fun cd7 => ?_) (fun cd7 => ?_)
          · replace ht8 := z_neg cd7 ht8
            refine lv_iconst (v := 0) hx hb dX6_goPedal_39 (by decide) ?_
            have e1 := z_s1 ht8
            subst e1
            exact Jt8 H locs ls hC (lv_sub hl [0, 1, 2] rfl)
          · replace ht8 := z_pos cd7 ht8
            refine lv_iconst (v := 1) hx hb dX6_goPedal_35 (by decide) ?_
            refine lv_goto (tgt := 40) hx hb dX6_goPedal_36 (by decide) ?_
            have e1 := z_s1 ht8
            subst e1
            exact Jt8 H locs ls hC (lv_sub hl [0, 1, 2] rfl)
  obtain ⟨t14, ht14, hf⟩ := z_bind hf
  refine L4 zF 0 0 Ms Mas Mpa Mkn Mke Mik Mpp Mle Mso Mfz Msp Mfo Mrd Mrs Mlt Mfi Mse t14 ht14 H locs ls hC (lv_sub hl [2, 1, 0] rfl) (fun H locs ls hC hl => ?_)
  refine lv_aload_n hx hb dX6_goPedal_74 rfl (lv_at hl 0 rfl) ?_
  refine z_get S0 hC (ci := 6) (C := RX6) (T := TX6) (N := 17) (v := .ref oM.2.1) jX6_goPedal_X6 0 rfl rfl 0 (by decide) kX6_goPedal_7 rfl rfl dX6_goPedal_75 ?_
  refine lv_iconst (v := 2) hx hb dX6_goPedal_78 (by decide) ?_
  refine lv_iconst (v := 1) hx hb dX6_goPedal_79 (by decide) ?_
  refine lv_aload_n hx hb dX6_goPedal_80 rfl (lv_at hl 0 rfl) ?_
  refine z_get S0 hC (ci := 6) (C := RX6) (T := TX6) (N := 17) (v := .ref oM.2.1) jX6_goPedal_X6 0 rfl rfl 0 (by decide) kX6_goPedal_7 rfl rfl dX6_goPedal_81 ?_
  refine lv_iconst (v := 2) hx hb dX6_goPedal_84 (by decide) ?_
  obtain ⟨x15, hx15, hf⟩ := z_bind hf
  refine z_iald S0 hC 1 rfl hx15 dX6_goPedal_85 ?_
  refine lv_isub hx hb dX6_goPedal_86 ?_
  obtain ⟨g16, hg16, hf⟩ := z_bind hf
  refine z_iast S0 hC 1 rfl hg16 dX6_goPedal_87 (ws2 := (zwM c3.1 c3.2.2 oM (g16, Mas, Mpa, Mkn, Mke, Mik, Mpp, Mle, Mso, Mfz, Msp, Mfo, Mrd, Mrs, Mlt, Mfi, Mse))) rfl (fun H locs hC => ?_)
  refine lv_iload_n hx hb dX6_goPedal_88 rfl (lv_at hl 1 rfl) ?_
  obtain ⟨e1, e2⟩ := z_s2 hf
  subst e1
  subst e2
  exact z_iret S0 hr hlk hC dX6_goPedal_89

-- X6 tick
def f_X6_tick_14  : Nat → Int32 → Int32 → (Nat → Int32) → Option (Int32 × Int32 × (Nat → Int32))
  | 0, _, _, _ => none
  | fu + 1, y1, y2, Ms =>
    (zald 150 Ms 1).bind fun x4 => if x4 ≤ y2 then
      some (y1, y2, Ms)
    else
      (f_X6_of Ms y2 4).bind fun r6 => (f_X6_lays Ms y2 4 (r6 + 1)).bind fun r7 => (f_X6_of r7 y2 3).bind fun r8 => (f_X6_of r7 y2 5).bind fun r9 => Option.bind (α := Int32) (
        if r9 = 2 then
          (zald 150 r7 11).bind fun x21 => some (x21)
        else
          some (1)
      ) fun t11 =>
        (f_X6_lays r7 y2 3 (r8 - t11)).bind fun r12 => (f_X6_of r12 y2 3).bind fun r13 => if r13 ≤ 0 then
          (f_X6_dropsVoice r12 y2).bind fun r15 => f_X6_tick_14 fu (y1 + 1) y2 r15
        else
          (f_X6_of r12 y2 4).bind fun r16 => (f_X6_of r12 y2 0).bind fun r17 => (f_X6_ofZone r12 r17 6).bind fun r18 => if r16 < r18 then
            f_X6_tick_14 fu y1 (y2 + 1) r12
          else
            (f_X6_dropsVoice r12 y2).bind fun r20 => f_X6_tick_14 fu (y1 + 1) y2 r20

theorem f_X6_tick_14_s (y1 : Int32) (y2 : Int32) (Ms : (Nat → Int32)) (fu : Nat) : f_X6_tick_14 (fu + 1) y1 y2 Ms = (
    (zald 150 Ms 1).bind fun x4 => if x4 ≤ y2 then
      some (y1, y2, Ms)
    else
      (f_X6_of Ms y2 4).bind fun r6 => (f_X6_lays Ms y2 4 (r6 + 1)).bind fun r7 => (f_X6_of r7 y2 3).bind fun r8 => (f_X6_of r7 y2 5).bind fun r9 => Option.bind (α := Int32) (
        if r9 = 2 then
          (zald 150 r7 11).bind fun x21 => some (x21)
        else
          some (1)
      ) fun t11 =>
        (f_X6_lays r7 y2 3 (r8 - t11)).bind fun r12 => (f_X6_of r12 y2 3).bind fun r13 => if r13 ≤ 0 then
          (f_X6_dropsVoice r12 y2).bind fun r15 => f_X6_tick_14 fu (y1 + 1) y2 r15
        else
          (f_X6_of r12 y2 4).bind fun r16 => (f_X6_of r12 y2 0).bind fun r17 => (f_X6_ofZone r12 r17 6).bind fun r18 => if r16 < r18 then
            f_X6_tick_14 fu y1 (y2 + 1) r12
          else
            (f_X6_dropsVoice r12 y2).bind fun r20 => f_X6_tick_14 fu (y1 + 1) y2 r20
    ) := rfl

def f_X6_tick (Ms : (Nat → Int32)) : Option (Int32 × (Nat → Int32)) :=
  (zald 150 Ms 3).bind fun x1 => (zast 150 Ms 3 (x1 + 1)).bind fun g2 => (f_X6_tick_14 zF 0 0 g2).bind fun t22 =>
    (zald 150 t22.2.2 5).bind fun x23 => (zast 150 t22.2.2 5 (x23 + t22.1)).bind fun g24 => some (t22.1, g24)

theorem kX6_tick_7 : Cond.fieldLink RX6 7 "ZoneSamplerModel" "s" "[I" ∈ wsX6_tick := by decide +kernel
theorem jX6_tick_X6 : ∀ w ∈ u_ws RX6 TX6 17, w ∈ wsX6_tick := by decide +kernel
set_option maxHeartbeats 4000000 in
set_option maxRecDepth 100000 in
theorem c_X6_tick (l : Launch) (G : va_G) (c3 : zT3) (oM : zR8) (BM : zMd) {r : Int32} {Ms' : (Nat → Int32)} (hf : f_X6_tick BM.1 = some (r, Ms')) : zM l yX6_tick wsX6_tick ⟨1, 0, 0, 23⟩ G c3 (zwM c3.1 c3.2.2 oM (BM.1, BM.2.1, BM.2.2.1, BM.2.2.2.1, BM.2.2.2.2.1, BM.2.2.2.2.2.1, BM.2.2.2.2.2.2.1, BM.2.2.2.2.2.2.2.1, BM.2.2.2.2.2.2.2.2.1, BM.2.2.2.2.2.2.2.2.2.1, BM.2.2.2.2.2.2.2.2.2.2.1, BM.2.2.2.2.2.2.2.2.2.2.2.1, BM.2.2.2.2.2.2.2.2.2.2.2.2.1, BM.2.2.2.2.2.2.2.2.2.2.2.2.2.1, BM.2.2.2.2.2.2.2.2.2.2.2.2.2.2.1, BM.2.2.2.2.2.2.2.2.2.2.2.2.2.2.2.1, BM.2.2.2.2.2.2.2.2.2.2.2.2.2.2.2.2)) [.ref oM.1] (some (.int r)) (zwM c3.1 c3.2.2 oM (Ms', BM.2.1, BM.2.2.1, BM.2.2.2.1, BM.2.2.2.2.1, BM.2.2.2.2.2.1, BM.2.2.2.2.2.2.1, BM.2.2.2.2.2.2.2.1, BM.2.2.2.2.2.2.2.2.1, BM.2.2.2.2.2.2.2.2.2.1, BM.2.2.2.2.2.2.2.2.2.2.1, BM.2.2.2.2.2.2.2.2.2.2.2.1, BM.2.2.2.2.2.2.2.2.2.2.2.2.1, BM.2.2.2.2.2.2.2.2.2.2.2.2.2.1, BM.2.2.2.2.2.2.2.2.2.2.2.2.2.2.1, BM.2.2.2.2.2.2.2.2.2.2.2.2.2.2.2.1, BM.2.2.2.2.2.2.2.2.2.2.2.2.2.2.2.2)) := by
  obtain ⟨Ms, Mas, Mpa, Mkn, Mke, Mik, Mpp, Mle, Mso, Mfz, Msp, Mfo, Mrd, Mrs, Mlt, Mfi, Mse⟩ := BM
  have hf : f_X6_tick Ms = some (r, Ms') := hf
  show zM l yX6_tick wsX6_tick ⟨1, 0, 0, 23⟩ G c3 (zwM c3.1 c3.2.2 oM (Ms, Mas, Mpa, Mkn, Mke, Mik, Mpp, Mle, Mso, Mfz, Msp, Mfo, Mrd, Mrs, Mlt, Mfi, Mse)) [.ref oM.1] (some (.int r)) (zwM c3.1 c3.2.2 oM (Ms', Mas, Mpa, Mkn, Mke, Mik, Mpp, Mle, Mso, Mfz, Msp, Mfo, Mrd, Mrs, Mlt, Mfi, Mse))
  refine zM.of (cc := cX6_tick) (maxL := 3) (ret := (some .int)) (by decide) rfl (Nat.le_of_ble_eq_true rfl) ?_
  intro p e s m args below meth c A ls S0 hr hlk hC hl
  have S0 : CallFix p m c cX6_tick 3 s args wsX6_tick RX6 := S0
  have hl : lv_has ls 3 [(0, .ref oM.1)] := hl
  have hx := S0.1
  have hb := S0.2.1
  obtain ⟨H, hH⟩ : ∃ y, y = s.heap := ⟨_, rfl⟩
  rw [← hH] at hC ⊢
  obtain ⟨locs, hlo⟩ : ∃ y : List Loc, y = [] := ⟨_, rfl⟩
  rw [← hlo] at hC ⊢
  clear hH hlo
  unfold f_X6_tick at hf
  refine lv_aload_n hx hb dX6_tick_0 rfl (lv_at hl 0 rfl) ?_
  refine z_get S0 hC (ci := 6) (C := RX6) (T := TX6) (N := 17) (v := .ref oM.2.1) jX6_tick_X6 0 rfl rfl 0 (by decide) kX6_tick_7 rfl rfl dX6_tick_1 ?_
  refine lv_iconst (v := 3) hx hb dX6_tick_4 (by decide) ?_
  refine lv_dup2_11 hx hb dX6_tick_5 rfl rfl ?_
  obtain ⟨x1, hx1, hf⟩ := z_bind hf
  refine z_iald S0 hC 1 rfl hx1 dX6_tick_6 ?_
  refine lv_iconst (v := 1) hx hb dX6_tick_7 (by decide) ?_
  refine lv_iadd hx hb dX6_tick_8 ?_
  obtain ⟨g2, hg2, hf⟩ := z_bind hf
  refine z_iast S0 hC 1 rfl hg2 dX6_tick_9 (ws2 := (zwM c3.1 c3.2.2 oM (g2, Mas, Mpa, Mkn, Mke, Mik, Mpp, Mle, Mso, Mfz, Msp, Mfo, Mrd, Mrs, Mlt, Mfi, Mse))) rfl (fun H locs hC => ?_)
  refine lv_iconst (v := 0) hx hb dX6_tick_10 (by decide) ?_
  refine lv_istore_n (lv' := [(1, .int 0), (0, .ref oM.1)]) hx hb dX6_tick_11 rfl hl (by decide) rfl (fun ls hl => ?_)
  refine lv_iconst (v := 0) hx hb dX6_tick_12 (by decide) ?_
  refine lv_istore_n (lv' := [(2, .int 0), (1, .int 0), (0, .ref oM.1)]) hx hb dX6_tick_13 rfl hl (by decide) rfl (fun ls hl => ?_)
  have L14 : ∀ (fu : Nat) (y1 : Int32) (y2 : Int32) (Ms : (Nat → Int32)) (Mas : (Nat → Int32)) (Mpa : (Nat → Int32)) (Mkn : Int32) (Mke : (Nat → Int32)) (Mik : Int32) (Mpp : (Nat → Int32)) (Mle : Int32) (Mso : (Nat → Int32)) (Mfz : Int32) (Msp : Int32) (Mfo : Int32) (Mrd : (Nat → Int32)) (Mrs : Int32) (Mlt : Int32) (Mfi : Int32) (Mse : Int32) (tt : Int32 × Int32 × (Nat → Int32)), f_X6_tick_14 fu y1 y2 Ms = some tt → ∀ (H : Heap) (locs : List Loc) (ls : Array Slot), zC G c3 A s (zwM c3.1 c3.2.2 oM (Ms, Mas, Mpa, Mkn, Mke, Mik, Mpp, Mle, Mso, Mfz, Msp, Mfo, Mrd, Mrs, Mlt, Mfi, Mse)) H locs → lv_has ls 3 [(0, .ref oM.1), (1, .int y1), (2, .int y2)] → (∀ (H : Heap) (locs : List Loc) (ls : Array Slot), zC G c3 A s (zwM c3.1 c3.2.2 oM (tt.2.2, Mas, Mpa, Mkn, Mke, Mik, Mpp, Mle, Mso, Mfz, Msp, Mfo, Mrd, Mrs, Mlt, Mfi, Mse)) H locs → lv_has ls 3 [(0, .ref oM.1), (1, .int tt.1), (2, .int tt.2.1)] → W p l e ⟨1, 0, 0, 23⟩ s m args below meth c H locs 0 0 (MQ below (zPost G (zwM c3.1 c3.2.2 oM (Ms', Mas, Mpa, Mkn, Mke, Mik, Mpp, Mle, Mso, Mfz, Msp, Mfo, Mrd, Mrs, Mlt, Mfi, Mse)) (some (.int r)) A) args s 0 0 A) (F0 m 119 ls [])) → W p l e ⟨1, 0, 0, 23⟩ s m args below meth c H locs 0 0 (MQ below (zPost G (zwM c3.1 c3.2.2 oM (Ms', Mas, Mpa, Mkn, Mke, Mik, Mpp, Mle, Mso, Mfz, Msp, Mfo, Mrd, Mrs, Mlt, Mfi, Mse)) (some (.int r)) A) args s 0 0 A) (F0 m 14 ls []) := by
    intro fu
    induction fu with
    | zero =>
      intro y1 y2 Ms Mas Mpa Mkn Mke Mik Mpp Mle Mso Mfz Msp Mfo Mrd Mrs Mlt Mfi Mse tt hf H locs ls hC hl hK
      exact (z_none hf).elim
    | succ fu ih14 =>
      intro y1 y2 Ms Mas Mpa Mkn Mke Mik Mpp Mle Mso Mfz Msp Mfo Mrd Mrs Mlt Mfi Mse tt hf H locs ls hC hl hK
      replace hf := (f_X6_tick_14_s y1 y2 Ms fu).symm.trans hf
      refine lv_iload_n hx hb dX6_tick_14 rfl (lv_at hl 2 rfl) ?_
      refine lv_aload_n hx hb dX6_tick_15 rfl (lv_at hl 0 rfl) ?_
      refine z_get S0 hC (ci := 6) (C := RX6) (T := TX6) (N := 17) (v := .ref oM.2.1) jX6_tick_X6 0 rfl rfl 0 (by decide) kX6_tick_7 rfl rfl dX6_tick_16 ?_
      refine lv_iconst (v := 1) hx hb dX6_tick_19 (by decide) ?_
      obtain ⟨x4, hx4, hf⟩ := z_bind hf
      refine z_iald S0 hC 1 rfl hx4 dX6_tick_20 ?_
      refine lv_icmp_ge (tgt := 119) hx hb dX6_tick_21 (by decide) (fun cd5 => ?_) (fun cd5 => ?_)
      · replace hf := z_pos cd5 hf
        have e1 := z_s1 hf
        subst e1
        exact hK H locs ls hC (lv_sub hl [0, 1, 2] rfl)
      · replace hf := z_neg cd5 hf
        refine lv_aload_n hx hb dX6_tick_24 rfl (lv_at hl 0 rfl) ?_
        refine lv_iload_n hx hb dX6_tick_25 rfl (lv_at hl 2 rfl) ?_
        refine lv_iconst (v := 4) hx hb dX6_tick_26 (by decide) ?_
        refine lv_aload_n hx hb dX6_tick_27 rfl (lv_at hl 0 rfl) ?_
        refine lv_iload_n hx hb dX6_tick_28 rfl (lv_at hl 2 rfl) ?_
        refine lv_iconst (v := 4) hx hb dX6_tick_29 (by decide) ?_
        obtain ⟨r6, hr6, hf⟩ := z_bind hf
        refine z_callPi (z_runV (n := 2) (rest := [.int 4, .int y2, .ref oM.1]) (As := [.int y2, .int 4]) S0 hC (c_X6_of l G c3 oM (Ms, Mas, Mpa, Mkn, Mke, Mik, Mpp, Mle, Mso, Mfz, Msp, Mfo, Mrd, Mrs, Mlt, Mfi, Mse) y2 4 hr6) [0, 1, 2, 3, 4, 5, 6, 7] (by decide) rfl gX6_tick_X6_of rfl rfl rfl (by decide +kernel) ⟨Nat.le_of_ble_eq_true rfl, Nat.le_of_ble_eq_true rfl⟩ (ci := 6) (q0 := 0) rfl rfl rfl hl.1 rfl (Nat.le_of_ble_eq_true rfl) dX6_tick_30) hC [0, 1, 2, 3, 4, 5, 6, 7] rfl (fun H locs hC => ?_)
        refine lv_iconst (v := 1) hx hb dX6_tick_33 (by decide) ?_
        refine lv_iadd hx hb dX6_tick_34 ?_
        obtain ⟨r7, hr7, hf⟩ := z_bind hf
        refine z_callv (z_runV (n := 3) (rest := []) (As := [.int y2, .int 4, .int (r6 + 1)]) S0 hC (c_X6_lays l G c3 oM (Ms, Mas, Mpa, Mkn, Mke, Mik, Mpp, Mle, Mso, Mfz, Msp, Mfo, Mrd, Mrs, Mlt, Mfi, Mse) y2 4 (r6 + 1) hr7) [0, 1, 2, 3, 4, 5, 6, 7] (by decide) rfl gX6_tick_X6_lays rfl rfl rfl (by decide +kernel) ⟨Nat.le_of_ble_eq_true rfl, Nat.le_of_ble_eq_true rfl⟩ (ci := 6) (q0 := 0) rfl rfl rfl hl.1 rfl (Nat.le_of_ble_eq_true rfl) dX6_tick_35) hC [0, 1, 2, 3, 4, 5, 6, 7] [] [0, 1, 2, 3, 4, 5, 6, 7] rfl (wr := ([] : va_W)) rfl (by decide) (by decide) (ws2 := (zwM c3.1 c3.2.2 oM (r7, Mas, Mpa, Mkn, Mke, Mik, Mpp, Mle, Mso, Mfz, Msp, Mfo, Mrd, Mrs, Mlt, Mfi, Mse))) rfl (by decide) (fun H locs hC => ?_)
        refine lv_aload_n hx hb dX6_tick_38 rfl (lv_at hl 0 rfl) ?_
        refine lv_iload_n hx hb dX6_tick_39 rfl (lv_at hl 2 rfl) ?_
        refine lv_iconst (v := 3) hx hb dX6_tick_40 (by decide) ?_
        refine lv_aload_n hx hb dX6_tick_41 rfl (lv_at hl 0 rfl) ?_
        refine lv_iload_n hx hb dX6_tick_42 rfl (lv_at hl 2 rfl) ?_
        refine lv_iconst (v := 3) hx hb dX6_tick_43 (by decide) ?_
        obtain ⟨r8, hr8, hf⟩ := z_bind hf
        refine z_callPi (z_runV (n := 2) (rest := [.int 3, .int y2, .ref oM.1]) (As := [.int y2, .int 3]) S0 hC (c_X6_of l G c3 oM (r7, Mas, Mpa, Mkn, Mke, Mik, Mpp, Mle, Mso, Mfz, Msp, Mfo, Mrd, Mrs, Mlt, Mfi, Mse) y2 3 hr8) [0, 1, 2, 3, 4, 5, 6, 7] (by decide) rfl gX6_tick_X6_of rfl rfl rfl (by decide +kernel) ⟨Nat.le_of_ble_eq_true rfl, Nat.le_of_ble_eq_true rfl⟩ (ci := 6) (q0 := 0) rfl rfl rfl hl.1 rfl (Nat.le_of_ble_eq_true rfl) dX6_tick_44) hC [0, 1, 2, 3, 4, 5, 6, 7] rfl (fun H locs hC => ?_)
        refine lv_aload_n hx hb dX6_tick_47 rfl (lv_at hl 0 rfl) ?_
        refine lv_iload_n hx hb dX6_tick_48 rfl (lv_at hl 2 rfl) ?_
        refine lv_iconst (v := 5) hx hb dX6_tick_49 (by decide) ?_
        obtain ⟨r9, hr9, hf⟩ := z_bind hf
        refine z_callPi (z_runV (n := 2) (rest := [.int r8, .int 3, .int y2, .ref oM.1]) (As := [.int y2, .int 5]) S0 hC (c_X6_of l G c3 oM (r7, Mas, Mpa, Mkn, Mke, Mik, Mpp, Mle, Mso, Mfz, Msp, Mfo, Mrd, Mrs, Mlt, Mfi, Mse) y2 5 hr9) [0, 1, 2, 3, 4, 5, 6, 7] (by decide) rfl gX6_tick_X6_of rfl rfl rfl (by decide +kernel) ⟨Nat.le_of_ble_eq_true rfl, Nat.le_of_ble_eq_true rfl⟩ (ci := 6) (q0 := 0) rfl rfl rfl hl.1 rfl (Nat.le_of_ble_eq_true rfl) dX6_tick_50) hC [0, 1, 2, 3, 4, 5, 6, 7] rfl (fun H locs hC => ?_)
        refine lv_iconst (v := 2) hx hb dX6_tick_53 (by decide) ?_
        obtain ⟨t11, ht11, hf⟩ := z_bind hf
        have Jt11 : ∀ (H : Heap) (locs : List Loc) (ls : Array Slot), zC G c3 A s (zwM c3.1 c3.2.2 oM (r7, Mas, Mpa, Mkn, Mke, Mik, Mpp, Mle, Mso, Mfz, Msp, Mfo, Mrd, Mrs, Mlt, Mfi, Mse)) H locs → lv_has ls 3 [(0, .ref oM.1), (1, .int y1), (2, .int y2)] → W p l e ⟨1, 0, 0, 23⟩ s m args below meth c H locs 0 0 (MQ below (zPost G (zwM c3.1 c3.2.2 oM (Ms', Mas, Mpa, Mkn, Mke, Mik, Mpp, Mle, Mso, Mfz, Msp, Mfo, Mrd, Mrs, Mlt, Mfi, Mse)) (some (.int r)) A) args s 0 0 A) (F0 m 68 ls [.int t11, .int r8, .int 3, .int y2, .ref oM.1]) := by
          intro H locs ls hC hl
          refine lv_isub hx hb dX6_tick_68 ?_
          obtain ⟨r12, hr12, hf⟩ := z_bind hf
          refine z_callv (z_runV (n := 3) (rest := []) (As := [.int y2, .int 3, .int (r8 - t11)]) S0 hC (c_X6_lays l G c3 oM (r7, Mas, Mpa, Mkn, Mke, Mik, Mpp, Mle, Mso, Mfz, Msp, Mfo, Mrd, Mrs, Mlt, Mfi, Mse) y2 3 (r8 - t11) hr12) [0, 1, 2, 3, 4, 5, 6, 7] (by decide) rfl gX6_tick_X6_lays rfl rfl rfl (by decide +kernel) ⟨Nat.le_of_ble_eq_true rfl, Nat.le_of_ble_eq_true rfl⟩ (ci := 6) (q0 := 0) rfl rfl rfl hl.1 rfl (Nat.le_of_ble_eq_true rfl) dX6_tick_69) hC [0, 1, 2, 3, 4, 5, 6, 7] [] [0, 1, 2, 3, 4, 5, 6, 7] rfl (wr := ([] : va_W)) rfl (by decide) (by decide) (ws2 := (zwM c3.1 c3.2.2 oM (r12, Mas, Mpa, Mkn, Mke, Mik, Mpp, Mle, Mso, Mfz, Msp, Mfo, Mrd, Mrs, Mlt, Mfi, Mse))) rfl (by decide) (fun H locs hC => ?_)
          refine lv_aload_n hx hb dX6_tick_72 rfl (lv_at hl 0 rfl) ?_
          refine lv_iload_n hx hb dX6_tick_73 rfl (lv_at hl 2 rfl) ?_
          refine lv_iconst (v := 3) hx hb dX6_tick_74 (by decide) ?_
          obtain ⟨r13, hr13, hf⟩ := z_bind hf
          refine z_callPi (z_runV (n := 2) (rest := []) (As := [.int y2, .int 3]) S0 hC (c_X6_of l G c3 oM (r12, Mas, Mpa, Mkn, Mke, Mik, Mpp, Mle, Mso, Mfz, Msp, Mfo, Mrd, Mrs, Mlt, Mfi, Mse) y2 3 hr13) [0, 1, 2, 3, 4, 5, 6, 7] (by decide) rfl gX6_tick_X6_of rfl rfl rfl (by decide +kernel) ⟨Nat.le_of_ble_eq_true rfl, Nat.le_of_ble_eq_true rfl⟩ (ci := 6) (q0 := 0) rfl rfl rfl hl.1 rfl (Nat.le_of_ble_eq_true rfl) dX6_tick_75) hC [0, 1, 2, 3, 4, 5, 6, 7] rfl (fun H locs hC => ?_)
          refine lv_if_le (tgt := 102) hx hb dX6_tick_78 (by decide) (fun cd14 => ?_) (fun cd14 => ?_)
          · replace hf := z_pos cd14 hf
            refine lv_aload_n hx hb dX6_tick_102 rfl (lv_at hl 0 rfl) ?_
            refine lv_iload_n hx hb dX6_tick_103 rfl (lv_at hl 2 rfl) ?_
            obtain ⟨r15, hr15, hf⟩ := z_bind hf
            refine z_callv (z_runV (n := 1) (rest := []) (As := [.int y2]) S0 hC (c_X6_dropsVoice l G c3 oM (r12, Mas, Mpa, Mkn, Mke, Mik, Mpp, Mle, Mso, Mfz, Msp, Mfo, Mrd, Mrs, Mlt, Mfi, Mse) y2 hr15) [0, 1, 2, 3, 4, 5, 6, 7] (by decide) rfl gX6_tick_X6_dropsVoice rfl rfl rfl (by decide +kernel) ⟨Nat.le_of_ble_eq_true rfl, Nat.le_of_ble_eq_true rfl⟩ (ci := 6) (q0 := 0) rfl rfl rfl hl.1 rfl (Nat.le_of_ble_eq_true rfl) dX6_tick_104) hC [0, 1, 2, 3, 4, 5, 6, 7] [] [0, 1, 2, 3, 4, 5, 6, 7] rfl (wr := ([] : va_W)) rfl (by decide) (by decide) (ws2 := (zwM c3.1 c3.2.2 oM (r15, Mas, Mpa, Mkn, Mke, Mik, Mpp, Mle, Mso, Mfz, Msp, Mfo, Mrd, Mrs, Mlt, Mfi, Mse))) rfl (by decide) (fun H locs hC => ?_)
            refine lv_iinc (v := (y1 + 1)) (lv' := [(1, .int (y1 + 1)), (0, .ref oM.1), (2, .int y2)]) hx hb dX6_tick_107 hl (k := 1) rfl rfl (by decide) rfl (fun ls hl => ?_)
            refine lv_goto (tgt := 14) hx hb dX6_tick_110 (by decide) ?_
            exact ih14 (y1 + 1) y2 r15 Mas Mpa Mkn Mke Mik Mpp Mle Mso Mfz Msp Mfo Mrd Mrs Mlt Mfi Mse _ hf H locs ls hC (lv_sub hl [1, 0, 2] rfl) hK
          · replace hf := z_neg cd14 hf
            refine lv_aload_n hx hb dX6_tick_81 rfl (lv_at hl 0 rfl) ?_
            refine lv_iload_n hx hb dX6_tick_82 rfl (lv_at hl 2 rfl) ?_
            refine lv_iconst (v := 4) hx hb dX6_tick_83 (by decide) ?_
            obtain ⟨r16, hr16, hf⟩ := z_bind hf
            refine z_callPi (z_runV (n := 2) (rest := []) (As := [.int y2, .int 4]) S0 hC (c_X6_of l G c3 oM (r12, Mas, Mpa, Mkn, Mke, Mik, Mpp, Mle, Mso, Mfz, Msp, Mfo, Mrd, Mrs, Mlt, Mfi, Mse) y2 4 hr16) [0, 1, 2, 3, 4, 5, 6, 7] (by decide) rfl gX6_tick_X6_of rfl rfl rfl (by decide +kernel) ⟨Nat.le_of_ble_eq_true rfl, Nat.le_of_ble_eq_true rfl⟩ (ci := 6) (q0 := 0) rfl rfl rfl hl.1 rfl (Nat.le_of_ble_eq_true rfl) dX6_tick_84) hC [0, 1, 2, 3, 4, 5, 6, 7] rfl (fun H locs hC => ?_)
            refine lv_aload_n hx hb dX6_tick_87 rfl (lv_at hl 0 rfl) ?_
            refine lv_aload_n hx hb dX6_tick_88 rfl (lv_at hl 0 rfl) ?_
            refine lv_iload_n hx hb dX6_tick_89 rfl (lv_at hl 2 rfl) ?_
            refine lv_iconst (v := 0) hx hb dX6_tick_90 (by decide) ?_
            obtain ⟨r17, hr17, hf⟩ := z_bind hf
            refine z_callPi (z_runV (n := 2) (rest := [.ref oM.1, .int r16]) (As := [.int y2, .int 0]) S0 hC (c_X6_of l G c3 oM (r12, Mas, Mpa, Mkn, Mke, Mik, Mpp, Mle, Mso, Mfz, Msp, Mfo, Mrd, Mrs, Mlt, Mfi, Mse) y2 0 hr17) [0, 1, 2, 3, 4, 5, 6, 7] (by decide) rfl gX6_tick_X6_of rfl rfl rfl (by decide +kernel) ⟨Nat.le_of_ble_eq_true rfl, Nat.le_of_ble_eq_true rfl⟩ (ci := 6) (q0 := 0) rfl rfl rfl hl.1 rfl (Nat.le_of_ble_eq_true rfl) dX6_tick_91) hC [0, 1, 2, 3, 4, 5, 6, 7] rfl (fun H locs hC => ?_)
            refine lv_bipush (v := 6) hx hb dX6_tick_94 (by decide) ?_
            obtain ⟨r18, hr18, hf⟩ := z_bind hf
            refine z_callPi (z_runV (n := 2) (rest := [.int r16]) (As := [.int r17, .int 6]) S0 hC (c_X6_ofZone l G c3 oM (r12, Mas, Mpa, Mkn, Mke, Mik, Mpp, Mle, Mso, Mfz, Msp, Mfo, Mrd, Mrs, Mlt, Mfi, Mse) r17 6 hr18) [0, 1, 2, 3, 4, 5, 6, 7] (by decide) rfl gX6_tick_X6_ofZone rfl rfl rfl (by decide +kernel) ⟨Nat.le_of_ble_eq_true rfl, Nat.le_of_ble_eq_true rfl⟩ (ci := 6) (q0 := 0) rfl rfl rfl hl.1 rfl (Nat.le_of_ble_eq_true rfl) dX6_tick_96) hC [0, 1, 2, 3, 4, 5, 6, 7] rfl (fun H locs hC => ?_)
            refine lv_icmp_lt (tgt := 113) hx hb dX6_tick_99 (by decide) (fun cd19 => ?_) (fun cd19 => ?_)
            · replace hf := z_pos cd19 hf
              refine lv_iinc (v := (y2 + 1)) (lv' := [(2, .int (y2 + 1)), (0, .ref oM.1), (1, .int y1)]) hx hb dX6_tick_113 hl (k := 2) rfl rfl (by decide) rfl (fun ls hl => ?_)
              refine lv_goto (tgt := 14) hx hb dX6_tick_116 (by decide) ?_
              exact ih14 y1 (y2 + 1) r12 Mas Mpa Mkn Mke Mik Mpp Mle Mso Mfz Msp Mfo Mrd Mrs Mlt Mfi Mse _ hf H locs ls hC (lv_sub hl [1, 2, 0] rfl) hK
            · replace hf := z_neg cd19 hf
              refine lv_aload_n hx hb dX6_tick_102 rfl (lv_at hl 0 rfl) ?_
              refine lv_iload_n hx hb dX6_tick_103 rfl (lv_at hl 2 rfl) ?_
              obtain ⟨r20, hr20, hf⟩ := z_bind hf
              refine z_callv (z_runV (n := 1) (rest := []) (As := [.int y2]) S0 hC (c_X6_dropsVoice l G c3 oM (r12, Mas, Mpa, Mkn, Mke, Mik, Mpp, Mle, Mso, Mfz, Msp, Mfo, Mrd, Mrs, Mlt, Mfi, Mse) y2 hr20) [0, 1, 2, 3, 4, 5, 6, 7] (by decide) rfl gX6_tick_X6_dropsVoice rfl rfl rfl (by decide +kernel) ⟨Nat.le_of_ble_eq_true rfl, Nat.le_of_ble_eq_true rfl⟩ (ci := 6) (q0 := 0) rfl rfl rfl hl.1 rfl (Nat.le_of_ble_eq_true rfl) dX6_tick_104) hC [0, 1, 2, 3, 4, 5, 6, 7] [] [0, 1, 2, 3, 4, 5, 6, 7] rfl (wr := ([] : va_W)) rfl (by decide) (by decide) (ws2 := (zwM c3.1 c3.2.2 oM (r20, Mas, Mpa, Mkn, Mke, Mik, Mpp, Mle, Mso, Mfz, Msp, Mfo, Mrd, Mrs, Mlt, Mfi, Mse))) rfl (by decide) (fun H locs hC => ?_)
              refine lv_iinc (v := (y1 + 1)) (lv' := [(1, .int (y1 + 1)), (0, .ref oM.1), (2, .int y2)]) hx hb dX6_tick_107 hl (k := 1) rfl rfl (by decide) rfl (fun ls hl => ?_)
              refine lv_goto (tgt := 14) hx hb dX6_tick_110 (by decide) ?_
              exact ih14 (y1 + 1) y2 r20 Mas Mpa Mkn Mke Mik Mpp Mle Mso Mfz Msp Mfo Mrd Mrs Mlt Mfi Mse _ hf H locs ls hC (lv_sub hl [1, 0, 2] rfl) hK
        refine lv_icmp_ne (tgt := 67) hx hb dX6_tick_54 (by decide) (fun cd10 => ?_) (fun cd10 => ?_)
        · replace ht11 := z_neg cd10 ht11
          refine lv_iconst (v := 1) hx hb dX6_tick_67 (by decide) ?_
          have e1 := z_s1 ht11
          subst e1
          exact Jt11 H locs ls hC (lv_sub hl [0, 1, 2] rfl)
        · replace ht11 := z_pos cd10 ht11
          refine lv_aload_n hx hb dX6_tick_57 rfl (lv_at hl 0 rfl) ?_
          refine z_get S0 hC (ci := 6) (C := RX6) (T := TX6) (N := 17) (v := .ref oM.2.1) jX6_tick_X6 0 rfl rfl 0 (by decide) kX6_tick_7 rfl rfl dX6_tick_58 ?_
          refine lv_bipush (v := 11) hx hb dX6_tick_61 (by decide) ?_
          obtain ⟨x21, hx21, ht11⟩ := z_bind ht11
          refine z_iald S0 hC 1 rfl hx21 dX6_tick_63 ?_
          refine lv_goto (tgt := 68) hx hb dX6_tick_64 (by decide) ?_
          have e1 := z_s1 ht11
          subst e1
          exact Jt11 H locs ls hC (lv_sub hl [0, 1, 2] rfl)
  obtain ⟨t22, ht22, hf⟩ := z_bind hf
  refine L14 zF 0 0 g2 Mas Mpa Mkn Mke Mik Mpp Mle Mso Mfz Msp Mfo Mrd Mrs Mlt Mfi Mse t22 ht22 H locs ls hC (lv_sub hl [2, 1, 0] rfl) (fun H locs ls hC hl => ?_)
  refine lv_aload_n hx hb dX6_tick_119 rfl (lv_at hl 0 rfl) ?_
  refine z_get S0 hC (ci := 6) (C := RX6) (T := TX6) (N := 17) (v := .ref oM.2.1) jX6_tick_X6 0 rfl rfl 0 (by decide) kX6_tick_7 rfl rfl dX6_tick_120 ?_
  refine lv_iconst (v := 5) hx hb dX6_tick_123 (by decide) ?_
  refine lv_dup2_11 hx hb dX6_tick_124 rfl rfl ?_
  obtain ⟨x23, hx23, hf⟩ := z_bind hf
  refine z_iald S0 hC 1 rfl hx23 dX6_tick_125 ?_
  refine lv_iload_n hx hb dX6_tick_126 rfl (lv_at hl 1 rfl) ?_
  refine lv_iadd hx hb dX6_tick_127 ?_
  obtain ⟨g24, hg24, hf⟩ := z_bind hf
  refine z_iast S0 hC 1 rfl hg24 dX6_tick_128 (ws2 := (zwM c3.1 c3.2.2 oM (g24, Mas, Mpa, Mkn, Mke, Mik, Mpp, Mle, Mso, Mfz, Msp, Mfo, Mrd, Mrs, Mlt, Mfi, Mse))) rfl (fun H locs hC => ?_)
  refine lv_iload_n hx hb dX6_tick_129 rfl (lv_at hl 1 rfl) ?_
  obtain ⟨e1, e2⟩ := z_s2 hf
  subst e1
  subst e2
  exact z_iret S0 hr hlk hC dX6_tick_130

-- X6 goPass
def f_X6_goPass_4 (y1 : Int32) : Nat → Int32 → Int32 → (Nat → Int32) → Option (Int32 × Int32 × (Nat → Int32))
  | 0, _, _, _ => none
  | fu + 1, y2, y3, Ms =>
    if y1 ≤ y3 then
      some (y2, y3, Ms)
    else
      (f_X6_tick Ms).bind fun r3 => f_X6_goPass_4 y1 fu (y2 + r3.1) (y3 + 1) r3.2

theorem f_X6_goPass_4_s (y1 : Int32) (y2 : Int32) (y3 : Int32) (Ms : (Nat → Int32)) (fu : Nat) : f_X6_goPass_4 y1 (fu + 1) y2 y3 Ms = (
    if y1 ≤ y3 then
      some (y2, y3, Ms)
    else
      (f_X6_tick Ms).bind fun r3 => f_X6_goPass_4 y1 fu (y2 + r3.1) (y3 + 1) r3.2
    ) := rfl

def f_X6_goPass (Ms : (Nat → Int32)) (p1 : Int32) : Option (Int32 × (Nat → Int32)) :=
  (f_X6_goPass_4 p1 zF 0 0 Ms).bind fun t4 =>
    some (t4.1, t4.2.2)

set_option maxHeartbeats 4000000 in
set_option maxRecDepth 100000 in
theorem c_X6_goPass (l : Launch) (G : va_G) (c3 : zT3) (oM : zR8) (BM : zMd) (p1 : Int32) {r : Int32} {Ms' : (Nat → Int32)} (hf : f_X6_goPass BM.1 p1 = some (r, Ms')) : zM l yX6_goPass wsX6_goPass ⟨2, 0, 0, 45⟩ G c3 (zwM c3.1 c3.2.2 oM (BM.1, BM.2.1, BM.2.2.1, BM.2.2.2.1, BM.2.2.2.2.1, BM.2.2.2.2.2.1, BM.2.2.2.2.2.2.1, BM.2.2.2.2.2.2.2.1, BM.2.2.2.2.2.2.2.2.1, BM.2.2.2.2.2.2.2.2.2.1, BM.2.2.2.2.2.2.2.2.2.2.1, BM.2.2.2.2.2.2.2.2.2.2.2.1, BM.2.2.2.2.2.2.2.2.2.2.2.2.1, BM.2.2.2.2.2.2.2.2.2.2.2.2.2.1, BM.2.2.2.2.2.2.2.2.2.2.2.2.2.2.1, BM.2.2.2.2.2.2.2.2.2.2.2.2.2.2.2.1, BM.2.2.2.2.2.2.2.2.2.2.2.2.2.2.2.2)) [.ref oM.1, .int p1] (some (.int r)) (zwM c3.1 c3.2.2 oM (Ms', BM.2.1, BM.2.2.1, BM.2.2.2.1, BM.2.2.2.2.1, BM.2.2.2.2.2.1, BM.2.2.2.2.2.2.1, BM.2.2.2.2.2.2.2.1, BM.2.2.2.2.2.2.2.2.1, BM.2.2.2.2.2.2.2.2.2.1, BM.2.2.2.2.2.2.2.2.2.2.1, BM.2.2.2.2.2.2.2.2.2.2.2.1, BM.2.2.2.2.2.2.2.2.2.2.2.2.1, BM.2.2.2.2.2.2.2.2.2.2.2.2.2.1, BM.2.2.2.2.2.2.2.2.2.2.2.2.2.2.1, BM.2.2.2.2.2.2.2.2.2.2.2.2.2.2.2.1, BM.2.2.2.2.2.2.2.2.2.2.2.2.2.2.2.2)) := by
  obtain ⟨Ms, Mas, Mpa, Mkn, Mke, Mik, Mpp, Mle, Mso, Mfz, Msp, Mfo, Mrd, Mrs, Mlt, Mfi, Mse⟩ := BM
  have hf : f_X6_goPass Ms p1 = some (r, Ms') := hf
  show zM l yX6_goPass wsX6_goPass ⟨2, 0, 0, 45⟩ G c3 (zwM c3.1 c3.2.2 oM (Ms, Mas, Mpa, Mkn, Mke, Mik, Mpp, Mle, Mso, Mfz, Msp, Mfo, Mrd, Mrs, Mlt, Mfi, Mse)) [.ref oM.1, .int p1] (some (.int r)) (zwM c3.1 c3.2.2 oM (Ms', Mas, Mpa, Mkn, Mke, Mik, Mpp, Mle, Mso, Mfz, Msp, Mfo, Mrd, Mrs, Mlt, Mfi, Mse))
  refine zM.of (cc := cX6_goPass) (maxL := 4) (ret := (some .int)) (by decide) rfl (Nat.le_of_ble_eq_true rfl) ?_
  intro p e s m args below meth c A ls S0 hr hlk hC hl
  have S0 : CallFix p m c cX6_goPass 4 s args wsX6_goPass RX6 := S0
  have hl : lv_has ls 4 [(0, .ref oM.1), (1, .int p1)] := hl
  have hx := S0.1
  have hb := S0.2.1
  obtain ⟨H, hH⟩ : ∃ y, y = s.heap := ⟨_, rfl⟩
  rw [← hH] at hC ⊢
  obtain ⟨locs, hlo⟩ : ∃ y : List Loc, y = [] := ⟨_, rfl⟩
  rw [← hlo] at hC ⊢
  clear hH hlo
  unfold f_X6_goPass at hf
  refine lv_iconst (v := 0) hx hb dX6_goPass_0 (by decide) ?_
  refine lv_istore_n (lv' := [(2, .int 0), (0, .ref oM.1), (1, .int p1)]) hx hb dX6_goPass_1 rfl hl (by decide) rfl (fun ls hl => ?_)
  refine lv_iconst (v := 0) hx hb dX6_goPass_2 (by decide) ?_
  refine lv_istore_n (lv' := [(3, .int 0), (2, .int 0), (0, .ref oM.1), (1, .int p1)]) hx hb dX6_goPass_3 rfl hl (by decide) rfl (fun ls hl => ?_)
  have L4 : ∀ (fu : Nat) (y1 : Int32) (y2 : Int32) (y3 : Int32) (Ms : (Nat → Int32)) (Mas : (Nat → Int32)) (Mpa : (Nat → Int32)) (Mkn : Int32) (Mke : (Nat → Int32)) (Mik : Int32) (Mpp : (Nat → Int32)) (Mle : Int32) (Mso : (Nat → Int32)) (Mfz : Int32) (Msp : Int32) (Mfo : Int32) (Mrd : (Nat → Int32)) (Mrs : Int32) (Mlt : Int32) (Mfi : Int32) (Mse : Int32) (tt : Int32 × Int32 × (Nat → Int32)), f_X6_goPass_4 y1 fu y2 y3 Ms = some tt → ∀ (H : Heap) (locs : List Loc) (ls : Array Slot), zC G c3 A s (zwM c3.1 c3.2.2 oM (Ms, Mas, Mpa, Mkn, Mke, Mik, Mpp, Mle, Mso, Mfz, Msp, Mfo, Mrd, Mrs, Mlt, Mfi, Mse)) H locs → lv_has ls 4 [(0, .ref oM.1), (1, .int y1), (2, .int y2), (3, .int y3)] → (∀ (H : Heap) (locs : List Loc) (ls : Array Slot), zC G c3 A s (zwM c3.1 c3.2.2 oM (tt.2.2, Mas, Mpa, Mkn, Mke, Mik, Mpp, Mle, Mso, Mfz, Msp, Mfo, Mrd, Mrs, Mlt, Mfi, Mse)) H locs → lv_has ls 4 [(0, .ref oM.1), (1, .int y1), (2, .int tt.1), (3, .int tt.2.1)] → W p l e ⟨2, 0, 0, 45⟩ s m args below meth c H locs 0 0 (MQ below (zPost G (zwM c3.1 c3.2.2 oM (Ms', Mas, Mpa, Mkn, Mke, Mik, Mpp, Mle, Mso, Mfz, Msp, Mfo, Mrd, Mrs, Mlt, Mfi, Mse)) (some (.int r)) A) args s 0 0 A) (F0 m 22 ls [])) → W p l e ⟨2, 0, 0, 45⟩ s m args below meth c H locs 0 0 (MQ below (zPost G (zwM c3.1 c3.2.2 oM (Ms', Mas, Mpa, Mkn, Mke, Mik, Mpp, Mle, Mso, Mfz, Msp, Mfo, Mrd, Mrs, Mlt, Mfi, Mse)) (some (.int r)) A) args s 0 0 A) (F0 m 4 ls []) := by
    intro fu
    induction fu with
    | zero =>
      intro y1 y2 y3 Ms Mas Mpa Mkn Mke Mik Mpp Mle Mso Mfz Msp Mfo Mrd Mrs Mlt Mfi Mse tt hf H locs ls hC hl hK
      exact (z_none hf).elim
    | succ fu ih4 =>
      intro y1 y2 y3 Ms Mas Mpa Mkn Mke Mik Mpp Mle Mso Mfz Msp Mfo Mrd Mrs Mlt Mfi Mse tt hf H locs ls hC hl hK
      replace hf := (f_X6_goPass_4_s y1 y2 y3 Ms fu).symm.trans hf
      refine lv_iload_n hx hb dX6_goPass_4 rfl (lv_at hl 3 rfl) ?_
      refine lv_iload_n hx hb dX6_goPass_5 rfl (lv_at hl 1 rfl) ?_
      refine lv_icmp_ge (tgt := 22) hx hb dX6_goPass_6 (by decide) (fun cd2 => ?_) (fun cd2 => ?_)
      · replace hf := z_pos cd2 hf
        have e1 := z_s1 hf
        subst e1
        exact hK H locs ls hC (lv_sub hl [0, 1, 2, 3] rfl)
      · replace hf := z_neg cd2 hf
        refine lv_iload_n hx hb dX6_goPass_9 rfl (lv_at hl 2 rfl) ?_
        refine lv_aload_n hx hb dX6_goPass_10 rfl (lv_at hl 0 rfl) ?_
        obtain ⟨r3, hr3, hf⟩ := z_bind hf
        refine z_calli (z_runV (n := 0) (rest := [.int y2]) (As := []) S0 hC (c_X6_tick l G c3 oM (Ms, Mas, Mpa, Mkn, Mke, Mik, Mpp, Mle, Mso, Mfz, Msp, Mfo, Mrd, Mrs, Mlt, Mfi, Mse) hr3) [0, 1, 2, 3, 4, 5, 6, 7] (by decide) rfl gX6_goPass_X6_tick rfl rfl rfl (by decide +kernel) ⟨Nat.le_of_ble_eq_true rfl, Nat.le_of_ble_eq_true rfl⟩ (ci := 6) (q0 := 0) rfl rfl rfl hl.1 rfl (Nat.le_of_ble_eq_true rfl) dX6_goPass_11) hC [0, 1, 2, 3, 4, 5, 6, 7] [] [0, 1, 2, 3, 4, 5, 6, 7] rfl (wr := ([] : va_W)) rfl (by decide) (by decide) (ws2 := (zwM c3.1 c3.2.2 oM (r3.2, Mas, Mpa, Mkn, Mke, Mik, Mpp, Mle, Mso, Mfz, Msp, Mfo, Mrd, Mrs, Mlt, Mfi, Mse))) rfl (by decide) (fun H locs hC => ?_)
        refine lv_iadd hx hb dX6_goPass_14 ?_
        refine lv_istore_n (lv' := [(2, .int (y2 + r3.1)), (0, .ref oM.1), (1, .int y1), (3, .int y3)]) hx hb dX6_goPass_15 rfl hl (by decide) rfl (fun ls hl => ?_)
        refine lv_iinc (v := (y3 + 1)) (lv' := [(3, .int (y3 + 1)), (2, .int (y2 + r3.1)), (0, .ref oM.1), (1, .int y1)]) hx hb dX6_goPass_16 hl (k := 3) rfl rfl (by decide) rfl (fun ls hl => ?_)
        refine lv_goto (tgt := 4) hx hb dX6_goPass_19 (by decide) ?_
        exact ih4 y1 (y2 + r3.1) (y3 + 1) r3.2 Mas Mpa Mkn Mke Mik Mpp Mle Mso Mfz Msp Mfo Mrd Mrs Mlt Mfi Mse _ hf H locs ls hC (lv_sub hl [2, 3, 1, 0] rfl) hK
  obtain ⟨t4, ht4, hf⟩ := z_bind hf
  refine L4 zF p1 0 0 Ms Mas Mpa Mkn Mke Mik Mpp Mle Mso Mfz Msp Mfo Mrd Mrs Mlt Mfi Mse t4 ht4 H locs ls hC (lv_sub hl [2, 3, 1, 0] rfl) (fun H locs ls hC hl => ?_)
  refine lv_iload_n hx hb dX6_goPass_22 rfl (lv_at hl 2 rfl) ?_
  obtain ⟨e1, e2⟩ := z_s2 hf
  subst e1
  subst e2
  exact z_iret S0 hr hlk hC dX6_goPass_23

-- X6 addsZone
def f_X6_addsZone (Ms : (Nat → Int32)) (p1 : Int32) (p2 : Int32) (p3 : Int32) (p4 : Int32) : Option ((Nat → Int32)) :=
  (zald 150 Ms 0).bind fun x1 => (f_X6_laysZone Ms x1 0 p1).bind fun r2 => (f_X6_laysZone r2 x1 1 p2).bind fun r3 => (f_X6_laysZone r3 x1 2 p3).bind fun r4 => (f_X6_laysZone r4 x1 3 p4).bind fun r5 => (f_X6_laysZone r5 x1 4 0).bind fun r6 => (f_X6_laysZone r6 x1 5 0).bind fun r7 => (f_X6_laysZone r7 x1 6 60).bind fun r8 => (zald 150 r8 0).bind fun x9 => (zast 150 r8 0 (x9 + 1)).bind fun g10 => some (g10)

theorem kX6_addsZone_7 : Cond.fieldLink RX6 7 "ZoneSamplerModel" "s" "[I" ∈ wsX6_addsZone := by decide +kernel
theorem jX6_addsZone_X6 : ∀ w ∈ u_ws RX6 TX6 17, w ∈ wsX6_addsZone := by decide +kernel
set_option maxHeartbeats 4000000 in
set_option maxRecDepth 100000 in
theorem c_X6_addsZone (l : Launch) (G : va_G) (c3 : zT3) (oM : zR8) (BM : zMd) (p1 : Int32) (p2 : Int32) (p3 : Int32) (p4 : Int32) {Ms' : (Nat → Int32)} (hf : f_X6_addsZone BM.1 p1 p2 p3 p4 = some (Ms')) : zM l yX6_addsZone wsX6_addsZone ⟨1, 0, 0, 23⟩ G c3 (zwM c3.1 c3.2.2 oM (BM.1, BM.2.1, BM.2.2.1, BM.2.2.2.1, BM.2.2.2.2.1, BM.2.2.2.2.2.1, BM.2.2.2.2.2.2.1, BM.2.2.2.2.2.2.2.1, BM.2.2.2.2.2.2.2.2.1, BM.2.2.2.2.2.2.2.2.2.1, BM.2.2.2.2.2.2.2.2.2.2.1, BM.2.2.2.2.2.2.2.2.2.2.2.1, BM.2.2.2.2.2.2.2.2.2.2.2.2.1, BM.2.2.2.2.2.2.2.2.2.2.2.2.2.1, BM.2.2.2.2.2.2.2.2.2.2.2.2.2.2.1, BM.2.2.2.2.2.2.2.2.2.2.2.2.2.2.2.1, BM.2.2.2.2.2.2.2.2.2.2.2.2.2.2.2.2)) [.ref oM.1, .int p1, .int p2, .int p3, .int p4] none (zwM c3.1 c3.2.2 oM (Ms', BM.2.1, BM.2.2.1, BM.2.2.2.1, BM.2.2.2.2.1, BM.2.2.2.2.2.1, BM.2.2.2.2.2.2.1, BM.2.2.2.2.2.2.2.1, BM.2.2.2.2.2.2.2.2.1, BM.2.2.2.2.2.2.2.2.2.1, BM.2.2.2.2.2.2.2.2.2.2.1, BM.2.2.2.2.2.2.2.2.2.2.2.1, BM.2.2.2.2.2.2.2.2.2.2.2.2.1, BM.2.2.2.2.2.2.2.2.2.2.2.2.2.1, BM.2.2.2.2.2.2.2.2.2.2.2.2.2.2.1, BM.2.2.2.2.2.2.2.2.2.2.2.2.2.2.2.1, BM.2.2.2.2.2.2.2.2.2.2.2.2.2.2.2.2)) := by
  obtain ⟨Ms, Mas, Mpa, Mkn, Mke, Mik, Mpp, Mle, Mso, Mfz, Msp, Mfo, Mrd, Mrs, Mlt, Mfi, Mse⟩ := BM
  have hf : f_X6_addsZone Ms p1 p2 p3 p4 = some (Ms') := hf
  show zM l yX6_addsZone wsX6_addsZone ⟨1, 0, 0, 23⟩ G c3 (zwM c3.1 c3.2.2 oM (Ms, Mas, Mpa, Mkn, Mke, Mik, Mpp, Mle, Mso, Mfz, Msp, Mfo, Mrd, Mrs, Mlt, Mfi, Mse)) [.ref oM.1, .int p1, .int p2, .int p3, .int p4] none (zwM c3.1 c3.2.2 oM (Ms', Mas, Mpa, Mkn, Mke, Mik, Mpp, Mle, Mso, Mfz, Msp, Mfo, Mrd, Mrs, Mlt, Mfi, Mse))
  refine zM.of (cc := cX6_addsZone) (maxL := 6) (ret := none) (by decide) rfl (Nat.le_of_ble_eq_true rfl) ?_
  intro p e s m args below meth c A ls S0 hr hlk hC hl
  have S0 : CallFix p m c cX6_addsZone 6 s args wsX6_addsZone RX6 := S0
  have hl : lv_has ls 6 [(0, .ref oM.1), (1, .int p1), (2, .int p2), (3, .int p3), (4, .int p4)] := hl
  have hx := S0.1
  have hb := S0.2.1
  obtain ⟨H, hH⟩ : ∃ y, y = s.heap := ⟨_, rfl⟩
  rw [← hH] at hC ⊢
  obtain ⟨locs, hlo⟩ : ∃ y : List Loc, y = [] := ⟨_, rfl⟩
  rw [← hlo] at hC ⊢
  clear hH hlo
  unfold f_X6_addsZone at hf
  refine lv_aload_n hx hb dX6_addsZone_0 rfl (lv_at hl 0 rfl) ?_
  refine z_get S0 hC (ci := 6) (C := RX6) (T := TX6) (N := 17) (v := .ref oM.2.1) jX6_addsZone_X6 0 rfl rfl 0 (by decide) kX6_addsZone_7 rfl rfl dX6_addsZone_1 ?_
  refine lv_iconst (v := 0) hx hb dX6_addsZone_4 (by decide) ?_
  obtain ⟨x1, hx1, hf⟩ := z_bind hf
  refine z_iald S0 hC 1 rfl hx1 dX6_addsZone_5 ?_
  refine lv_istore (lv' := [(5, .int x1), (0, .ref oM.1), (1, .int p1), (2, .int p2), (3, .int p3), (4, .int p4)]) hx hb dX6_addsZone_6 hl (by decide) rfl (fun ls hl => ?_)
  refine lv_aload_n hx hb dX6_addsZone_8 rfl (lv_at hl 1 rfl) ?_
  refine lv_iload hx hb dX6_addsZone_9 (lv_at hl 0 rfl) ?_
  refine lv_iconst (v := 0) hx hb dX6_addsZone_11 (by decide) ?_
  refine lv_iload_n hx hb dX6_addsZone_12 rfl (lv_at hl 2 rfl) ?_
  obtain ⟨r2, hr2, hf⟩ := z_bind hf
  refine z_callv (z_runV (n := 3) (rest := []) (As := [.int x1, .int 0, .int p1]) S0 hC (c_X6_laysZone l G c3 oM (Ms, Mas, Mpa, Mkn, Mke, Mik, Mpp, Mle, Mso, Mfz, Msp, Mfo, Mrd, Mrs, Mlt, Mfi, Mse) x1 0 p1 hr2) [0, 1, 2, 3, 4, 5, 6, 7] (by decide) rfl gX6_addsZone_X6_laysZone rfl rfl rfl (by decide +kernel) ⟨Nat.le_of_ble_eq_true rfl, Nat.le_of_ble_eq_true rfl⟩ (ci := 6) (q0 := 0) rfl rfl rfl hl.1 rfl (Nat.le_of_ble_eq_true rfl) dX6_addsZone_13) hC [0, 1, 2, 3, 4, 5, 6, 7] [] [0, 1, 2, 3, 4, 5, 6, 7] rfl (wr := ([] : va_W)) rfl (by decide) (by decide) (ws2 := (zwM c3.1 c3.2.2 oM (r2, Mas, Mpa, Mkn, Mke, Mik, Mpp, Mle, Mso, Mfz, Msp, Mfo, Mrd, Mrs, Mlt, Mfi, Mse))) rfl (by decide) (fun H locs hC => ?_)
  refine lv_aload_n hx hb dX6_addsZone_16 rfl (lv_at hl 1 rfl) ?_
  refine lv_iload hx hb dX6_addsZone_17 (lv_at hl 0 rfl) ?_
  refine lv_iconst (v := 1) hx hb dX6_addsZone_19 (by decide) ?_
  refine lv_iload_n hx hb dX6_addsZone_20 rfl (lv_at hl 3 rfl) ?_
  obtain ⟨r3, hr3, hf⟩ := z_bind hf
  refine z_callv (z_runV (n := 3) (rest := []) (As := [.int x1, .int 1, .int p2]) S0 hC (c_X6_laysZone l G c3 oM (r2, Mas, Mpa, Mkn, Mke, Mik, Mpp, Mle, Mso, Mfz, Msp, Mfo, Mrd, Mrs, Mlt, Mfi, Mse) x1 1 p2 hr3) [0, 1, 2, 3, 4, 5, 6, 7] (by decide) rfl gX6_addsZone_X6_laysZone rfl rfl rfl (by decide +kernel) ⟨Nat.le_of_ble_eq_true rfl, Nat.le_of_ble_eq_true rfl⟩ (ci := 6) (q0 := 0) rfl rfl rfl hl.1 rfl (Nat.le_of_ble_eq_true rfl) dX6_addsZone_21) hC [0, 1, 2, 3, 4, 5, 6, 7] [] [0, 1, 2, 3, 4, 5, 6, 7] rfl (wr := ([] : va_W)) rfl (by decide) (by decide) (ws2 := (zwM c3.1 c3.2.2 oM (r3, Mas, Mpa, Mkn, Mke, Mik, Mpp, Mle, Mso, Mfz, Msp, Mfo, Mrd, Mrs, Mlt, Mfi, Mse))) rfl (by decide) (fun H locs hC => ?_)
  refine lv_aload_n hx hb dX6_addsZone_24 rfl (lv_at hl 1 rfl) ?_
  refine lv_iload hx hb dX6_addsZone_25 (lv_at hl 0 rfl) ?_
  refine lv_iconst (v := 2) hx hb dX6_addsZone_27 (by decide) ?_
  refine lv_iload_n hx hb dX6_addsZone_28 rfl (lv_at hl 4 rfl) ?_
  obtain ⟨r4, hr4, hf⟩ := z_bind hf
  refine z_callv (z_runV (n := 3) (rest := []) (As := [.int x1, .int 2, .int p3]) S0 hC (c_X6_laysZone l G c3 oM (r3, Mas, Mpa, Mkn, Mke, Mik, Mpp, Mle, Mso, Mfz, Msp, Mfo, Mrd, Mrs, Mlt, Mfi, Mse) x1 2 p3 hr4) [0, 1, 2, 3, 4, 5, 6, 7] (by decide) rfl gX6_addsZone_X6_laysZone rfl rfl rfl (by decide +kernel) ⟨Nat.le_of_ble_eq_true rfl, Nat.le_of_ble_eq_true rfl⟩ (ci := 6) (q0 := 0) rfl rfl rfl hl.1 rfl (Nat.le_of_ble_eq_true rfl) dX6_addsZone_29) hC [0, 1, 2, 3, 4, 5, 6, 7] [] [0, 1, 2, 3, 4, 5, 6, 7] rfl (wr := ([] : va_W)) rfl (by decide) (by decide) (ws2 := (zwM c3.1 c3.2.2 oM (r4, Mas, Mpa, Mkn, Mke, Mik, Mpp, Mle, Mso, Mfz, Msp, Mfo, Mrd, Mrs, Mlt, Mfi, Mse))) rfl (by decide) (fun H locs hC => ?_)
  refine lv_aload_n hx hb dX6_addsZone_32 rfl (lv_at hl 1 rfl) ?_
  refine lv_iload hx hb dX6_addsZone_33 (lv_at hl 0 rfl) ?_
  refine lv_iconst (v := 3) hx hb dX6_addsZone_35 (by decide) ?_
  refine lv_iload hx hb dX6_addsZone_36 (lv_at hl 5 rfl) ?_
  obtain ⟨r5, hr5, hf⟩ := z_bind hf
  refine z_callv (z_runV (n := 3) (rest := []) (As := [.int x1, .int 3, .int p4]) S0 hC (c_X6_laysZone l G c3 oM (r4, Mas, Mpa, Mkn, Mke, Mik, Mpp, Mle, Mso, Mfz, Msp, Mfo, Mrd, Mrs, Mlt, Mfi, Mse) x1 3 p4 hr5) [0, 1, 2, 3, 4, 5, 6, 7] (by decide) rfl gX6_addsZone_X6_laysZone rfl rfl rfl (by decide +kernel) ⟨Nat.le_of_ble_eq_true rfl, Nat.le_of_ble_eq_true rfl⟩ (ci := 6) (q0 := 0) rfl rfl rfl hl.1 rfl (Nat.le_of_ble_eq_true rfl) dX6_addsZone_38) hC [0, 1, 2, 3, 4, 5, 6, 7] [] [0, 1, 2, 3, 4, 5, 6, 7] rfl (wr := ([] : va_W)) rfl (by decide) (by decide) (ws2 := (zwM c3.1 c3.2.2 oM (r5, Mas, Mpa, Mkn, Mke, Mik, Mpp, Mle, Mso, Mfz, Msp, Mfo, Mrd, Mrs, Mlt, Mfi, Mse))) rfl (by decide) (fun H locs hC => ?_)
  refine lv_aload_n hx hb dX6_addsZone_41 rfl (lv_at hl 1 rfl) ?_
  refine lv_iload hx hb dX6_addsZone_42 (lv_at hl 0 rfl) ?_
  refine lv_iconst (v := 4) hx hb dX6_addsZone_44 (by decide) ?_
  refine lv_iconst (v := 0) hx hb dX6_addsZone_45 (by decide) ?_
  obtain ⟨r6, hr6, hf⟩ := z_bind hf
  refine z_callv (z_runV (n := 3) (rest := []) (As := [.int x1, .int 4, .int 0]) S0 hC (c_X6_laysZone l G c3 oM (r5, Mas, Mpa, Mkn, Mke, Mik, Mpp, Mle, Mso, Mfz, Msp, Mfo, Mrd, Mrs, Mlt, Mfi, Mse) x1 4 0 hr6) [0, 1, 2, 3, 4, 5, 6, 7] (by decide) rfl gX6_addsZone_X6_laysZone rfl rfl rfl (by decide +kernel) ⟨Nat.le_of_ble_eq_true rfl, Nat.le_of_ble_eq_true rfl⟩ (ci := 6) (q0 := 0) rfl rfl rfl hl.1 rfl (Nat.le_of_ble_eq_true rfl) dX6_addsZone_46) hC [0, 1, 2, 3, 4, 5, 6, 7] [] [0, 1, 2, 3, 4, 5, 6, 7] rfl (wr := ([] : va_W)) rfl (by decide) (by decide) (ws2 := (zwM c3.1 c3.2.2 oM (r6, Mas, Mpa, Mkn, Mke, Mik, Mpp, Mle, Mso, Mfz, Msp, Mfo, Mrd, Mrs, Mlt, Mfi, Mse))) rfl (by decide) (fun H locs hC => ?_)
  refine lv_aload_n hx hb dX6_addsZone_49 rfl (lv_at hl 1 rfl) ?_
  refine lv_iload hx hb dX6_addsZone_50 (lv_at hl 0 rfl) ?_
  refine lv_iconst (v := 5) hx hb dX6_addsZone_52 (by decide) ?_
  refine lv_iconst (v := 0) hx hb dX6_addsZone_53 (by decide) ?_
  obtain ⟨r7, hr7, hf⟩ := z_bind hf
  refine z_callv (z_runV (n := 3) (rest := []) (As := [.int x1, .int 5, .int 0]) S0 hC (c_X6_laysZone l G c3 oM (r6, Mas, Mpa, Mkn, Mke, Mik, Mpp, Mle, Mso, Mfz, Msp, Mfo, Mrd, Mrs, Mlt, Mfi, Mse) x1 5 0 hr7) [0, 1, 2, 3, 4, 5, 6, 7] (by decide) rfl gX6_addsZone_X6_laysZone rfl rfl rfl (by decide +kernel) ⟨Nat.le_of_ble_eq_true rfl, Nat.le_of_ble_eq_true rfl⟩ (ci := 6) (q0 := 0) rfl rfl rfl hl.1 rfl (Nat.le_of_ble_eq_true rfl) dX6_addsZone_54) hC [0, 1, 2, 3, 4, 5, 6, 7] [] [0, 1, 2, 3, 4, 5, 6, 7] rfl (wr := ([] : va_W)) rfl (by decide) (by decide) (ws2 := (zwM c3.1 c3.2.2 oM (r7, Mas, Mpa, Mkn, Mke, Mik, Mpp, Mle, Mso, Mfz, Msp, Mfo, Mrd, Mrs, Mlt, Mfi, Mse))) rfl (by decide) (fun H locs hC => ?_)
  refine lv_aload_n hx hb dX6_addsZone_57 rfl (lv_at hl 1 rfl) ?_
  refine lv_iload hx hb dX6_addsZone_58 (lv_at hl 0 rfl) ?_
  refine lv_bipush (v := 6) hx hb dX6_addsZone_60 (by decide) ?_
  refine lv_bipush (v := 60) hx hb dX6_addsZone_62 (by decide) ?_
  obtain ⟨r8, hr8, hf⟩ := z_bind hf
  refine z_callv (z_runV (n := 3) (rest := []) (As := [.int x1, .int 6, .int 60]) S0 hC (c_X6_laysZone l G c3 oM (r7, Mas, Mpa, Mkn, Mke, Mik, Mpp, Mle, Mso, Mfz, Msp, Mfo, Mrd, Mrs, Mlt, Mfi, Mse) x1 6 60 hr8) [0, 1, 2, 3, 4, 5, 6, 7] (by decide) rfl gX6_addsZone_X6_laysZone rfl rfl rfl (by decide +kernel) ⟨Nat.le_of_ble_eq_true rfl, Nat.le_of_ble_eq_true rfl⟩ (ci := 6) (q0 := 0) rfl rfl rfl hl.1 rfl (Nat.le_of_ble_eq_true rfl) dX6_addsZone_64) hC [0, 1, 2, 3, 4, 5, 6, 7] [] [0, 1, 2, 3, 4, 5, 6, 7] rfl (wr := ([] : va_W)) rfl (by decide) (by decide) (ws2 := (zwM c3.1 c3.2.2 oM (r8, Mas, Mpa, Mkn, Mke, Mik, Mpp, Mle, Mso, Mfz, Msp, Mfo, Mrd, Mrs, Mlt, Mfi, Mse))) rfl (by decide) (fun H locs hC => ?_)
  refine lv_aload_n hx hb dX6_addsZone_67 rfl (lv_at hl 1 rfl) ?_
  refine z_get S0 hC (ci := 6) (C := RX6) (T := TX6) (N := 17) (v := .ref oM.2.1) jX6_addsZone_X6 0 rfl rfl 0 (by decide) kX6_addsZone_7 rfl rfl dX6_addsZone_68 ?_
  refine lv_iconst (v := 0) hx hb dX6_addsZone_71 (by decide) ?_
  refine lv_dup2_11 hx hb dX6_addsZone_72 rfl rfl ?_
  obtain ⟨x9, hx9, hf⟩ := z_bind hf
  refine z_iald S0 hC 1 rfl hx9 dX6_addsZone_73 ?_
  refine lv_iconst (v := 1) hx hb dX6_addsZone_74 (by decide) ?_
  refine lv_iadd hx hb dX6_addsZone_75 ?_
  obtain ⟨g10, hg10, hf⟩ := z_bind hf
  refine z_iast S0 hC 1 rfl hg10 dX6_addsZone_76 (ws2 := (zwM c3.1 c3.2.2 oM (g10, Mas, Mpa, Mkn, Mke, Mik, Mpp, Mle, Mso, Mfz, Msp, Mfo, Mrd, Mrs, Mlt, Mfi, Mse))) rfl (fun H locs hC => ?_)
  have e1 := z_s1 hf
  subst e1
  exact z_vret S0 hr hlk hC dX6_addsZone_77

-- X6 zone
def f_X6_zone (Ms : (Nat → Int32)) (Mpa : (Nat → Int32)) (Mkn : Int32) (p1 : Int32) (p2 : Int32) (p3 : Int32) (p4 : Int32) : Option (Int32 × (Nat → Int32) × (Nat → Int32) × Int32) :=
  (f_X6_in p1 0 35).bind fun r1 => if r1 = 0 then
    some ((-1), Ms, Mpa, Mkn)
  else
    (f_X6_in p2 p1 35).bind fun r3 => if r3 = 0 then
      some ((-1), Ms, Mpa, Mkn)
    else
      (f_X6_in p3 1 9).bind fun r5 => if r5 = 0 then
        some ((-1), Ms, Mpa, Mkn)
      else
        (f_X6_in p4 p3 9).bind fun r7 => if r7 = 0 then
          some ((-1), Ms, Mpa, Mkn)
        else
          (zald 150 Ms 0).bind fun x9 => if x9 = 10 then
            some ((-3), Ms, Mpa, Mkn)
          else
            (f_X6_records Ms Mpa Mkn).bind fun r11 => (f_X6_addsZone Ms p1 p2 p3 p4).bind fun r12 => (zald 150 r12 0).bind fun x13 => some ((x13 - 1), r12, r11.1, r11.2)

theorem kX6_zone_7 : Cond.fieldLink RX6 7 "ZoneSamplerModel" "s" "[I" ∈ wsX6_zone := by decide +kernel
theorem jX6_zone_X6 : ∀ w ∈ u_ws RX6 TX6 17, w ∈ wsX6_zone := by decide +kernel
set_option maxHeartbeats 4000000 in
set_option maxRecDepth 100000 in
theorem c_X6_zone (l : Launch) (G : va_G) (c3 : zT3) (oM : zR8) (BM : zMd) (p1 : Int32) (p2 : Int32) (p3 : Int32) (p4 : Int32) {r : Int32} {Ms' : (Nat → Int32)} {Mpa' : (Nat → Int32)} {Mkn' : Int32} (hf : f_X6_zone BM.1 BM.2.2.1 BM.2.2.2.1 p1 p2 p3 p4 = some (r, Ms', Mpa', Mkn')) : zM l yX6_zone wsX6_zone ⟨2, 0, 0, 48⟩ G c3 (zwM c3.1 c3.2.2 oM (BM.1, BM.2.1, BM.2.2.1, BM.2.2.2.1, BM.2.2.2.2.1, BM.2.2.2.2.2.1, BM.2.2.2.2.2.2.1, BM.2.2.2.2.2.2.2.1, BM.2.2.2.2.2.2.2.2.1, BM.2.2.2.2.2.2.2.2.2.1, BM.2.2.2.2.2.2.2.2.2.2.1, BM.2.2.2.2.2.2.2.2.2.2.2.1, BM.2.2.2.2.2.2.2.2.2.2.2.2.1, BM.2.2.2.2.2.2.2.2.2.2.2.2.2.1, BM.2.2.2.2.2.2.2.2.2.2.2.2.2.2.1, BM.2.2.2.2.2.2.2.2.2.2.2.2.2.2.2.1, BM.2.2.2.2.2.2.2.2.2.2.2.2.2.2.2.2)) [.ref oM.1, .int p1, .int p2, .int p3, .int p4] (some (.int r)) (zwM c3.1 c3.2.2 oM (Ms', BM.2.1, Mpa', Mkn', BM.2.2.2.2.1, BM.2.2.2.2.2.1, BM.2.2.2.2.2.2.1, BM.2.2.2.2.2.2.2.1, BM.2.2.2.2.2.2.2.2.1, BM.2.2.2.2.2.2.2.2.2.1, BM.2.2.2.2.2.2.2.2.2.2.1, BM.2.2.2.2.2.2.2.2.2.2.2.1, BM.2.2.2.2.2.2.2.2.2.2.2.2.1, BM.2.2.2.2.2.2.2.2.2.2.2.2.2.1, BM.2.2.2.2.2.2.2.2.2.2.2.2.2.2.1, BM.2.2.2.2.2.2.2.2.2.2.2.2.2.2.2.1, BM.2.2.2.2.2.2.2.2.2.2.2.2.2.2.2.2)) := by
  obtain ⟨Ms, Mas, Mpa, Mkn, Mke, Mik, Mpp, Mle, Mso, Mfz, Msp, Mfo, Mrd, Mrs, Mlt, Mfi, Mse⟩ := BM
  have hf : f_X6_zone Ms Mpa Mkn p1 p2 p3 p4 = some (r, Ms', Mpa', Mkn') := hf
  show zM l yX6_zone wsX6_zone ⟨2, 0, 0, 48⟩ G c3 (zwM c3.1 c3.2.2 oM (Ms, Mas, Mpa, Mkn, Mke, Mik, Mpp, Mle, Mso, Mfz, Msp, Mfo, Mrd, Mrs, Mlt, Mfi, Mse)) [.ref oM.1, .int p1, .int p2, .int p3, .int p4] (some (.int r)) (zwM c3.1 c3.2.2 oM (Ms', Mas, Mpa', Mkn', Mke, Mik, Mpp, Mle, Mso, Mfz, Msp, Mfo, Mrd, Mrs, Mlt, Mfi, Mse))
  refine zM.of (cc := cX6_zone) (maxL := 5) (ret := (some .int)) (by decide) rfl (Nat.le_of_ble_eq_true rfl) ?_
  intro p e s m args below meth c A ls S0 hr hlk hC hl
  have S0 : CallFix p m c cX6_zone 5 s args wsX6_zone RX6 := S0
  have hl : lv_has ls 5 [(0, .ref oM.1), (1, .int p1), (2, .int p2), (3, .int p3), (4, .int p4)] := hl
  have hx := S0.1
  have hb := S0.2.1
  obtain ⟨H, hH⟩ : ∃ y, y = s.heap := ⟨_, rfl⟩
  rw [← hH] at hC ⊢
  obtain ⟨locs, hlo⟩ : ∃ y : List Loc, y = [] := ⟨_, rfl⟩
  rw [← hlo] at hC ⊢
  clear hH hlo
  unfold f_X6_zone at hf
  refine lv_iload_n hx hb dX6_zone_0 rfl (lv_at hl 1 rfl) ?_
  refine lv_iconst (v := 0) hx hb dX6_zone_1 (by decide) ?_
  refine lv_bipush (v := 35) hx hb dX6_zone_2 (by decide) ?_
  obtain ⟨r1, hr1, hf⟩ := z_bind hf
  refine z_callPi (z_runS (n := 3) (rest := []) (As := [.int p1, .int 0, .int 35]) S0 hC (c_X6_in l G c3 p1 0 35 hr1) [] (by decide) rfl gX6_zone_X6_in rfl rfl rfl (by decide +kernel) ⟨Nat.le_of_ble_eq_true rfl, Nat.le_of_ble_eq_true rfl⟩ rfl hl.1 rfl (Nat.le_of_ble_eq_true rfl) dX6_zone_4) hC [] rfl (fun H locs hC => ?_)
  refine lv_if_eq (tgt := 41) hx hb dX6_zone_7 (by decide) (fun cd2 => ?_) (fun cd2 => ?_)
  · replace hf := z_pos cd2 hf
    refine lv_iconst (v := (-1)) hx hb dX6_zone_41 (by decide) ?_
    obtain ⟨e1, e2, e3, e4⟩ := z_s4 hf
    subst e1
    subst e2
    subst e3
    subst e4
    exact z_iret S0 hr hlk hC dX6_zone_42
  · replace hf := z_neg cd2 hf
    refine lv_iload_n hx hb dX6_zone_10 rfl (lv_at hl 2 rfl) ?_
    refine lv_iload_n hx hb dX6_zone_11 rfl (lv_at hl 1 rfl) ?_
    refine lv_bipush (v := 35) hx hb dX6_zone_12 (by decide) ?_
    obtain ⟨r3, hr3, hf⟩ := z_bind hf
    refine z_callPi (z_runS (n := 3) (rest := []) (As := [.int p2, .int p1, .int 35]) S0 hC (c_X6_in l G c3 p2 p1 35 hr3) [] (by decide) rfl gX6_zone_X6_in rfl rfl rfl (by decide +kernel) ⟨Nat.le_of_ble_eq_true rfl, Nat.le_of_ble_eq_true rfl⟩ rfl hl.1 rfl (Nat.le_of_ble_eq_true rfl) dX6_zone_14) hC [] rfl (fun H locs hC => ?_)
    refine lv_if_eq (tgt := 41) hx hb dX6_zone_17 (by decide) (fun cd4 => ?_) (fun cd4 => ?_)
    · replace hf := z_pos cd4 hf
      refine lv_iconst (v := (-1)) hx hb dX6_zone_41 (by decide) ?_
      obtain ⟨e1, e2, e3, e4⟩ := z_s4 hf
      subst e1
      subst e2
      subst e3
      subst e4
      exact z_iret S0 hr hlk hC dX6_zone_42
    · replace hf := z_neg cd4 hf
      refine lv_iload_n hx hb dX6_zone_20 rfl (lv_at hl 3 rfl) ?_
      refine lv_iconst (v := 1) hx hb dX6_zone_21 (by decide) ?_
      refine lv_bipush (v := 9) hx hb dX6_zone_22 (by decide) ?_
      obtain ⟨r5, hr5, hf⟩ := z_bind hf
      refine z_callPi (z_runS (n := 3) (rest := []) (As := [.int p3, .int 1, .int 9]) S0 hC (c_X6_in l G c3 p3 1 9 hr5) [] (by decide) rfl gX6_zone_X6_in rfl rfl rfl (by decide +kernel) ⟨Nat.le_of_ble_eq_true rfl, Nat.le_of_ble_eq_true rfl⟩ rfl hl.1 rfl (Nat.le_of_ble_eq_true rfl) dX6_zone_24) hC [] rfl (fun H locs hC => ?_)
      refine lv_if_eq (tgt := 41) hx hb dX6_zone_27 (by decide) (fun cd6 => ?_) (fun cd6 => ?_)
      · replace hf := z_pos cd6 hf
        refine lv_iconst (v := (-1)) hx hb dX6_zone_41 (by decide) ?_
        obtain ⟨e1, e2, e3, e4⟩ := z_s4 hf
        subst e1
        subst e2
        subst e3
        subst e4
        exact z_iret S0 hr hlk hC dX6_zone_42
      · replace hf := z_neg cd6 hf
        refine lv_iload hx hb dX6_zone_30 (lv_at hl 4 rfl) ?_
        refine lv_iload_n hx hb dX6_zone_32 rfl (lv_at hl 3 rfl) ?_
        refine lv_bipush (v := 9) hx hb dX6_zone_33 (by decide) ?_
        obtain ⟨r7, hr7, hf⟩ := z_bind hf
        refine z_callPi (z_runS (n := 3) (rest := []) (As := [.int p4, .int p3, .int 9]) S0 hC (c_X6_in l G c3 p4 p3 9 hr7) [] (by decide) rfl gX6_zone_X6_in rfl rfl rfl (by decide +kernel) ⟨Nat.le_of_ble_eq_true rfl, Nat.le_of_ble_eq_true rfl⟩ rfl hl.1 rfl (Nat.le_of_ble_eq_true rfl) dX6_zone_35) hC [] rfl (fun H locs hC => ?_)
        refine lv_if_ne (tgt := 43) hx hb dX6_zone_38 (by decide) (fun cd8 => ?_) (fun cd8 => ?_)
        · replace hf := z_neg cd8 hf
          refine lv_aload_n hx hb dX6_zone_43 rfl (lv_at hl 0 rfl) ?_
          refine z_get S0 hC (ci := 6) (C := RX6) (T := TX6) (N := 17) (v := .ref oM.2.1) jX6_zone_X6 0 rfl rfl 0 (by decide) kX6_zone_7 rfl rfl dX6_zone_44 ?_
          refine lv_iconst (v := 0) hx hb dX6_zone_47 (by decide) ?_
          obtain ⟨x9, hx9, hf⟩ := z_bind hf
          refine z_iald S0 hC 1 rfl hx9 dX6_zone_48 ?_
          refine lv_bipush (v := 10) hx hb dX6_zone_49 (by decide) ?_
          refine lv_icmp_ne (tgt := 57) hx hb dX6_zone_51 (by decide) (fun cd10 => ?_) (fun cd10 => ?_)
          · replace hf := z_neg cd10 hf
            refine lv_aload_n hx hb dX6_zone_57 rfl (lv_at hl 0 rfl) ?_
            obtain ⟨r11, hr11, hf⟩ := z_bind hf
            refine z_callv (z_runV (n := 0) (rest := []) (As := []) S0 hC (c_X6_records l G c3 oM (Ms, Mas, Mpa, Mkn, Mke, Mik, Mpp, Mle, Mso, Mfz, Msp, Mfo, Mrd, Mrs, Mlt, Mfi, Mse) hr11) [0, 1, 2, 3, 4, 5, 6, 7] (by decide) rfl gX6_zone_X6_records rfl rfl rfl (by decide +kernel) ⟨Nat.le_of_ble_eq_true rfl, Nat.le_of_ble_eq_true rfl⟩ (ci := 6) (q0 := 0) rfl rfl rfl hl.1 rfl (Nat.le_of_ble_eq_true rfl) dX6_zone_58) hC [0, 1, 2, 3, 4, 5, 6, 7] [] [0, 1, 2, 3, 4, 5, 6, 7] rfl (wr := ([] : va_W)) rfl (by decide) (by decide) (ws2 := (zwM c3.1 c3.2.2 oM (Ms, Mas, r11.1, r11.2, Mke, Mik, Mpp, Mle, Mso, Mfz, Msp, Mfo, Mrd, Mrs, Mlt, Mfi, Mse))) rfl (by decide) (fun H locs hC => ?_)
            refine lv_aload_n hx hb dX6_zone_61 rfl (lv_at hl 0 rfl) ?_
            refine lv_iload_n hx hb dX6_zone_62 rfl (lv_at hl 1 rfl) ?_
            refine lv_iload_n hx hb dX6_zone_63 rfl (lv_at hl 2 rfl) ?_
            refine lv_iload_n hx hb dX6_zone_64 rfl (lv_at hl 3 rfl) ?_
            refine lv_iload hx hb dX6_zone_65 (lv_at hl 4 rfl) ?_
            obtain ⟨r12, hr12, hf⟩ := z_bind hf
            refine z_callv (z_runV (n := 4) (rest := []) (As := [.int p1, .int p2, .int p3, .int p4]) S0 hC (c_X6_addsZone l G c3 oM (Ms, Mas, r11.1, r11.2, Mke, Mik, Mpp, Mle, Mso, Mfz, Msp, Mfo, Mrd, Mrs, Mlt, Mfi, Mse) p1 p2 p3 p4 hr12) [0, 1, 2, 3, 4, 5, 6, 7] (by decide) rfl gX6_zone_X6_addsZone rfl rfl rfl (by decide +kernel) ⟨Nat.le_of_ble_eq_true rfl, Nat.le_of_ble_eq_true rfl⟩ (ci := 6) (q0 := 0) rfl rfl rfl hl.1 rfl (Nat.le_of_ble_eq_true rfl) dX6_zone_67) hC [0, 1, 2, 3, 4, 5, 6, 7] [] [0, 1, 2, 3, 4, 5, 6, 7] rfl (wr := ([] : va_W)) rfl (by decide) (by decide) (ws2 := (zwM c3.1 c3.2.2 oM (r12, Mas, r11.1, r11.2, Mke, Mik, Mpp, Mle, Mso, Mfz, Msp, Mfo, Mrd, Mrs, Mlt, Mfi, Mse))) rfl (by decide) (fun H locs hC => ?_)
            refine lv_aload_n hx hb dX6_zone_70 rfl (lv_at hl 0 rfl) ?_
            refine z_get S0 hC (ci := 6) (C := RX6) (T := TX6) (N := 17) (v := .ref oM.2.1) jX6_zone_X6 0 rfl rfl 0 (by decide) kX6_zone_7 rfl rfl dX6_zone_71 ?_
            refine lv_iconst (v := 0) hx hb dX6_zone_74 (by decide) ?_
            obtain ⟨x13, hx13, hf⟩ := z_bind hf
            refine z_iald S0 hC 1 rfl hx13 dX6_zone_75 ?_
            refine lv_iconst (v := 1) hx hb dX6_zone_76 (by decide) ?_
            refine lv_isub hx hb dX6_zone_77 ?_
            obtain ⟨e1, e2, e3, e4⟩ := z_s4 hf
            subst e1
            subst e2
            subst e3
            subst e4
            exact z_iret S0 hr hlk hC dX6_zone_78
          · replace hf := z_pos cd10 hf
            refine lv_bipush (v := (-3)) hx hb dX6_zone_54 (by decide) ?_
            obtain ⟨e1, e2, e3, e4⟩ := z_s4 hf
            subst e1
            subst e2
            subst e3
            subst e4
            exact z_iret S0 hr hlk hC dX6_zone_56
        · replace hf := z_pos cd8 hf
          refine lv_iconst (v := (-1)) hx hb dX6_zone_41 (by decide) ?_
          obtain ⟨e1, e2, e3, e4⟩ := z_s4 hf
          subst e1
          subst e2
          subst e3
          subst e4
          exact z_iret S0 hr hlk hC dX6_zone_42

-- X6 like
def f_X6_like_72 (y2 : Int32) (Ms : (Nat → Int32)) : Nat → Int32 → Int32 → Option (Int32 × Int32)
  | 0, _, _ => none
  | fu + 1, y5, y6 =>
    (zald 150 Ms 0).bind fun x14 => if x14 ≤ y6 then
      some (y5, y6)
    else
      Option.bind (α := Int32) (
        if y2 ≤ 0 then
          some (0)
        else
          (f_X6_ofZone Ms y6 4).bind fun r18 => if r18 = y2 then
            some (1)
          else
            some (0)
      ) fun t17 =>
        f_X6_like_72 y2 Ms fu (y5 + t17) (y6 + 1)

theorem f_X6_like_72_s (y2 : Int32) (Ms : (Nat → Int32)) (y5 : Int32) (y6 : Int32) (fu : Nat) : f_X6_like_72 y2 Ms (fu + 1) y5 y6 = (
    (zald 150 Ms 0).bind fun x14 => if x14 ≤ y6 then
      some (y5, y6)
    else
      Option.bind (α := Int32) (
        if y2 ≤ 0 then
          some (0)
        else
          (f_X6_ofZone Ms y6 4).bind fun r18 => if r18 = y2 then
            some (1)
          else
            some (0)
      ) fun t17 =>
        f_X6_like_72 y2 Ms fu (y5 + t17) (y6 + 1)
    ) := rfl

def f_X6_like (Ms : (Nat → Int32)) (Mpa : (Nat → Int32)) (Mkn : Int32) (p1 : Int32) (p2 : Int32) (p3 : Int32) (p4 : Int32) : Option (Int32 × (Nat → Int32) × (Nat → Int32) × Int32) :=
  (f_X6_isZone Ms p1).bind fun r1 => if r1 = 0 then
    some ((-1), Ms, Mpa, Mkn)
  else
    (f_X6_in p2 0 3).bind fun r3 => if r3 = 0 then
      some ((-1), Ms, Mpa, Mkn)
    else
      (f_X6_in p3 0 4).bind fun r5 => if r5 = 0 then
        some ((-1), Ms, Mpa, Mkn)
      else
        (f_X6_in p4 1 60).bind fun r7 => if r7 = 0 then
          some ((-1), Ms, Mpa, Mkn)
        else
          (f_X6_records Ms Mpa Mkn).bind fun r9 => (f_X6_laysZone Ms p1 4 p2).bind fun r10 => (f_X6_laysZone r10 p1 5 p3).bind fun r11 => (f_X6_laysZone r11 p1 6 p4).bind fun r12 => (f_X6_like_72 p2 r12 zF 0 0).bind fun t20 =>
            some (t20.1, r12, r9.1, r9.2)

theorem kX6_like_7 : Cond.fieldLink RX6 7 "ZoneSamplerModel" "s" "[I" ∈ wsX6_like := by decide +kernel
theorem jX6_like_X6 : ∀ w ∈ u_ws RX6 TX6 17, w ∈ wsX6_like := by decide +kernel
set_option maxHeartbeats 4000000 in
set_option maxRecDepth 100000 in
theorem c_X6_like (l : Launch) (G : va_G) (c3 : zT3) (oM : zR8) (BM : zMd) (p1 : Int32) (p2 : Int32) (p3 : Int32) (p4 : Int32) {r : Int32} {Ms' : (Nat → Int32)} {Mpa' : (Nat → Int32)} {Mkn' : Int32} (hf : f_X6_like BM.1 BM.2.2.1 BM.2.2.2.1 p1 p2 p3 p4 = some (r, Ms', Mpa', Mkn')) : zM l yX6_like wsX6_like ⟨2, 0, 0, 45⟩ G c3 (zwM c3.1 c3.2.2 oM (BM.1, BM.2.1, BM.2.2.1, BM.2.2.2.1, BM.2.2.2.2.1, BM.2.2.2.2.2.1, BM.2.2.2.2.2.2.1, BM.2.2.2.2.2.2.2.1, BM.2.2.2.2.2.2.2.2.1, BM.2.2.2.2.2.2.2.2.2.1, BM.2.2.2.2.2.2.2.2.2.2.1, BM.2.2.2.2.2.2.2.2.2.2.2.1, BM.2.2.2.2.2.2.2.2.2.2.2.2.1, BM.2.2.2.2.2.2.2.2.2.2.2.2.2.1, BM.2.2.2.2.2.2.2.2.2.2.2.2.2.2.1, BM.2.2.2.2.2.2.2.2.2.2.2.2.2.2.2.1, BM.2.2.2.2.2.2.2.2.2.2.2.2.2.2.2.2)) [.ref oM.1, .int p1, .int p2, .int p3, .int p4] (some (.int r)) (zwM c3.1 c3.2.2 oM (Ms', BM.2.1, Mpa', Mkn', BM.2.2.2.2.1, BM.2.2.2.2.2.1, BM.2.2.2.2.2.2.1, BM.2.2.2.2.2.2.2.1, BM.2.2.2.2.2.2.2.2.1, BM.2.2.2.2.2.2.2.2.2.1, BM.2.2.2.2.2.2.2.2.2.2.1, BM.2.2.2.2.2.2.2.2.2.2.2.1, BM.2.2.2.2.2.2.2.2.2.2.2.2.1, BM.2.2.2.2.2.2.2.2.2.2.2.2.2.1, BM.2.2.2.2.2.2.2.2.2.2.2.2.2.2.1, BM.2.2.2.2.2.2.2.2.2.2.2.2.2.2.2.1, BM.2.2.2.2.2.2.2.2.2.2.2.2.2.2.2.2)) := by
  obtain ⟨Ms, Mas, Mpa, Mkn, Mke, Mik, Mpp, Mle, Mso, Mfz, Msp, Mfo, Mrd, Mrs, Mlt, Mfi, Mse⟩ := BM
  have hf : f_X6_like Ms Mpa Mkn p1 p2 p3 p4 = some (r, Ms', Mpa', Mkn') := hf
  show zM l yX6_like wsX6_like ⟨2, 0, 0, 45⟩ G c3 (zwM c3.1 c3.2.2 oM (Ms, Mas, Mpa, Mkn, Mke, Mik, Mpp, Mle, Mso, Mfz, Msp, Mfo, Mrd, Mrs, Mlt, Mfi, Mse)) [.ref oM.1, .int p1, .int p2, .int p3, .int p4] (some (.int r)) (zwM c3.1 c3.2.2 oM (Ms', Mas, Mpa', Mkn', Mke, Mik, Mpp, Mle, Mso, Mfz, Msp, Mfo, Mrd, Mrs, Mlt, Mfi, Mse))
  refine zM.of (cc := cX6_like) (maxL := 7) (ret := (some .int)) (by decide) rfl (Nat.le_of_ble_eq_true rfl) ?_
  intro p e s m args below meth c A ls S0 hr hlk hC hl
  have S0 : CallFix p m c cX6_like 7 s args wsX6_like RX6 := S0
  have hl : lv_has ls 7 [(0, .ref oM.1), (1, .int p1), (2, .int p2), (3, .int p3), (4, .int p4)] := hl
  have hx := S0.1
  have hb := S0.2.1
  obtain ⟨H, hH⟩ : ∃ y, y = s.heap := ⟨_, rfl⟩
  rw [← hH] at hC ⊢
  obtain ⟨locs, hlo⟩ : ∃ y : List Loc, y = [] := ⟨_, rfl⟩
  rw [← hlo] at hC ⊢
  clear hH hlo
  unfold f_X6_like at hf
  refine lv_aload_n hx hb dX6_like_0 rfl (lv_at hl 0 rfl) ?_
  refine lv_iload_n hx hb dX6_like_1 rfl (lv_at hl 1 rfl) ?_
  obtain ⟨r1, hr1, hf⟩ := z_bind hf
  refine z_callPi (z_runV (n := 1) (rest := []) (As := [.int p1]) S0 hC (c_X6_isZone l G c3 oM (Ms, Mas, Mpa, Mkn, Mke, Mik, Mpp, Mle, Mso, Mfz, Msp, Mfo, Mrd, Mrs, Mlt, Mfi, Mse) p1 hr1) [0, 1, 2, 3, 4, 5, 6, 7] (by decide) rfl gX6_like_X6_isZone rfl rfl rfl (by decide +kernel) ⟨Nat.le_of_ble_eq_true rfl, Nat.le_of_ble_eq_true rfl⟩ (ci := 6) (q0 := 0) rfl rfl rfl hl.1 rfl (Nat.le_of_ble_eq_true rfl) dX6_like_2) hC [0, 1, 2, 3, 4, 5, 6, 7] rfl (fun H locs hC => ?_)
  refine lv_if_eq (tgt := 37) hx hb dX6_like_5 (by decide) (fun cd2 => ?_) (fun cd2 => ?_)
  · replace hf := z_pos cd2 hf
    refine lv_iconst (v := (-1)) hx hb dX6_like_37 (by decide) ?_
    obtain ⟨e1, e2, e3, e4⟩ := z_s4 hf
    subst e1
    subst e2
    subst e3
    subst e4
    exact z_iret S0 hr hlk hC dX6_like_38
  · replace hf := z_neg cd2 hf
    refine lv_iload_n hx hb dX6_like_8 rfl (lv_at hl 2 rfl) ?_
    refine lv_iconst (v := 0) hx hb dX6_like_9 (by decide) ?_
    refine lv_iconst (v := 3) hx hb dX6_like_10 (by decide) ?_
    obtain ⟨r3, hr3, hf⟩ := z_bind hf
    refine z_callPi (z_runS (n := 3) (rest := []) (As := [.int p2, .int 0, .int 3]) S0 hC (c_X6_in l G c3 p2 0 3 hr3) [] (by decide) rfl gX6_like_X6_in rfl rfl rfl (by decide +kernel) ⟨Nat.le_of_ble_eq_true rfl, Nat.le_of_ble_eq_true rfl⟩ rfl hl.1 rfl (Nat.le_of_ble_eq_true rfl) dX6_like_11) hC [] rfl (fun H locs hC => ?_)
    refine lv_if_eq (tgt := 37) hx hb dX6_like_14 (by decide) (fun cd4 => ?_) (fun cd4 => ?_)
    · replace hf := z_pos cd4 hf
      refine lv_iconst (v := (-1)) hx hb dX6_like_37 (by decide) ?_
      obtain ⟨e1, e2, e3, e4⟩ := z_s4 hf
      subst e1
      subst e2
      subst e3
      subst e4
      exact z_iret S0 hr hlk hC dX6_like_38
    · replace hf := z_neg cd4 hf
      refine lv_iload_n hx hb dX6_like_17 rfl (lv_at hl 3 rfl) ?_
      refine lv_iconst (v := 0) hx hb dX6_like_18 (by decide) ?_
      refine lv_iconst (v := 4) hx hb dX6_like_19 (by decide) ?_
      obtain ⟨r5, hr5, hf⟩ := z_bind hf
      refine z_callPi (z_runS (n := 3) (rest := []) (As := [.int p3, .int 0, .int 4]) S0 hC (c_X6_in l G c3 p3 0 4 hr5) [] (by decide) rfl gX6_like_X6_in rfl rfl rfl (by decide +kernel) ⟨Nat.le_of_ble_eq_true rfl, Nat.le_of_ble_eq_true rfl⟩ rfl hl.1 rfl (Nat.le_of_ble_eq_true rfl) dX6_like_20) hC [] rfl (fun H locs hC => ?_)
      refine lv_if_eq (tgt := 37) hx hb dX6_like_23 (by decide) (fun cd6 => ?_) (fun cd6 => ?_)
      · replace hf := z_pos cd6 hf
        refine lv_iconst (v := (-1)) hx hb dX6_like_37 (by decide) ?_
        obtain ⟨e1, e2, e3, e4⟩ := z_s4 hf
        subst e1
        subst e2
        subst e3
        subst e4
        exact z_iret S0 hr hlk hC dX6_like_38
      · replace hf := z_neg cd6 hf
        refine lv_iload hx hb dX6_like_26 (lv_at hl 4 rfl) ?_
        refine lv_iconst (v := 1) hx hb dX6_like_28 (by decide) ?_
        refine lv_bipush (v := 60) hx hb dX6_like_29 (by decide) ?_
        obtain ⟨r7, hr7, hf⟩ := z_bind hf
        refine z_callPi (z_runS (n := 3) (rest := []) (As := [.int p4, .int 1, .int 60]) S0 hC (c_X6_in l G c3 p4 1 60 hr7) [] (by decide) rfl gX6_like_X6_in rfl rfl rfl (by decide +kernel) ⟨Nat.le_of_ble_eq_true rfl, Nat.le_of_ble_eq_true rfl⟩ rfl hl.1 rfl (Nat.le_of_ble_eq_true rfl) dX6_like_31) hC [] rfl (fun H locs hC => ?_)
        refine lv_if_ne (tgt := 39) hx hb dX6_like_34 (by decide) (fun cd8 => ?_) (fun cd8 => ?_)
        · replace hf := z_neg cd8 hf
          refine lv_aload_n hx hb dX6_like_39 rfl (lv_at hl 0 rfl) ?_
          obtain ⟨r9, hr9, hf⟩ := z_bind hf
          refine z_callv (z_runV (n := 0) (rest := []) (As := []) S0 hC (c_X6_records l G c3 oM (Ms, Mas, Mpa, Mkn, Mke, Mik, Mpp, Mle, Mso, Mfz, Msp, Mfo, Mrd, Mrs, Mlt, Mfi, Mse) hr9) [0, 1, 2, 3, 4, 5, 6, 7] (by decide) rfl gX6_like_X6_records rfl rfl rfl (by decide +kernel) ⟨Nat.le_of_ble_eq_true rfl, Nat.le_of_ble_eq_true rfl⟩ (ci := 6) (q0 := 0) rfl rfl rfl hl.1 rfl (Nat.le_of_ble_eq_true rfl) dX6_like_40) hC [0, 1, 2, 3, 4, 5, 6, 7] [] [0, 1, 2, 3, 4, 5, 6, 7] rfl (wr := ([] : va_W)) rfl (by decide) (by decide) (ws2 := (zwM c3.1 c3.2.2 oM (Ms, Mas, r9.1, r9.2, Mke, Mik, Mpp, Mle, Mso, Mfz, Msp, Mfo, Mrd, Mrs, Mlt, Mfi, Mse))) rfl (by decide) (fun H locs hC => ?_)
          refine lv_aload_n hx hb dX6_like_43 rfl (lv_at hl 0 rfl) ?_
          refine lv_iload_n hx hb dX6_like_44 rfl (lv_at hl 1 rfl) ?_
          refine lv_iconst (v := 4) hx hb dX6_like_45 (by decide) ?_
          refine lv_iload_n hx hb dX6_like_46 rfl (lv_at hl 2 rfl) ?_
          obtain ⟨r10, hr10, hf⟩ := z_bind hf
          refine z_callv (z_runV (n := 3) (rest := []) (As := [.int p1, .int 4, .int p2]) S0 hC (c_X6_laysZone l G c3 oM (Ms, Mas, r9.1, r9.2, Mke, Mik, Mpp, Mle, Mso, Mfz, Msp, Mfo, Mrd, Mrs, Mlt, Mfi, Mse) p1 4 p2 hr10) [0, 1, 2, 3, 4, 5, 6, 7] (by decide) rfl gX6_like_X6_laysZone rfl rfl rfl (by decide +kernel) ⟨Nat.le_of_ble_eq_true rfl, Nat.le_of_ble_eq_true rfl⟩ (ci := 6) (q0 := 0) rfl rfl rfl hl.1 rfl (Nat.le_of_ble_eq_true rfl) dX6_like_47) hC [0, 1, 2, 3, 4, 5, 6, 7] [] [0, 1, 2, 3, 4, 5, 6, 7] rfl (wr := ([] : va_W)) rfl (by decide) (by decide) (ws2 := (zwM c3.1 c3.2.2 oM (r10, Mas, r9.1, r9.2, Mke, Mik, Mpp, Mle, Mso, Mfz, Msp, Mfo, Mrd, Mrs, Mlt, Mfi, Mse))) rfl (by decide) (fun H locs hC => ?_)
          refine lv_aload_n hx hb dX6_like_50 rfl (lv_at hl 0 rfl) ?_
          refine lv_iload_n hx hb dX6_like_51 rfl (lv_at hl 1 rfl) ?_
          refine lv_iconst (v := 5) hx hb dX6_like_52 (by decide) ?_
          refine lv_iload_n hx hb dX6_like_53 rfl (lv_at hl 3 rfl) ?_
          obtain ⟨r11, hr11, hf⟩ := z_bind hf
          refine z_callv (z_runV (n := 3) (rest := []) (As := [.int p1, .int 5, .int p3]) S0 hC (c_X6_laysZone l G c3 oM (r10, Mas, r9.1, r9.2, Mke, Mik, Mpp, Mle, Mso, Mfz, Msp, Mfo, Mrd, Mrs, Mlt, Mfi, Mse) p1 5 p3 hr11) [0, 1, 2, 3, 4, 5, 6, 7] (by decide) rfl gX6_like_X6_laysZone rfl rfl rfl (by decide +kernel) ⟨Nat.le_of_ble_eq_true rfl, Nat.le_of_ble_eq_true rfl⟩ (ci := 6) (q0 := 0) rfl rfl rfl hl.1 rfl (Nat.le_of_ble_eq_true rfl) dX6_like_54) hC [0, 1, 2, 3, 4, 5, 6, 7] [] [0, 1, 2, 3, 4, 5, 6, 7] rfl (wr := ([] : va_W)) rfl (by decide) (by decide) (ws2 := (zwM c3.1 c3.2.2 oM (r11, Mas, r9.1, r9.2, Mke, Mik, Mpp, Mle, Mso, Mfz, Msp, Mfo, Mrd, Mrs, Mlt, Mfi, Mse))) rfl (by decide) (fun H locs hC => ?_)
          refine lv_aload_n hx hb dX6_like_57 rfl (lv_at hl 0 rfl) ?_
          refine lv_iload_n hx hb dX6_like_58 rfl (lv_at hl 1 rfl) ?_
          refine lv_bipush (v := 6) hx hb dX6_like_59 (by decide) ?_
          refine lv_iload hx hb dX6_like_61 (lv_at hl 4 rfl) ?_
          obtain ⟨r12, hr12, hf⟩ := z_bind hf
          refine z_callv (z_runV (n := 3) (rest := []) (As := [.int p1, .int 6, .int p4]) S0 hC (c_X6_laysZone l G c3 oM (r11, Mas, r9.1, r9.2, Mke, Mik, Mpp, Mle, Mso, Mfz, Msp, Mfo, Mrd, Mrs, Mlt, Mfi, Mse) p1 6 p4 hr12) [0, 1, 2, 3, 4, 5, 6, 7] (by decide) rfl gX6_like_X6_laysZone rfl rfl rfl (by decide +kernel) ⟨Nat.le_of_ble_eq_true rfl, Nat.le_of_ble_eq_true rfl⟩ (ci := 6) (q0 := 0) rfl rfl rfl hl.1 rfl (Nat.le_of_ble_eq_true rfl) dX6_like_63) hC [0, 1, 2, 3, 4, 5, 6, 7] [] [0, 1, 2, 3, 4, 5, 6, 7] rfl (wr := ([] : va_W)) rfl (by decide) (by decide) (ws2 := (zwM c3.1 c3.2.2 oM (r12, Mas, r9.1, r9.2, Mke, Mik, Mpp, Mle, Mso, Mfz, Msp, Mfo, Mrd, Mrs, Mlt, Mfi, Mse))) rfl (by decide) (fun H locs hC => ?_)
          refine lv_iconst (v := 0) hx hb dX6_like_66 (by decide) ?_
          refine lv_istore (lv' := [(5, .int 0), (0, .ref oM.1), (1, .int p1), (2, .int p2), (3, .int p3), (4, .int p4)]) hx hb dX6_like_67 hl (by decide) rfl (fun ls hl => ?_)
          refine lv_iconst (v := 0) hx hb dX6_like_69 (by decide) ?_
          refine lv_istore (lv' := [(6, .int 0), (5, .int 0), (0, .ref oM.1), (1, .int p1), (2, .int p2), (3, .int p3), (4, .int p4)]) hx hb dX6_like_70 hl (by decide) rfl (fun ls hl => ?_)
          have L72 : ∀ (fu : Nat) (y1 : Int32) (y2 : Int32) (y3 : Int32) (y4 : Int32) (y5 : Int32) (y6 : Int32) (Ms : (Nat → Int32)) (Mas : (Nat → Int32)) (Mpa : (Nat → Int32)) (Mkn : Int32) (Mke : (Nat → Int32)) (Mik : Int32) (Mpp : (Nat → Int32)) (Mle : Int32) (Mso : (Nat → Int32)) (Mfz : Int32) (Msp : Int32) (Mfo : Int32) (Mrd : (Nat → Int32)) (Mrs : Int32) (Mlt : Int32) (Mfi : Int32) (Mse : Int32) (tt : Int32 × Int32), f_X6_like_72 y2 Ms fu y5 y6 = some tt → ∀ (H : Heap) (locs : List Loc) (ls : Array Slot), zC G c3 A s (zwM c3.1 c3.2.2 oM (Ms, Mas, Mpa, Mkn, Mke, Mik, Mpp, Mle, Mso, Mfz, Msp, Mfo, Mrd, Mrs, Mlt, Mfi, Mse)) H locs → lv_has ls 7 [(0, .ref oM.1), (1, .int y1), (2, .int y2), (3, .int y3), (4, .int y4), (5, .int y5), (6, .int y6)] → (∀ (H : Heap) (locs : List Loc) (ls : Array Slot), zC G c3 A s (zwM c3.1 c3.2.2 oM (Ms, Mas, Mpa, Mkn, Mke, Mik, Mpp, Mle, Mso, Mfz, Msp, Mfo, Mrd, Mrs, Mlt, Mfi, Mse)) H locs → lv_has ls 7 [(0, .ref oM.1), (1, .int y1), (2, .int y2), (3, .int y3), (4, .int y4), (5, .int tt.1), (6, .int tt.2)] → W p l e ⟨2, 0, 0, 45⟩ s m args below meth c H locs 0 0 (MQ below (zPost G (zwM c3.1 c3.2.2 oM (Ms', Mas, Mpa', Mkn', Mke, Mik, Mpp, Mle, Mso, Mfz, Msp, Mfo, Mrd, Mrs, Mlt, Mfi, Mse)) (some (.int r)) A) args s 0 0 A) (F0 m 114 ls [])) → W p l e ⟨2, 0, 0, 45⟩ s m args below meth c H locs 0 0 (MQ below (zPost G (zwM c3.1 c3.2.2 oM (Ms', Mas, Mpa', Mkn', Mke, Mik, Mpp, Mle, Mso, Mfz, Msp, Mfo, Mrd, Mrs, Mlt, Mfi, Mse)) (some (.int r)) A) args s 0 0 A) (F0 m 72 ls []) := by
            intro fu
            induction fu with
            | zero =>
              intro y1 y2 y3 y4 y5 y6 Ms Mas Mpa Mkn Mke Mik Mpp Mle Mso Mfz Msp Mfo Mrd Mrs Mlt Mfi Mse tt hf H locs ls hC hl hK
              exact (z_none hf).elim
            | succ fu ih72 =>
              intro y1 y2 y3 y4 y5 y6 Ms Mas Mpa Mkn Mke Mik Mpp Mle Mso Mfz Msp Mfo Mrd Mrs Mlt Mfi Mse tt hf H locs ls hC hl hK
              replace hf := (f_X6_like_72_s y2 Ms y5 y6 fu).symm.trans hf
              refine lv_iload hx hb dX6_like_72 (lv_at hl 6 rfl) ?_
              refine lv_aload_n hx hb dX6_like_74 rfl (lv_at hl 0 rfl) ?_
              refine z_get S0 hC (ci := 6) (C := RX6) (T := TX6) (N := 17) (v := .ref oM.2.1) jX6_like_X6 0 rfl rfl 0 (by decide) kX6_like_7 rfl rfl dX6_like_75 ?_
              refine lv_iconst (v := 0) hx hb dX6_like_78 (by decide) ?_
              obtain ⟨x14, hx14, hf⟩ := z_bind hf
              refine z_iald S0 hC 1 rfl hx14 dX6_like_79 ?_
              refine lv_icmp_ge (tgt := 114) hx hb dX6_like_80 (by decide) (fun cd15 => ?_) (fun cd15 => ?_)
              · replace hf := z_pos cd15 hf
                have e1 := z_s1 hf
                subst e1
                exact hK H locs ls hC (lv_sub hl [0, 1, 2, 3, 4, 5, 6] rfl)
              · replace hf := z_neg cd15 hf
                refine lv_iload hx hb dX6_like_83 (lv_at hl 5 rfl) ?_
                refine lv_iload_n hx hb dX6_like_85 rfl (lv_at hl 2 rfl) ?_
                obtain ⟨t17, ht17, hf⟩ := z_bind hf
                have Jt17 : ∀ (H : Heap) (locs : List Loc) (ls : Array Slot), zC G c3 A s (zwM c3.1 c3.2.2 oM (Ms, Mas, Mpa, Mkn, Mke, Mik, Mpp, Mle, Mso, Mfz, Msp, Mfo, Mrd, Mrs, Mlt, Mfi, Mse)) H locs → lv_has ls 7 [(0, .ref oM.1), (1, .int y1), (2, .int y2), (3, .int y3), (4, .int y4), (5, .int y5), (6, .int y6)] → W p l e ⟨2, 0, 0, 45⟩ s m args below meth c H locs 0 0 (MQ below (zPost G (zwM c3.1 c3.2.2 oM (Ms', Mas, Mpa', Mkn', Mke, Mik, Mpp, Mle, Mso, Mfz, Msp, Mfo, Mrd, Mrs, Mlt, Mfi, Mse)) (some (.int r)) A) args s 0 0 A) (F0 m 105 ls [.int t17, .int y5]) := by
                  intro H locs ls hC hl
                  refine lv_iadd hx hb dX6_like_105 ?_
                  refine lv_istore (lv' := [(5, .int (y5 + t17)), (0, .ref oM.1), (1, .int y1), (2, .int y2), (3, .int y3), (4, .int y4), (6, .int y6)]) hx hb dX6_like_106 hl (by decide) rfl (fun ls hl => ?_)
                  refine lv_iinc (v := (y6 + 1)) (lv' := [(6, .int (y6 + 1)), (5, .int (y5 + t17)), (0, .ref oM.1), (1, .int y1), (2, .int y2), (3, .int y3), (4, .int y4)]) hx hb dX6_like_108 hl (k := 6) rfl rfl (by decide) rfl (fun ls hl => ?_)
                  refine lv_goto (tgt := 72) hx hb dX6_like_111 (by decide) ?_
                  exact ih72 y1 y2 y3 y4 (y5 + t17) (y6 + 1) Ms Mas Mpa Mkn Mke Mik Mpp Mle Mso Mfz Msp Mfo Mrd Mrs Mlt Mfi Mse _ hf H locs ls hC (lv_sub hl [2, 3, 4, 5, 6, 1, 0] rfl) hK
                refine lv_if_le (tgt := 104) hx hb dX6_like_86 (by decide) (fun cd16 => ?_) (fun cd16 => ?_)
                · replace ht17 := z_pos cd16 ht17
                  refine lv_iconst (v := 0) hx hb dX6_like_104 (by decide) ?_
                  have e1 := z_s1 ht17
                  subst e1
                  exact Jt17 H locs ls hC (lv_sub hl [0, 1, 2, 3, 4, 5, 6] rfl)
                · replace ht17 := z_neg cd16 ht17
                  refine lv_aload_n hx hb dX6_like_89 rfl (lv_at hl 0 rfl) ?_
                  refine lv_iload hx hb dX6_like_90 (lv_at hl 6 rfl) ?_
                  refine lv_iconst (v := 4) hx hb dX6_like_92 (by decide) ?_
                  obtain ⟨r18, hr18, ht17⟩ := z_bind ht17
                  refine z_callPi (z_runV (n := 2) (rest := [.int y5]) (As := [.int y6, .int 4]) S0 hC (c_X6_ofZone l G c3 oM (Ms, Mas, Mpa, Mkn, Mke, Mik, Mpp, Mle, Mso, Mfz, Msp, Mfo, Mrd, Mrs, Mlt, Mfi, Mse) y6 4 hr18) [0, 1, 2, 3, 4, 5, 6, 7] (by decide) rfl gX6_like_X6_ofZone rfl rfl rfl (by decide +kernel) ⟨Nat.le_of_ble_eq_true rfl, Nat.le_of_ble_eq_true rfl⟩ (ci := 6) (q0 := 0) rfl rfl rfl hl.1 rfl (Nat.le_of_ble_eq_true rfl) dX6_like_93) hC [0, 1, 2, 3, 4, 5, 6, 7] rfl (fun H locs hC => ?_)
                  refine lv_iload_n hx hb dX6_like_96 rfl (lv_at hl 2 rfl) ?_
                  refine lv_icmp_ne (tgt := 104) hx hb dX6_like_97 (by decide) (fun cd19 => ?_) (fun cd19 => ?_)
                  · replace ht17 := z_neg cd19 ht17
                    refine lv_iconst (v := 0) hx hb dX6_like_104 (by decide) ?_
                    have e1 := z_s1 ht17
                    subst e1
                    exact Jt17 H locs ls hC (lv_sub hl [0, 1, 2, 3, 4, 5, 6] rfl)
                  · replace ht17 := z_pos cd19 ht17
                    refine lv_iconst (v := 1) hx hb dX6_like_100 (by decide) ?_
                    refine lv_goto (tgt := 105) hx hb dX6_like_101 (by decide) ?_
                    have e1 := z_s1 ht17
                    subst e1
                    exact Jt17 H locs ls hC (lv_sub hl [0, 1, 2, 3, 4, 5, 6] rfl)
          obtain ⟨t20, ht20, hf⟩ := z_bind hf
          refine L72 zF p1 p2 p3 p4 0 0 r12 Mas r9.1 r9.2 Mke Mik Mpp Mle Mso Mfz Msp Mfo Mrd Mrs Mlt Mfi Mse t20 ht20 H locs ls hC (lv_sub hl [2, 3, 4, 5, 6, 1, 0] rfl) (fun H locs ls hC hl => ?_)
          refine lv_iload hx hb dX6_like_114 (lv_at hl 5 rfl) ?_
          obtain ⟨e1, e2, e3, e4⟩ := z_s4 hf
          subst e1
          subst e2
          subst e3
          subst e4
          exact z_iret S0 hr hlk hC dX6_like_116
        · replace hf := z_pos cd8 hf
          refine lv_iconst (v := (-1)) hx hb dX6_like_37 (by decide) ?_
          obtain ⟨e1, e2, e3, e4⟩ := z_s4 hf
          subst e1
          subst e2
          subst e3
          subst e4
          exact z_iret S0 hr hlk hC dX6_like_38

-- X6 takeZone
def f_X6_takeZone_18 (y1 : Int32) : Nat → Int32 → Int32 → (Nat → Int32) → Option (Int32 × Int32 × (Nat → Int32))
  | 0, _, _, _ => none
  | fu + 1, y2, y3, Ms =>
    (zald 150 Ms 1).bind fun x5 => if x5 ≤ y3 then
      some (y2, y3, Ms)
    else
      (f_X6_of Ms y3 0).bind fun r7 => if r7 = y1 then
        (f_X6_dropsVoice Ms y3).bind fun r15 => f_X6_takeZone_18 y1 fu (y2 + 1) y3 r15
      else
        (f_X6_of Ms y3 0).bind fun r9 => Option.bind (α := Int32) (
          if r9 ≤ y1 then
            (f_X6_of Ms y3 0).bind fun r13 => some (r13)
          else
            (f_X6_of Ms y3 0).bind fun r14 => some ((r14 - 1))
        ) fun t11 =>
          (f_X6_lays Ms y3 0 t11).bind fun r12 => f_X6_takeZone_18 y1 fu y2 (y3 + 1) r12

theorem f_X6_takeZone_18_s (y1 : Int32) (y2 : Int32) (y3 : Int32) (Ms : (Nat → Int32)) (fu : Nat) : f_X6_takeZone_18 y1 (fu + 1) y2 y3 Ms = (
    (zald 150 Ms 1).bind fun x5 => if x5 ≤ y3 then
      some (y2, y3, Ms)
    else
      (f_X6_of Ms y3 0).bind fun r7 => if r7 = y1 then
        (f_X6_dropsVoice Ms y3).bind fun r15 => f_X6_takeZone_18 y1 fu (y2 + 1) y3 r15
      else
        (f_X6_of Ms y3 0).bind fun r9 => Option.bind (α := Int32) (
          if r9 ≤ y1 then
            (f_X6_of Ms y3 0).bind fun r13 => some (r13)
          else
            (f_X6_of Ms y3 0).bind fun r14 => some ((r14 - 1))
        ) fun t11 =>
          (f_X6_lays Ms y3 0 t11).bind fun r12 => f_X6_takeZone_18 y1 fu y2 (y3 + 1) r12
    ) := rfl

def f_X6_takeZone_118 (y2 : Int32) : Nat → Int32 → (Nat → Int32) → Option (Int32 × (Nat → Int32))
  | 0, _, _ => none
  | fu + 1, y4, Ms =>
    if 86 ≤ y4 then
      some (y4, Ms)
    else
      Option.bind (α := Int32) (
        if 86 ≤ (y4 + 7) then
          some (0)
        else
          (zald 150 Ms (y4 + 7)).bind fun x26 => some (x26)
      ) fun t24 =>
        (zast 150 Ms y4 t24).bind fun g25 => f_X6_takeZone_118 y2 fu (y4 + 1) g25

theorem f_X6_takeZone_118_s (y2 : Int32) (y4 : Int32) (Ms : (Nat → Int32)) (fu : Nat) : f_X6_takeZone_118 y2 (fu + 1) y4 Ms = (
    if 86 ≤ y4 then
      some (y4, Ms)
    else
      Option.bind (α := Int32) (
        if 86 ≤ (y4 + 7) then
          some (0)
        else
          (zald 150 Ms (y4 + 7)).bind fun x26 => some (x26)
      ) fun t24 =>
        (zast 150 Ms y4 t24).bind fun g25 => f_X6_takeZone_118 y2 fu (y4 + 1) g25
    ) := rfl

def f_X6_takeZone (Ms : (Nat → Int32)) (Mpa : (Nat → Int32)) (Mkn : Int32) (p1 : Int32) : Option (Int32 × (Nat → Int32) × (Nat → Int32) × Int32) :=
  (f_X6_isZone Ms p1).bind fun r1 => if r1 = 0 then
    some ((-1), Ms, Mpa, Mkn)
  else
    (f_X6_records Ms Mpa Mkn).bind fun r3 => (f_X6_takeZone_18 p1 zF 0 0 Ms).bind fun t16 =>
      (zald 150 t16.2.2 8).bind fun x17 => (zast 150 t16.2.2 8 (x17 + t16.1)).bind fun g18 => (zald 150 g18 0).bind fun x19 => (zast 150 g18 0 (x19 - 1)).bind fun g20 => (f_X6_takeZone_118 t16.1 zF (16 + (7 * p1)) g20).bind fun t27 =>
        some (t16.1, t27.2, r3.1, r3.2)

theorem kX6_takeZone_7 : Cond.fieldLink RX6 7 "ZoneSamplerModel" "s" "[I" ∈ wsX6_takeZone := by decide +kernel
theorem jX6_takeZone_X6 : ∀ w ∈ u_ws RX6 TX6 17, w ∈ wsX6_takeZone := by decide +kernel
set_option maxHeartbeats 4000000 in
set_option maxRecDepth 100000 in
theorem c_X6_takeZone (l : Launch) (G : va_G) (c3 : zT3) (oM : zR8) (BM : zMd) (p1 : Int32) {r : Int32} {Ms' : (Nat → Int32)} {Mpa' : (Nat → Int32)} {Mkn' : Int32} (hf : f_X6_takeZone BM.1 BM.2.2.1 BM.2.2.2.1 p1 = some (r, Ms', Mpa', Mkn')) : zM l yX6_takeZone wsX6_takeZone ⟨2, 0, 0, 45⟩ G c3 (zwM c3.1 c3.2.2 oM (BM.1, BM.2.1, BM.2.2.1, BM.2.2.2.1, BM.2.2.2.2.1, BM.2.2.2.2.2.1, BM.2.2.2.2.2.2.1, BM.2.2.2.2.2.2.2.1, BM.2.2.2.2.2.2.2.2.1, BM.2.2.2.2.2.2.2.2.2.1, BM.2.2.2.2.2.2.2.2.2.2.1, BM.2.2.2.2.2.2.2.2.2.2.2.1, BM.2.2.2.2.2.2.2.2.2.2.2.2.1, BM.2.2.2.2.2.2.2.2.2.2.2.2.2.1, BM.2.2.2.2.2.2.2.2.2.2.2.2.2.2.1, BM.2.2.2.2.2.2.2.2.2.2.2.2.2.2.2.1, BM.2.2.2.2.2.2.2.2.2.2.2.2.2.2.2.2)) [.ref oM.1, .int p1] (some (.int r)) (zwM c3.1 c3.2.2 oM (Ms', BM.2.1, Mpa', Mkn', BM.2.2.2.2.1, BM.2.2.2.2.2.1, BM.2.2.2.2.2.2.1, BM.2.2.2.2.2.2.2.1, BM.2.2.2.2.2.2.2.2.1, BM.2.2.2.2.2.2.2.2.2.1, BM.2.2.2.2.2.2.2.2.2.2.1, BM.2.2.2.2.2.2.2.2.2.2.2.1, BM.2.2.2.2.2.2.2.2.2.2.2.2.1, BM.2.2.2.2.2.2.2.2.2.2.2.2.2.1, BM.2.2.2.2.2.2.2.2.2.2.2.2.2.2.1, BM.2.2.2.2.2.2.2.2.2.2.2.2.2.2.2.1, BM.2.2.2.2.2.2.2.2.2.2.2.2.2.2.2.2)) := by
  obtain ⟨Ms, Mas, Mpa, Mkn, Mke, Mik, Mpp, Mle, Mso, Mfz, Msp, Mfo, Mrd, Mrs, Mlt, Mfi, Mse⟩ := BM
  have hf : f_X6_takeZone Ms Mpa Mkn p1 = some (r, Ms', Mpa', Mkn') := hf
  show zM l yX6_takeZone wsX6_takeZone ⟨2, 0, 0, 45⟩ G c3 (zwM c3.1 c3.2.2 oM (Ms, Mas, Mpa, Mkn, Mke, Mik, Mpp, Mle, Mso, Mfz, Msp, Mfo, Mrd, Mrs, Mlt, Mfi, Mse)) [.ref oM.1, .int p1] (some (.int r)) (zwM c3.1 c3.2.2 oM (Ms', Mas, Mpa', Mkn', Mke, Mik, Mpp, Mle, Mso, Mfz, Msp, Mfo, Mrd, Mrs, Mlt, Mfi, Mse))
  refine zM.of (cc := cX6_takeZone) (maxL := 5) (ret := (some .int)) (by decide) rfl (Nat.le_of_ble_eq_true rfl) ?_
  intro p e s m args below meth c A ls S0 hr hlk hC hl
  have S0 : CallFix p m c cX6_takeZone 5 s args wsX6_takeZone RX6 := S0
  have hl : lv_has ls 5 [(0, .ref oM.1), (1, .int p1)] := hl
  have hx := S0.1
  have hb := S0.2.1
  obtain ⟨H, hH⟩ : ∃ y, y = s.heap := ⟨_, rfl⟩
  rw [← hH] at hC ⊢
  obtain ⟨locs, hlo⟩ : ∃ y : List Loc, y = [] := ⟨_, rfl⟩
  rw [← hlo] at hC ⊢
  clear hH hlo
  unfold f_X6_takeZone at hf
  refine lv_aload_n hx hb dX6_takeZone_0 rfl (lv_at hl 0 rfl) ?_
  refine lv_iload_n hx hb dX6_takeZone_1 rfl (lv_at hl 1 rfl) ?_
  obtain ⟨r1, hr1, hf⟩ := z_bind hf
  refine z_callPi (z_runV (n := 1) (rest := []) (As := [.int p1]) S0 hC (c_X6_isZone l G c3 oM (Ms, Mas, Mpa, Mkn, Mke, Mik, Mpp, Mle, Mso, Mfz, Msp, Mfo, Mrd, Mrs, Mlt, Mfi, Mse) p1 hr1) [0, 1, 2, 3, 4, 5, 6, 7] (by decide) rfl gX6_takeZone_X6_isZone rfl rfl rfl (by decide +kernel) ⟨Nat.le_of_ble_eq_true rfl, Nat.le_of_ble_eq_true rfl⟩ (ci := 6) (q0 := 0) rfl rfl rfl hl.1 rfl (Nat.le_of_ble_eq_true rfl) dX6_takeZone_2) hC [0, 1, 2, 3, 4, 5, 6, 7] rfl (fun H locs hC => ?_)
  refine lv_if_ne (tgt := 10) hx hb dX6_takeZone_5 (by decide) (fun cd2 => ?_) (fun cd2 => ?_)
  · replace hf := z_neg cd2 hf
    refine lv_aload_n hx hb dX6_takeZone_10 rfl (lv_at hl 0 rfl) ?_
    obtain ⟨r3, hr3, hf⟩ := z_bind hf
    refine z_callv (z_runV (n := 0) (rest := []) (As := []) S0 hC (c_X6_records l G c3 oM (Ms, Mas, Mpa, Mkn, Mke, Mik, Mpp, Mle, Mso, Mfz, Msp, Mfo, Mrd, Mrs, Mlt, Mfi, Mse) hr3) [0, 1, 2, 3, 4, 5, 6, 7] (by decide) rfl gX6_takeZone_X6_records rfl rfl rfl (by decide +kernel) ⟨Nat.le_of_ble_eq_true rfl, Nat.le_of_ble_eq_true rfl⟩ (ci := 6) (q0 := 0) rfl rfl rfl hl.1 rfl (Nat.le_of_ble_eq_true rfl) dX6_takeZone_11) hC [0, 1, 2, 3, 4, 5, 6, 7] [] [0, 1, 2, 3, 4, 5, 6, 7] rfl (wr := ([] : va_W)) rfl (by decide) (by decide) (ws2 := (zwM c3.1 c3.2.2 oM (Ms, Mas, r3.1, r3.2, Mke, Mik, Mpp, Mle, Mso, Mfz, Msp, Mfo, Mrd, Mrs, Mlt, Mfi, Mse))) rfl (by decide) (fun H locs hC => ?_)
    refine lv_iconst (v := 0) hx hb dX6_takeZone_14 (by decide) ?_
    refine lv_istore_n (lv' := [(2, .int 0), (0, .ref oM.1), (1, .int p1)]) hx hb dX6_takeZone_15 rfl hl (by decide) rfl (fun ls hl => ?_)
    refine lv_iconst (v := 0) hx hb dX6_takeZone_16 (by decide) ?_
    refine lv_istore_n (lv' := [(3, .int 0), (2, .int 0), (0, .ref oM.1), (1, .int p1)]) hx hb dX6_takeZone_17 rfl hl (by decide) rfl (fun ls hl => ?_)
    have L18 : ∀ (fu : Nat) (y1 : Int32) (y2 : Int32) (y3 : Int32) (Ms : (Nat → Int32)) (Mas : (Nat → Int32)) (Mpa : (Nat → Int32)) (Mkn : Int32) (Mke : (Nat → Int32)) (Mik : Int32) (Mpp : (Nat → Int32)) (Mle : Int32) (Mso : (Nat → Int32)) (Mfz : Int32) (Msp : Int32) (Mfo : Int32) (Mrd : (Nat → Int32)) (Mrs : Int32) (Mlt : Int32) (Mfi : Int32) (Mse : Int32) (tt : Int32 × Int32 × (Nat → Int32)), f_X6_takeZone_18 y1 fu y2 y3 Ms = some tt → ∀ (H : Heap) (locs : List Loc) (ls : Array Slot), zC G c3 A s (zwM c3.1 c3.2.2 oM (Ms, Mas, Mpa, Mkn, Mke, Mik, Mpp, Mle, Mso, Mfz, Msp, Mfo, Mrd, Mrs, Mlt, Mfi, Mse)) H locs → lv_has ls 5 [(0, .ref oM.1), (1, .int y1), (2, .int y2), (3, .int y3)] → (∀ (H : Heap) (locs : List Loc) (ls : Array Slot), zC G c3 A s (zwM c3.1 c3.2.2 oM (tt.2.2, Mas, Mpa, Mkn, Mke, Mik, Mpp, Mle, Mso, Mfz, Msp, Mfo, Mrd, Mrs, Mlt, Mfi, Mse)) H locs → lv_has ls 5 [(0, .ref oM.1), (1, .int y1), (2, .int tt.1), (3, .int tt.2.1)] → W p l e ⟨2, 0, 0, 45⟩ s m args below meth c H locs 0 0 (MQ below (zPost G (zwM c3.1 c3.2.2 oM (Ms', Mas, Mpa', Mkn', Mke, Mik, Mpp, Mle, Mso, Mfz, Msp, Mfo, Mrd, Mrs, Mlt, Mfi, Mse)) (some (.int r)) A) args s 0 0 A) (F0 m 88 ls [])) → W p l e ⟨2, 0, 0, 45⟩ s m args below meth c H locs 0 0 (MQ below (zPost G (zwM c3.1 c3.2.2 oM (Ms', Mas, Mpa', Mkn', Mke, Mik, Mpp, Mle, Mso, Mfz, Msp, Mfo, Mrd, Mrs, Mlt, Mfi, Mse)) (some (.int r)) A) args s 0 0 A) (F0 m 18 ls []) := by
      intro fu
      induction fu with
      | zero =>
        intro y1 y2 y3 Ms Mas Mpa Mkn Mke Mik Mpp Mle Mso Mfz Msp Mfo Mrd Mrs Mlt Mfi Mse tt hf H locs ls hC hl hK
        exact (z_none hf).elim
      | succ fu ih18 =>
        intro y1 y2 y3 Ms Mas Mpa Mkn Mke Mik Mpp Mle Mso Mfz Msp Mfo Mrd Mrs Mlt Mfi Mse tt hf H locs ls hC hl hK
        replace hf := (f_X6_takeZone_18_s y1 y2 y3 Ms fu).symm.trans hf
        refine lv_iload_n hx hb dX6_takeZone_18 rfl (lv_at hl 3 rfl) ?_
        refine lv_aload_n hx hb dX6_takeZone_19 rfl (lv_at hl 0 rfl) ?_
        refine z_get S0 hC (ci := 6) (C := RX6) (T := TX6) (N := 17) (v := .ref oM.2.1) jX6_takeZone_X6 0 rfl rfl 0 (by decide) kX6_takeZone_7 rfl rfl dX6_takeZone_20 ?_
        refine lv_iconst (v := 1) hx hb dX6_takeZone_23 (by decide) ?_
        obtain ⟨x5, hx5, hf⟩ := z_bind hf
        refine z_iald S0 hC 1 rfl hx5 dX6_takeZone_24 ?_
        refine lv_icmp_ge (tgt := 88) hx hb dX6_takeZone_25 (by decide) (fun cd6 => ?_) (fun cd6 => ?_)
        · replace hf := z_pos cd6 hf
          have e1 := z_s1 hf
          subst e1
          exact hK H locs ls hC (lv_sub hl [0, 1, 2, 3] rfl)
        · replace hf := z_neg cd6 hf
          refine lv_aload_n hx hb dX6_takeZone_28 rfl (lv_at hl 0 rfl) ?_
          refine lv_iload_n hx hb dX6_takeZone_29 rfl (lv_at hl 3 rfl) ?_
          refine lv_iconst (v := 0) hx hb dX6_takeZone_30 (by decide) ?_
          obtain ⟨r7, hr7, hf⟩ := z_bind hf
          refine z_callPi (z_runV (n := 2) (rest := []) (As := [.int y3, .int 0]) S0 hC (c_X6_of l G c3 oM (Ms, Mas, Mpa, Mkn, Mke, Mik, Mpp, Mle, Mso, Mfz, Msp, Mfo, Mrd, Mrs, Mlt, Mfi, Mse) y3 0 hr7) [0, 1, 2, 3, 4, 5, 6, 7] (by decide) rfl gX6_takeZone_X6_of rfl rfl rfl (by decide +kernel) ⟨Nat.le_of_ble_eq_true rfl, Nat.le_of_ble_eq_true rfl⟩ (ci := 6) (q0 := 0) rfl rfl rfl hl.1 rfl (Nat.le_of_ble_eq_true rfl) dX6_takeZone_31) hC [0, 1, 2, 3, 4, 5, 6, 7] rfl (fun H locs hC => ?_)
          refine lv_iload_n hx hb dX6_takeZone_34 rfl (lv_at hl 1 rfl) ?_
          refine lv_icmp_ne (tgt := 49) hx hb dX6_takeZone_35 (by decide) (fun cd8 => ?_) (fun cd8 => ?_)
          · replace hf := z_neg cd8 hf
            refine lv_aload_n hx hb dX6_takeZone_49 rfl (lv_at hl 0 rfl) ?_
            refine lv_iload_n hx hb dX6_takeZone_50 rfl (lv_at hl 3 rfl) ?_
            refine lv_iconst (v := 0) hx hb dX6_takeZone_51 (by decide) ?_
            refine lv_aload_n hx hb dX6_takeZone_52 rfl (lv_at hl 0 rfl) ?_
            refine lv_iload_n hx hb dX6_takeZone_53 rfl (lv_at hl 3 rfl) ?_
            refine lv_iconst (v := 0) hx hb dX6_takeZone_54 (by decide) ?_
            obtain ⟨r9, hr9, hf⟩ := z_bind hf
            refine z_callPi (z_runV (n := 2) (rest := [.int 0, .int y3, .ref oM.1]) (As := [.int y3, .int 0]) S0 hC (c_X6_of l G c3 oM (Ms, Mas, Mpa, Mkn, Mke, Mik, Mpp, Mle, Mso, Mfz, Msp, Mfo, Mrd, Mrs, Mlt, Mfi, Mse) y3 0 hr9) [0, 1, 2, 3, 4, 5, 6, 7] (by decide) rfl gX6_takeZone_X6_of rfl rfl rfl (by decide +kernel) ⟨Nat.le_of_ble_eq_true rfl, Nat.le_of_ble_eq_true rfl⟩ (ci := 6) (q0 := 0) rfl rfl rfl hl.1 rfl (Nat.le_of_ble_eq_true rfl) dX6_takeZone_55) hC [0, 1, 2, 3, 4, 5, 6, 7] rfl (fun H locs hC => ?_)
            refine lv_iload_n hx hb dX6_takeZone_58 rfl (lv_at hl 1 rfl) ?_
            obtain ⟨t11, ht11, hf⟩ := z_bind hf
            have Jt11 : ∀ (H : Heap) (locs : List Loc) (ls : Array Slot), zC G c3 A s (zwM c3.1 c3.2.2 oM (Ms, Mas, Mpa, Mkn, Mke, Mik, Mpp, Mle, Mso, Mfz, Msp, Mfo, Mrd, Mrs, Mlt, Mfi, Mse)) H locs → lv_has ls 5 [(0, .ref oM.1), (1, .int y1), (2, .int y2), (3, .int y3)] → W p l e ⟨2, 0, 0, 45⟩ s m args below meth c H locs 0 0 (MQ below (zPost G (zwM c3.1 c3.2.2 oM (Ms', Mas, Mpa', Mkn', Mke, Mik, Mpp, Mle, Mso, Mfz, Msp, Mfo, Mrd, Mrs, Mlt, Mfi, Mse)) (some (.int r)) A) args s 0 0 A) (F0 m 79 ls [.int t11, .int 0, .int y3, .ref oM.1]) := by
              intro H locs ls hC hl
              obtain ⟨r12, hr12, hf⟩ := z_bind hf
              refine z_callv (z_runV (n := 3) (rest := []) (As := [.int y3, .int 0, .int t11]) S0 hC (c_X6_lays l G c3 oM (Ms, Mas, Mpa, Mkn, Mke, Mik, Mpp, Mle, Mso, Mfz, Msp, Mfo, Mrd, Mrs, Mlt, Mfi, Mse) y3 0 t11 hr12) [0, 1, 2, 3, 4, 5, 6, 7] (by decide) rfl gX6_takeZone_X6_lays rfl rfl rfl (by decide +kernel) ⟨Nat.le_of_ble_eq_true rfl, Nat.le_of_ble_eq_true rfl⟩ (ci := 6) (q0 := 0) rfl rfl rfl hl.1 rfl (Nat.le_of_ble_eq_true rfl) dX6_takeZone_79) hC [0, 1, 2, 3, 4, 5, 6, 7] [] [0, 1, 2, 3, 4, 5, 6, 7] rfl (wr := ([] : va_W)) rfl (by decide) (by decide) (ws2 := (zwM c3.1 c3.2.2 oM (r12, Mas, Mpa, Mkn, Mke, Mik, Mpp, Mle, Mso, Mfz, Msp, Mfo, Mrd, Mrs, Mlt, Mfi, Mse))) rfl (by decide) (fun H locs hC => ?_)
              refine lv_iinc (v := (y3 + 1)) (lv' := [(3, .int (y3 + 1)), (0, .ref oM.1), (1, .int y1), (2, .int y2)]) hx hb dX6_takeZone_82 hl (k := 3) rfl rfl (by decide) rfl (fun ls hl => ?_)
              refine lv_goto (tgt := 18) hx hb dX6_takeZone_85 (by decide) ?_
              exact ih18 y1 y2 (y3 + 1) r12 Mas Mpa Mkn Mke Mik Mpp Mle Mso Mfz Msp Mfo Mrd Mrs Mlt Mfi Mse _ hf H locs ls hC (lv_sub hl [1, 2, 3, 0] rfl) hK
            refine lv_icmp_le (tgt := 73) hx hb dX6_takeZone_59 (by decide) (fun cd10 => ?_) (fun cd10 => ?_)
            · replace ht11 := z_pos cd10 ht11
              refine lv_aload_n hx hb dX6_takeZone_73 rfl (lv_at hl 0 rfl) ?_
              refine lv_iload_n hx hb dX6_takeZone_74 rfl (lv_at hl 3 rfl) ?_
              refine lv_iconst (v := 0) hx hb dX6_takeZone_75 (by decide) ?_
              obtain ⟨r13, hr13, ht11⟩ := z_bind ht11
              refine z_callPi (z_runV (n := 2) (rest := [.int 0, .int y3, .ref oM.1]) (As := [.int y3, .int 0]) S0 hC (c_X6_of l G c3 oM (Ms, Mas, Mpa, Mkn, Mke, Mik, Mpp, Mle, Mso, Mfz, Msp, Mfo, Mrd, Mrs, Mlt, Mfi, Mse) y3 0 hr13) [0, 1, 2, 3, 4, 5, 6, 7] (by decide) rfl gX6_takeZone_X6_of rfl rfl rfl (by decide +kernel) ⟨Nat.le_of_ble_eq_true rfl, Nat.le_of_ble_eq_true rfl⟩ (ci := 6) (q0 := 0) rfl rfl rfl hl.1 rfl (Nat.le_of_ble_eq_true rfl) dX6_takeZone_76) hC [0, 1, 2, 3, 4, 5, 6, 7] rfl (fun H locs hC => ?_)
              have e1 := z_s1 ht11
              subst e1
              exact Jt11 H locs ls hC (lv_sub hl [0, 1, 2, 3] rfl)
            · replace ht11 := z_neg cd10 ht11
              refine lv_aload_n hx hb dX6_takeZone_62 rfl (lv_at hl 0 rfl) ?_
              refine lv_iload_n hx hb dX6_takeZone_63 rfl (lv_at hl 3 rfl) ?_
              refine lv_iconst (v := 0) hx hb dX6_takeZone_64 (by decide) ?_
              obtain ⟨r14, hr14, ht11⟩ := z_bind ht11
              refine z_callPi (z_runV (n := 2) (rest := [.int 0, .int y3, .ref oM.1]) (As := [.int y3, .int 0]) S0 hC (c_X6_of l G c3 oM (Ms, Mas, Mpa, Mkn, Mke, Mik, Mpp, Mle, Mso, Mfz, Msp, Mfo, Mrd, Mrs, Mlt, Mfi, Mse) y3 0 hr14) [0, 1, 2, 3, 4, 5, 6, 7] (by decide) rfl gX6_takeZone_X6_of rfl rfl rfl (by decide +kernel) ⟨Nat.le_of_ble_eq_true rfl, Nat.le_of_ble_eq_true rfl⟩ (ci := 6) (q0 := 0) rfl rfl rfl hl.1 rfl (Nat.le_of_ble_eq_true rfl) dX6_takeZone_65) hC [0, 1, 2, 3, 4, 5, 6, 7] rfl (fun H locs hC => ?_)
              refine lv_iconst (v := 1) hx hb dX6_takeZone_68 (by decide) ?_
              refine lv_isub hx hb dX6_takeZone_69 ?_
              refine lv_goto (tgt := 79) hx hb dX6_takeZone_70 (by decide) ?_
              have e1 := z_s1 ht11
              subst e1
              exact Jt11 H locs ls hC (lv_sub hl [0, 1, 2, 3] rfl)
          · replace hf := z_pos cd8 hf
            refine lv_aload_n hx hb dX6_takeZone_38 rfl (lv_at hl 0 rfl) ?_
            refine lv_iload_n hx hb dX6_takeZone_39 rfl (lv_at hl 3 rfl) ?_
            obtain ⟨r15, hr15, hf⟩ := z_bind hf
            refine z_callv (z_runV (n := 1) (rest := []) (As := [.int y3]) S0 hC (c_X6_dropsVoice l G c3 oM (Ms, Mas, Mpa, Mkn, Mke, Mik, Mpp, Mle, Mso, Mfz, Msp, Mfo, Mrd, Mrs, Mlt, Mfi, Mse) y3 hr15) [0, 1, 2, 3, 4, 5, 6, 7] (by decide) rfl gX6_takeZone_X6_dropsVoice rfl rfl rfl (by decide +kernel) ⟨Nat.le_of_ble_eq_true rfl, Nat.le_of_ble_eq_true rfl⟩ (ci := 6) (q0 := 0) rfl rfl rfl hl.1 rfl (Nat.le_of_ble_eq_true rfl) dX6_takeZone_40) hC [0, 1, 2, 3, 4, 5, 6, 7] [] [0, 1, 2, 3, 4, 5, 6, 7] rfl (wr := ([] : va_W)) rfl (by decide) (by decide) (ws2 := (zwM c3.1 c3.2.2 oM (r15, Mas, Mpa, Mkn, Mke, Mik, Mpp, Mle, Mso, Mfz, Msp, Mfo, Mrd, Mrs, Mlt, Mfi, Mse))) rfl (by decide) (fun H locs hC => ?_)
            refine lv_iinc (v := (y2 + 1)) (lv' := [(2, .int (y2 + 1)), (0, .ref oM.1), (1, .int y1), (3, .int y3)]) hx hb dX6_takeZone_43 hl (k := 2) rfl rfl (by decide) rfl (fun ls hl => ?_)
            refine lv_goto (tgt := 18) hx hb dX6_takeZone_46 (by decide) ?_
            exact ih18 y1 (y2 + 1) y3 r15 Mas Mpa Mkn Mke Mik Mpp Mle Mso Mfz Msp Mfo Mrd Mrs Mlt Mfi Mse _ hf H locs ls hC (lv_sub hl [1, 2, 0, 3] rfl) hK
    obtain ⟨t16, ht16, hf⟩ := z_bind hf
    refine L18 zF p1 0 0 Ms Mas r3.1 r3.2 Mke Mik Mpp Mle Mso Mfz Msp Mfo Mrd Mrs Mlt Mfi Mse t16 ht16 H locs ls hC (lv_sub hl [2, 3, 1, 0] rfl) (fun H locs ls hC hl => ?_)
    refine lv_aload_n hx hb dX6_takeZone_88 rfl (lv_at hl 0 rfl) ?_
    refine z_get S0 hC (ci := 6) (C := RX6) (T := TX6) (N := 17) (v := .ref oM.2.1) jX6_takeZone_X6 0 rfl rfl 0 (by decide) kX6_takeZone_7 rfl rfl dX6_takeZone_89 ?_
    refine lv_bipush (v := 8) hx hb dX6_takeZone_92 (by decide) ?_
    refine lv_dup2_11 hx hb dX6_takeZone_94 rfl rfl ?_
    obtain ⟨x17, hx17, hf⟩ := z_bind hf
    refine z_iald S0 hC 1 rfl hx17 dX6_takeZone_95 ?_
    refine lv_iload_n hx hb dX6_takeZone_96 rfl (lv_at hl 2 rfl) ?_
    refine lv_iadd hx hb dX6_takeZone_97 ?_
    obtain ⟨g18, hg18, hf⟩ := z_bind hf
    refine z_iast S0 hC 1 rfl hg18 dX6_takeZone_98 (ws2 := (zwM c3.1 c3.2.2 oM (g18, Mas, r3.1, r3.2, Mke, Mik, Mpp, Mle, Mso, Mfz, Msp, Mfo, Mrd, Mrs, Mlt, Mfi, Mse))) rfl (fun H locs hC => ?_)
    refine lv_aload_n hx hb dX6_takeZone_99 rfl (lv_at hl 0 rfl) ?_
    refine z_get S0 hC (ci := 6) (C := RX6) (T := TX6) (N := 17) (v := .ref oM.2.1) jX6_takeZone_X6 0 rfl rfl 0 (by decide) kX6_takeZone_7 rfl rfl dX6_takeZone_100 ?_
    refine lv_iconst (v := 0) hx hb dX6_takeZone_103 (by decide) ?_
    refine lv_dup2_11 hx hb dX6_takeZone_104 rfl rfl ?_
    obtain ⟨x19, hx19, hf⟩ := z_bind hf
    refine z_iald S0 hC 1 rfl hx19 dX6_takeZone_105 ?_
    refine lv_iconst (v := 1) hx hb dX6_takeZone_106 (by decide) ?_
    refine lv_isub hx hb dX6_takeZone_107 ?_
    obtain ⟨g20, hg20, hf⟩ := z_bind hf
    refine z_iast S0 hC 1 rfl hg20 dX6_takeZone_108 (ws2 := (zwM c3.1 c3.2.2 oM (g20, Mas, r3.1, r3.2, Mke, Mik, Mpp, Mle, Mso, Mfz, Msp, Mfo, Mrd, Mrs, Mlt, Mfi, Mse))) rfl (fun H locs hC => ?_)
    refine lv_bipush (v := 16) hx hb dX6_takeZone_109 (by decide) ?_
    refine lv_bipush (v := 7) hx hb dX6_takeZone_111 (by decide) ?_
    refine lv_iload_n hx hb dX6_takeZone_113 rfl (lv_at hl 1 rfl) ?_
    refine lv_imul hx hb dX6_takeZone_114 ?_
    refine lv_iadd hx hb dX6_takeZone_115 ?_
    refine lv_istore (lv' := [(4, .int (16 + (7 * p1))), (0, .ref oM.1), (1, .int p1), (2, .int t16.1), (3, .int t16.2.1)]) hx hb dX6_takeZone_116 hl (by decide) rfl (fun ls hl => ?_)
    have L118 : ∀ (fu : Nat) (y1 : Int32) (y2 : Int32) (y3 : Int32) (y4 : Int32) (Ms : (Nat → Int32)) (Mas : (Nat → Int32)) (Mpa : (Nat → Int32)) (Mkn : Int32) (Mke : (Nat → Int32)) (Mik : Int32) (Mpp : (Nat → Int32)) (Mle : Int32) (Mso : (Nat → Int32)) (Mfz : Int32) (Msp : Int32) (Mfo : Int32) (Mrd : (Nat → Int32)) (Mrs : Int32) (Mlt : Int32) (Mfi : Int32) (Mse : Int32) (tt : Int32 × (Nat → Int32)), f_X6_takeZone_118 y2 fu y4 Ms = some tt → ∀ (H : Heap) (locs : List Loc) (ls : Array Slot), zC G c3 A s (zwM c3.1 c3.2.2 oM (Ms, Mas, Mpa, Mkn, Mke, Mik, Mpp, Mle, Mso, Mfz, Msp, Mfo, Mrd, Mrs, Mlt, Mfi, Mse)) H locs → lv_has ls 5 [(0, .ref oM.1), (1, .int y1), (2, .int y2), (3, .int y3), (4, .int y4)] → (∀ (H : Heap) (locs : List Loc) (ls : Array Slot), zC G c3 A s (zwM c3.1 c3.2.2 oM (tt.2, Mas, Mpa, Mkn, Mke, Mik, Mpp, Mle, Mso, Mfz, Msp, Mfo, Mrd, Mrs, Mlt, Mfi, Mse)) H locs → lv_has ls 5 [(0, .ref oM.1), (1, .int y1), (2, .int y2), (3, .int y3), (4, .int tt.1)] → W p l e ⟨2, 0, 0, 45⟩ s m args below meth c H locs 0 0 (MQ below (zPost G (zwM c3.1 c3.2.2 oM (Ms', Mas, Mpa', Mkn', Mke, Mik, Mpp, Mle, Mso, Mfz, Msp, Mfo, Mrd, Mrs, Mlt, Mfi, Mse)) (some (.int r)) A) args s 0 0 A) (F0 m 162 ls [])) → W p l e ⟨2, 0, 0, 45⟩ s m args below meth c H locs 0 0 (MQ below (zPost G (zwM c3.1 c3.2.2 oM (Ms', Mas, Mpa', Mkn', Mke, Mik, Mpp, Mle, Mso, Mfz, Msp, Mfo, Mrd, Mrs, Mlt, Mfi, Mse)) (some (.int r)) A) args s 0 0 A) (F0 m 118 ls []) := by
      intro fu
      induction fu with
      | zero =>
        intro y1 y2 y3 y4 Ms Mas Mpa Mkn Mke Mik Mpp Mle Mso Mfz Msp Mfo Mrd Mrs Mlt Mfi Mse tt hf H locs ls hC hl hK
        exact (z_none hf).elim
      | succ fu ih118 =>
        intro y1 y2 y3 y4 Ms Mas Mpa Mkn Mke Mik Mpp Mle Mso Mfz Msp Mfo Mrd Mrs Mlt Mfi Mse tt hf H locs ls hC hl hK
        replace hf := (f_X6_takeZone_118_s y2 y4 Ms fu).symm.trans hf
        refine lv_iload hx hb dX6_takeZone_118 (lv_at hl 4 rfl) ?_
        refine lv_bipush (v := 86) hx hb dX6_takeZone_120 (by decide) ?_
        refine lv_icmp_ge (tgt := 162) hx hb dX6_takeZone_122 (by decide) (fun cd22 => ?_) (fun cd22 => ?_)
        · replace hf := z_pos cd22 hf
          have e1 := z_s1 hf
          subst e1
          exact hK H locs ls hC (lv_sub hl [0, 1, 2, 3, 4] rfl)
        · replace hf := z_neg cd22 hf
          refine lv_aload_n hx hb dX6_takeZone_125 rfl (lv_at hl 0 rfl) ?_
          refine z_get S0 hC (ci := 6) (C := RX6) (T := TX6) (N := 17) (v := .ref oM.2.1) jX6_takeZone_X6 0 rfl rfl 0 (by decide) kX6_takeZone_7 rfl rfl dX6_takeZone_126 ?_
          refine lv_iload hx hb dX6_takeZone_129 (lv_at hl 4 rfl) ?_
          refine lv_iload hx hb dX6_takeZone_131 (lv_at hl 4 rfl) ?_
          refine lv_bipush (v := 7) hx hb dX6_takeZone_133 (by decide) ?_
          refine lv_iadd hx hb dX6_takeZone_135 ?_
          refine lv_bipush (v := 86) hx hb dX6_takeZone_136 (by decide) ?_
          obtain ⟨t24, ht24, hf⟩ := z_bind hf
          have Jt24 : ∀ (H : Heap) (locs : List Loc) (ls : Array Slot), zC G c3 A s (zwM c3.1 c3.2.2 oM (Ms, Mas, Mpa, Mkn, Mke, Mik, Mpp, Mle, Mso, Mfz, Msp, Mfo, Mrd, Mrs, Mlt, Mfi, Mse)) H locs → lv_has ls 5 [(0, .ref oM.1), (1, .int y1), (2, .int y2), (3, .int y3), (4, .int y4)] → W p l e ⟨2, 0, 0, 45⟩ s m args below meth c H locs 0 0 (MQ below (zPost G (zwM c3.1 c3.2.2 oM (Ms', Mas, Mpa', Mkn', Mke, Mik, Mpp, Mle, Mso, Mfz, Msp, Mfo, Mrd, Mrs, Mlt, Mfi, Mse)) (some (.int r)) A) args s 0 0 A) (F0 m 155 ls [.int t24, .int y4, .ref oM.2.1]) := by
            intro H locs ls hC hl
            obtain ⟨g25, hg25, hf⟩ := z_bind hf
            refine z_iast S0 hC 1 rfl hg25 dX6_takeZone_155 (ws2 := (zwM c3.1 c3.2.2 oM (g25, Mas, Mpa, Mkn, Mke, Mik, Mpp, Mle, Mso, Mfz, Msp, Mfo, Mrd, Mrs, Mlt, Mfi, Mse))) rfl (fun H locs hC => ?_)
            refine lv_iinc (v := (y4 + 1)) (lv' := [(4, .int (y4 + 1)), (0, .ref oM.1), (1, .int y1), (2, .int y2), (3, .int y3)]) hx hb dX6_takeZone_156 hl (k := 4) rfl rfl (by decide) rfl (fun ls hl => ?_)
            refine lv_goto (tgt := 118) hx hb dX6_takeZone_159 (by decide) ?_
            exact ih118 y1 y2 y3 (y4 + 1) g25 Mas Mpa Mkn Mke Mik Mpp Mle Mso Mfz Msp Mfo Mrd Mrs Mlt Mfi Mse _ hf H locs ls hC (lv_sub hl [1, 2, 3, 4, 0] rfl) hK
          refine lv_icmp_ge (tgt := 154) hx hb dX6_takeZone_138 (by decide) (fun cd23 => ?_) (fun cd23 => ?_)
          · replace ht24 := z_pos cd23 ht24
            refine lv_iconst (v := 0) hx hb dX6_takeZone_154 (by decide) ?_
            have e1 := z_s1 ht24
            subst e1
            exact Jt24 H locs ls hC (lv_sub hl [0, 1, 2, 3, 4] rfl)
          · replace ht24 := z_neg cd23 ht24
            refine lv_aload_n hx hb dX6_takeZone_141 rfl (lv_at hl 0 rfl) ?_
            refine z_get S0 hC (ci := 6) (C := RX6) (T := TX6) (N := 17) (v := .ref oM.2.1) jX6_takeZone_X6 0 rfl rfl 0 (by decide) kX6_takeZone_7 rfl rfl dX6_takeZone_142 ?_
            refine lv_iload hx hb dX6_takeZone_145 (lv_at hl 4 rfl) ?_
            refine lv_bipush (v := 7) hx hb dX6_takeZone_147 (by decide) ?_
            refine lv_iadd hx hb dX6_takeZone_149 ?_
            obtain ⟨x26, hx26, ht24⟩ := z_bind ht24
            refine z_iald S0 hC 1 rfl hx26 dX6_takeZone_150 ?_
            refine lv_goto (tgt := 155) hx hb dX6_takeZone_151 (by decide) ?_
            have e1 := z_s1 ht24
            subst e1
            exact Jt24 H locs ls hC (lv_sub hl [0, 1, 2, 3, 4] rfl)
    obtain ⟨t27, ht27, hf⟩ := z_bind hf
    refine L118 zF p1 t16.1 t16.2.1 (16 + (7 * p1)) g20 Mas r3.1 r3.2 Mke Mik Mpp Mle Mso Mfz Msp Mfo Mrd Mrs Mlt Mfi Mse t27 ht27 H locs ls hC (lv_sub hl [1, 2, 3, 4, 0] rfl) (fun H locs ls hC hl => ?_)
    refine lv_iload_n hx hb dX6_takeZone_162 rfl (lv_at hl 2 rfl) ?_
    obtain ⟨e1, e2, e3, e4⟩ := z_s4 hf
    subst e1
    subst e2
    subst e3
    subst e4
    exact z_iret S0 hr hlk hC dX6_takeZone_163
  · replace hf := z_pos cd2 hf
    refine lv_iconst (v := (-1)) hx hb dX6_takeZone_8 (by decide) ?_
    obtain ⟨e1, e2, e3, e4⟩ := z_s4 hf
    subst e1
    subst e2
    subst e3
    subst e4
    exact z_iret S0 hr hlk hC dX6_takeZone_9

-- X6 isNote
def f_X6_isNote (p0 : Int32) (p1 : Int32) : Option (Int32) :=
  (f_X6_in p0 0 35).bind fun r1 => if r1 = 0 then
    some (0)
  else
    (f_X6_in p1 1 9).bind fun r3 => if r3 = 0 then
      some (0)
    else
      some (1)

set_option maxHeartbeats 4000000 in
set_option maxRecDepth 100000 in
theorem c_X6_isNote (l : Launch) (G : va_G) (c3 : zT3) (p0 : Int32) (p1 : Int32) {r : Int32} (hf : f_X6_isNote p0 p1 = some (r)) : zM l yX6_isNote wsX6_isNote ⟨1, 0, 0, 22⟩ G c3 ([] : va_W) [.int p0, .int p1] (some (.int r)) ([] : va_W) := by
  have hf : f_X6_isNote p0 p1 = some (r) := hf
  show zM l yX6_isNote wsX6_isNote ⟨1, 0, 0, 22⟩ G c3 ([] : va_W) [.int p0, .int p1] (some (.int r)) ([] : va_W)
  refine zM.of (cc := cX6_isNote) (maxL := 2) (ret := (some .boolean)) (by decide) rfl (Nat.le_of_ble_eq_true rfl) ?_
  intro p e s m args below meth c A ls S0 hr hlk hC hl
  have S0 : CallFix p m c cX6_isNote 2 s args wsX6_isNote RX6 := S0
  have hl : lv_has ls 2 [(0, .int p0), (1, .int p1)] := hl
  have hx := S0.1
  have hb := S0.2.1
  obtain ⟨H, hH⟩ : ∃ y, y = s.heap := ⟨_, rfl⟩
  rw [← hH] at hC ⊢
  obtain ⟨locs, hlo⟩ : ∃ y : List Loc, y = [] := ⟨_, rfl⟩
  rw [← hlo] at hC ⊢
  clear hH hlo
  unfold f_X6_isNote at hf
  refine lv_iload_n hx hb dX6_isNote_0 rfl (lv_at hl 0 rfl) ?_
  refine lv_iconst (v := 0) hx hb dX6_isNote_1 (by decide) ?_
  refine lv_bipush (v := 35) hx hb dX6_isNote_2 (by decide) ?_
  obtain ⟨r1, hr1, hf⟩ := z_bind hf
  refine z_callPi (z_runS (n := 3) (rest := []) (As := [.int p0, .int 0, .int 35]) S0 hC (c_X6_in l G c3 p0 0 35 hr1) [] (by decide) rfl gX6_isNote_X6_in rfl rfl rfl (by decide +kernel) ⟨Nat.le_of_ble_eq_true rfl, Nat.le_of_ble_eq_true rfl⟩ rfl hl.1 rfl (Nat.le_of_ble_eq_true rfl) dX6_isNote_4) hC [] rfl (fun H locs hC => ?_)
  refine lv_if_eq (tgt := 24) hx hb dX6_isNote_7 (by decide) (fun cd2 => ?_) (fun cd2 => ?_)
  · replace hf := z_pos cd2 hf
    refine lv_iconst (v := 0) hx hb dX6_isNote_24 (by decide) ?_
    have e1 := z_s1 hf
    subst e1
    exact z_zret S0 hr hlk rfl hC dX6_isNote_25
  · replace hf := z_neg cd2 hf
    refine lv_iload_n hx hb dX6_isNote_10 rfl (lv_at hl 1 rfl) ?_
    refine lv_iconst (v := 1) hx hb dX6_isNote_11 (by decide) ?_
    refine lv_bipush (v := 9) hx hb dX6_isNote_12 (by decide) ?_
    obtain ⟨r3, hr3, hf⟩ := z_bind hf
    refine z_callPi (z_runS (n := 3) (rest := []) (As := [.int p1, .int 1, .int 9]) S0 hC (c_X6_in l G c3 p1 1 9 hr3) [] (by decide) rfl gX6_isNote_X6_in rfl rfl rfl (by decide +kernel) ⟨Nat.le_of_ble_eq_true rfl, Nat.le_of_ble_eq_true rfl⟩ rfl hl.1 rfl (Nat.le_of_ble_eq_true rfl) dX6_isNote_14) hC [] rfl (fun H locs hC => ?_)
    refine lv_if_eq (tgt := 24) hx hb dX6_isNote_17 (by decide) (fun cd4 => ?_) (fun cd4 => ?_)
    · replace hf := z_pos cd4 hf
      refine lv_iconst (v := 0) hx hb dX6_isNote_24 (by decide) ?_
      have e1 := z_s1 hf
      subst e1
      exact z_zret S0 hr hlk rfl hC dX6_isNote_25
    · replace hf := z_neg cd4 hf
      refine lv_iconst (v := 1) hx hb dX6_isNote_20 (by decide) ?_
      refine lv_goto (tgt := 25) hx hb dX6_isNote_21 (by decide) ?_
      have e1 := z_s1 hf
      subst e1
      exact z_zret S0 hr hlk rfl hC dX6_isNote_25

-- X6 hit
def f_X6_hit (Ms : (Nat → Int32)) (Mpa : (Nat → Int32)) (Mkn : Int32) (Mso : (Nat → Int32)) (Mfz : Int32) (p1 : Int32) (p2 : Int32) : Option (Int32 × (Nat → Int32) × (Nat → Int32) × Int32 × (Nat → Int32) × Int32) :=
  (f_X6_isNote p1 p2).bind fun r1 => if r1 = 0 then
    some ((-1), Ms, Mpa, Mkn, Mso, Mfz)
  else
    (f_X6_records Ms Mpa Mkn).bind fun r3 => (f_X6_goHit Ms Mso Mfz p1 p2).bind fun r4 => some (r4.1, r4.2.1, r3.1, r3.2, r4.2.2.1, r4.2.2.2)

set_option maxHeartbeats 4000000 in
set_option maxRecDepth 100000 in
theorem c_X6_hit (l : Launch) (G : va_G) (c3 : zT3) (oM : zR8) (BM : zMd) (p1 : Int32) (p2 : Int32) {r : Int32} {Ms' : (Nat → Int32)} {Mpa' : (Nat → Int32)} {Mkn' : Int32} {Mso' : (Nat → Int32)} {Mfz' : Int32} (hf : f_X6_hit BM.1 BM.2.2.1 BM.2.2.2.1 BM.2.2.2.2.2.2.2.2.1 BM.2.2.2.2.2.2.2.2.2.1 p1 p2 = some (r, Ms', Mpa', Mkn', Mso', Mfz')) : zM l yX6_hit wsX6_hit ⟨5, 0, 0, 120⟩ G c3 (zwM c3.1 c3.2.2 oM (BM.1, BM.2.1, BM.2.2.1, BM.2.2.2.1, BM.2.2.2.2.1, BM.2.2.2.2.2.1, BM.2.2.2.2.2.2.1, BM.2.2.2.2.2.2.2.1, BM.2.2.2.2.2.2.2.2.1, BM.2.2.2.2.2.2.2.2.2.1, BM.2.2.2.2.2.2.2.2.2.2.1, BM.2.2.2.2.2.2.2.2.2.2.2.1, BM.2.2.2.2.2.2.2.2.2.2.2.2.1, BM.2.2.2.2.2.2.2.2.2.2.2.2.2.1, BM.2.2.2.2.2.2.2.2.2.2.2.2.2.2.1, BM.2.2.2.2.2.2.2.2.2.2.2.2.2.2.2.1, BM.2.2.2.2.2.2.2.2.2.2.2.2.2.2.2.2)) [.ref oM.1, .int p1, .int p2] (some (.int r)) (zwM c3.1 c3.2.2 oM (Ms', BM.2.1, Mpa', Mkn', BM.2.2.2.2.1, BM.2.2.2.2.2.1, BM.2.2.2.2.2.2.1, BM.2.2.2.2.2.2.2.1, Mso', Mfz', BM.2.2.2.2.2.2.2.2.2.2.1, BM.2.2.2.2.2.2.2.2.2.2.2.1, BM.2.2.2.2.2.2.2.2.2.2.2.2.1, BM.2.2.2.2.2.2.2.2.2.2.2.2.2.1, BM.2.2.2.2.2.2.2.2.2.2.2.2.2.2.1, BM.2.2.2.2.2.2.2.2.2.2.2.2.2.2.2.1, BM.2.2.2.2.2.2.2.2.2.2.2.2.2.2.2.2)) := by
  obtain ⟨Ms, Mas, Mpa, Mkn, Mke, Mik, Mpp, Mle, Mso, Mfz, Msp, Mfo, Mrd, Mrs, Mlt, Mfi, Mse⟩ := BM
  have hf : f_X6_hit Ms Mpa Mkn Mso Mfz p1 p2 = some (r, Ms', Mpa', Mkn', Mso', Mfz') := hf
  show zM l yX6_hit wsX6_hit ⟨5, 0, 0, 120⟩ G c3 (zwM c3.1 c3.2.2 oM (Ms, Mas, Mpa, Mkn, Mke, Mik, Mpp, Mle, Mso, Mfz, Msp, Mfo, Mrd, Mrs, Mlt, Mfi, Mse)) [.ref oM.1, .int p1, .int p2] (some (.int r)) (zwM c3.1 c3.2.2 oM (Ms', Mas, Mpa', Mkn', Mke, Mik, Mpp, Mle, Mso', Mfz', Msp, Mfo, Mrd, Mrs, Mlt, Mfi, Mse))
  refine zM.of (cc := cX6_hit) (maxL := 3) (ret := (some .int)) (by decide) rfl (Nat.le_of_ble_eq_true rfl) ?_
  intro p e s m args below meth c A ls S0 hr hlk hC hl
  have S0 : CallFix p m c cX6_hit 3 s args wsX6_hit RX6 := S0
  have hl : lv_has ls 3 [(0, .ref oM.1), (1, .int p1), (2, .int p2)] := hl
  have hx := S0.1
  have hb := S0.2.1
  obtain ⟨H, hH⟩ : ∃ y, y = s.heap := ⟨_, rfl⟩
  rw [← hH] at hC ⊢
  obtain ⟨locs, hlo⟩ : ∃ y : List Loc, y = [] := ⟨_, rfl⟩
  rw [← hlo] at hC ⊢
  clear hH hlo
  unfold f_X6_hit at hf
  refine lv_iload_n hx hb dX6_hit_0 rfl (lv_at hl 1 rfl) ?_
  refine lv_iload_n hx hb dX6_hit_1 rfl (lv_at hl 2 rfl) ?_
  obtain ⟨r1, hr1, hf⟩ := z_bind hf
  refine z_callPi (z_runS (n := 2) (rest := []) (As := [.int p1, .int p2]) S0 hC (c_X6_isNote l G c3 p1 p2 hr1) [] (by decide) rfl gX6_hit_X6_isNote rfl rfl rfl (by decide +kernel) ⟨Nat.le_of_ble_eq_true rfl, Nat.le_of_ble_eq_true rfl⟩ rfl hl.1 rfl (Nat.le_of_ble_eq_true rfl) dX6_hit_2) hC [] rfl (fun H locs hC => ?_)
  refine lv_if_ne (tgt := 10) hx hb dX6_hit_5 (by decide) (fun cd2 => ?_) (fun cd2 => ?_)
  · replace hf := z_neg cd2 hf
    refine lv_aload_n hx hb dX6_hit_10 rfl (lv_at hl 0 rfl) ?_
    obtain ⟨r3, hr3, hf⟩ := z_bind hf
    refine z_callv (z_runV (n := 0) (rest := []) (As := []) S0 hC (c_X6_records l G c3 oM (Ms, Mas, Mpa, Mkn, Mke, Mik, Mpp, Mle, Mso, Mfz, Msp, Mfo, Mrd, Mrs, Mlt, Mfi, Mse) hr3) [0, 1, 2, 3, 4, 5, 6, 7] (by decide) rfl gX6_hit_X6_records rfl rfl rfl (by decide +kernel) ⟨Nat.le_of_ble_eq_true rfl, Nat.le_of_ble_eq_true rfl⟩ (ci := 6) (q0 := 0) rfl rfl rfl hl.1 rfl (Nat.le_of_ble_eq_true rfl) dX6_hit_11) hC [0, 1, 2, 3, 4, 5, 6, 7] [] [0, 1, 2, 3, 4, 5, 6, 7] rfl (wr := ([] : va_W)) rfl (by decide) (by decide) (ws2 := (zwM c3.1 c3.2.2 oM (Ms, Mas, r3.1, r3.2, Mke, Mik, Mpp, Mle, Mso, Mfz, Msp, Mfo, Mrd, Mrs, Mlt, Mfi, Mse))) rfl (by decide) (fun H locs hC => ?_)
    refine lv_aload_n hx hb dX6_hit_14 rfl (lv_at hl 0 rfl) ?_
    refine lv_iload_n hx hb dX6_hit_15 rfl (lv_at hl 1 rfl) ?_
    refine lv_iload_n hx hb dX6_hit_16 rfl (lv_at hl 2 rfl) ?_
    obtain ⟨r4, hr4, hf⟩ := z_bind hf
    refine z_calli (z_runV (n := 2) (rest := []) (As := [.int p1, .int p2]) S0 hC (c_X6_goHit l G c3 oM (Ms, Mas, r3.1, r3.2, Mke, Mik, Mpp, Mle, Mso, Mfz, Msp, Mfo, Mrd, Mrs, Mlt, Mfi, Mse) p1 p2 hr4) [0, 1, 2, 3, 4, 5, 6, 7] (by decide) rfl gX6_hit_X6_goHit rfl rfl rfl (by decide +kernel) ⟨Nat.le_of_ble_eq_true rfl, Nat.le_of_ble_eq_true rfl⟩ (ci := 6) (q0 := 0) rfl rfl rfl hl.1 rfl (Nat.le_of_ble_eq_true rfl) dX6_hit_17) hC [0, 1, 2, 3, 4, 5, 6, 7] [] [0, 1, 2, 3, 4, 5, 6, 7] rfl (wr := ([] : va_W)) rfl (by decide) (by decide) (ws2 := (zwM c3.1 c3.2.2 oM (r4.2.1, Mas, r3.1, r3.2, Mke, Mik, Mpp, Mle, r4.2.2.1, r4.2.2.2, Msp, Mfo, Mrd, Mrs, Mlt, Mfi, Mse))) rfl (by decide) (fun H locs hC => ?_)
    obtain ⟨e1, e2, e3, e4, e5, e6⟩ := z_s6 hf
    subst e1
    subst e2
    subst e3
    subst e4
    subst e5
    subst e6
    exact z_iret S0 hr hlk hC dX6_hit_20
  · replace hf := z_pos cd2 hf
    refine lv_iconst (v := (-1)) hx hb dX6_hit_8 (by decide) ?_
    obtain ⟨e1, e2, e3, e4, e5, e6⟩ := z_s6 hf
    subst e1
    subst e2
    subst e3
    subst e4
    subst e5
    subst e6
    exact z_iret S0 hr hlk hC dX6_hit_9

-- X6 letGo
def f_X6_letGo (Ms : (Nat → Int32)) (Mpa : (Nat → Int32)) (Mkn : Int32) (p1 : Int32) : Option (Int32 × (Nat → Int32) × (Nat → Int32) × Int32) :=
  (f_X6_in p1 0 35).bind fun r1 => if r1 = 0 then
    some ((-1), Ms, Mpa, Mkn)
  else
    (f_X6_records Ms Mpa Mkn).bind fun r3 => (f_X6_goLet Ms p1).bind fun r4 => some (r4.1, r4.2, r3.1, r3.2)

set_option maxHeartbeats 4000000 in
set_option maxRecDepth 100000 in
theorem c_X6_letGo (l : Launch) (G : va_G) (c3 : zT3) (oM : zR8) (BM : zMd) (p1 : Int32) {r : Int32} {Ms' : (Nat → Int32)} {Mpa' : (Nat → Int32)} {Mkn' : Int32} (hf : f_X6_letGo BM.1 BM.2.2.1 BM.2.2.2.1 p1 = some (r, Ms', Mpa', Mkn')) : zM l yX6_letGo wsX6_letGo ⟨2, 0, 0, 47⟩ G c3 (zwM c3.1 c3.2.2 oM (BM.1, BM.2.1, BM.2.2.1, BM.2.2.2.1, BM.2.2.2.2.1, BM.2.2.2.2.2.1, BM.2.2.2.2.2.2.1, BM.2.2.2.2.2.2.2.1, BM.2.2.2.2.2.2.2.2.1, BM.2.2.2.2.2.2.2.2.2.1, BM.2.2.2.2.2.2.2.2.2.2.1, BM.2.2.2.2.2.2.2.2.2.2.2.1, BM.2.2.2.2.2.2.2.2.2.2.2.2.1, BM.2.2.2.2.2.2.2.2.2.2.2.2.2.1, BM.2.2.2.2.2.2.2.2.2.2.2.2.2.2.1, BM.2.2.2.2.2.2.2.2.2.2.2.2.2.2.2.1, BM.2.2.2.2.2.2.2.2.2.2.2.2.2.2.2.2)) [.ref oM.1, .int p1] (some (.int r)) (zwM c3.1 c3.2.2 oM (Ms', BM.2.1, Mpa', Mkn', BM.2.2.2.2.1, BM.2.2.2.2.2.1, BM.2.2.2.2.2.2.1, BM.2.2.2.2.2.2.2.1, BM.2.2.2.2.2.2.2.2.1, BM.2.2.2.2.2.2.2.2.2.1, BM.2.2.2.2.2.2.2.2.2.2.1, BM.2.2.2.2.2.2.2.2.2.2.2.1, BM.2.2.2.2.2.2.2.2.2.2.2.2.1, BM.2.2.2.2.2.2.2.2.2.2.2.2.2.1, BM.2.2.2.2.2.2.2.2.2.2.2.2.2.2.1, BM.2.2.2.2.2.2.2.2.2.2.2.2.2.2.2.1, BM.2.2.2.2.2.2.2.2.2.2.2.2.2.2.2.2)) := by
  obtain ⟨Ms, Mas, Mpa, Mkn, Mke, Mik, Mpp, Mle, Mso, Mfz, Msp, Mfo, Mrd, Mrs, Mlt, Mfi, Mse⟩ := BM
  have hf : f_X6_letGo Ms Mpa Mkn p1 = some (r, Ms', Mpa', Mkn') := hf
  show zM l yX6_letGo wsX6_letGo ⟨2, 0, 0, 47⟩ G c3 (zwM c3.1 c3.2.2 oM (Ms, Mas, Mpa, Mkn, Mke, Mik, Mpp, Mle, Mso, Mfz, Msp, Mfo, Mrd, Mrs, Mlt, Mfi, Mse)) [.ref oM.1, .int p1] (some (.int r)) (zwM c3.1 c3.2.2 oM (Ms', Mas, Mpa', Mkn', Mke, Mik, Mpp, Mle, Mso, Mfz, Msp, Mfo, Mrd, Mrs, Mlt, Mfi, Mse))
  refine zM.of (cc := cX6_letGo) (maxL := 2) (ret := (some .int)) (by decide) rfl (Nat.le_of_ble_eq_true rfl) ?_
  intro p e s m args below meth c A ls S0 hr hlk hC hl
  have S0 : CallFix p m c cX6_letGo 2 s args wsX6_letGo RX6 := S0
  have hl : lv_has ls 2 [(0, .ref oM.1), (1, .int p1)] := hl
  have hx := S0.1
  have hb := S0.2.1
  obtain ⟨H, hH⟩ : ∃ y, y = s.heap := ⟨_, rfl⟩
  rw [← hH] at hC ⊢
  obtain ⟨locs, hlo⟩ : ∃ y : List Loc, y = [] := ⟨_, rfl⟩
  rw [← hlo] at hC ⊢
  clear hH hlo
  unfold f_X6_letGo at hf
  refine lv_iload_n hx hb dX6_letGo_0 rfl (lv_at hl 1 rfl) ?_
  refine lv_iconst (v := 0) hx hb dX6_letGo_1 (by decide) ?_
  refine lv_bipush (v := 35) hx hb dX6_letGo_2 (by decide) ?_
  obtain ⟨r1, hr1, hf⟩ := z_bind hf
  refine z_callPi (z_runS (n := 3) (rest := []) (As := [.int p1, .int 0, .int 35]) S0 hC (c_X6_in l G c3 p1 0 35 hr1) [] (by decide) rfl gX6_letGo_X6_in rfl rfl rfl (by decide +kernel) ⟨Nat.le_of_ble_eq_true rfl, Nat.le_of_ble_eq_true rfl⟩ rfl hl.1 rfl (Nat.le_of_ble_eq_true rfl) dX6_letGo_4) hC [] rfl (fun H locs hC => ?_)
  refine lv_if_ne (tgt := 12) hx hb dX6_letGo_7 (by decide) (fun cd2 => ?_) (fun cd2 => ?_)
  · replace hf := z_neg cd2 hf
    refine lv_aload_n hx hb dX6_letGo_12 rfl (lv_at hl 0 rfl) ?_
    obtain ⟨r3, hr3, hf⟩ := z_bind hf
    refine z_callv (z_runV (n := 0) (rest := []) (As := []) S0 hC (c_X6_records l G c3 oM (Ms, Mas, Mpa, Mkn, Mke, Mik, Mpp, Mle, Mso, Mfz, Msp, Mfo, Mrd, Mrs, Mlt, Mfi, Mse) hr3) [0, 1, 2, 3, 4, 5, 6, 7] (by decide) rfl gX6_letGo_X6_records rfl rfl rfl (by decide +kernel) ⟨Nat.le_of_ble_eq_true rfl, Nat.le_of_ble_eq_true rfl⟩ (ci := 6) (q0 := 0) rfl rfl rfl hl.1 rfl (Nat.le_of_ble_eq_true rfl) dX6_letGo_13) hC [0, 1, 2, 3, 4, 5, 6, 7] [] [0, 1, 2, 3, 4, 5, 6, 7] rfl (wr := ([] : va_W)) rfl (by decide) (by decide) (ws2 := (zwM c3.1 c3.2.2 oM (Ms, Mas, r3.1, r3.2, Mke, Mik, Mpp, Mle, Mso, Mfz, Msp, Mfo, Mrd, Mrs, Mlt, Mfi, Mse))) rfl (by decide) (fun H locs hC => ?_)
    refine lv_aload_n hx hb dX6_letGo_16 rfl (lv_at hl 0 rfl) ?_
    refine lv_iload_n hx hb dX6_letGo_17 rfl (lv_at hl 1 rfl) ?_
    obtain ⟨r4, hr4, hf⟩ := z_bind hf
    refine z_calli (z_runV (n := 1) (rest := []) (As := [.int p1]) S0 hC (c_X6_goLet l G c3 oM (Ms, Mas, r3.1, r3.2, Mke, Mik, Mpp, Mle, Mso, Mfz, Msp, Mfo, Mrd, Mrs, Mlt, Mfi, Mse) p1 hr4) [0, 1, 2, 3, 4, 5, 6, 7] (by decide) rfl gX6_letGo_X6_goLet rfl rfl rfl (by decide +kernel) ⟨Nat.le_of_ble_eq_true rfl, Nat.le_of_ble_eq_true rfl⟩ (ci := 6) (q0 := 0) rfl rfl rfl hl.1 rfl (Nat.le_of_ble_eq_true rfl) dX6_letGo_18) hC [0, 1, 2, 3, 4, 5, 6, 7] [] [0, 1, 2, 3, 4, 5, 6, 7] rfl (wr := ([] : va_W)) rfl (by decide) (by decide) (ws2 := (zwM c3.1 c3.2.2 oM (r4.2, Mas, r3.1, r3.2, Mke, Mik, Mpp, Mle, Mso, Mfz, Msp, Mfo, Mrd, Mrs, Mlt, Mfi, Mse))) rfl (by decide) (fun H locs hC => ?_)
    obtain ⟨e1, e2, e3, e4⟩ := z_s4 hf
    subst e1
    subst e2
    subst e3
    subst e4
    exact z_iret S0 hr hlk hC dX6_letGo_21
  · replace hf := z_pos cd2 hf
    refine lv_iconst (v := (-1)) hx hb dX6_letGo_10 (by decide) ?_
    obtain ⟨e1, e2, e3, e4⟩ := z_s4 hf
    subst e1
    subst e2
    subst e3
    subst e4
    exact z_iret S0 hr hlk hC dX6_letGo_11

-- X6 pedal
def f_X6_pedal (Ms : (Nat → Int32)) (Mpa : (Nat → Int32)) (Mkn : Int32) : Option (Int32 × (Nat → Int32) × (Nat → Int32) × Int32) :=
  (f_X6_records Ms Mpa Mkn).bind fun r1 => (f_X6_goPedal Ms).bind fun r2 => some (r2.1, r2.2, r1.1, r1.2)

set_option maxHeartbeats 4000000 in
set_option maxRecDepth 100000 in
theorem c_X6_pedal (l : Launch) (G : va_G) (c3 : zT3) (oM : zR8) (BM : zMd) {r : Int32} {Ms' : (Nat → Int32)} {Mpa' : (Nat → Int32)} {Mkn' : Int32} (hf : f_X6_pedal BM.1 BM.2.2.1 BM.2.2.2.1 = some (r, Ms', Mpa', Mkn')) : zM l yX6_pedal wsX6_pedal ⟨2, 0, 0, 45⟩ G c3 (zwM c3.1 c3.2.2 oM (BM.1, BM.2.1, BM.2.2.1, BM.2.2.2.1, BM.2.2.2.2.1, BM.2.2.2.2.2.1, BM.2.2.2.2.2.2.1, BM.2.2.2.2.2.2.2.1, BM.2.2.2.2.2.2.2.2.1, BM.2.2.2.2.2.2.2.2.2.1, BM.2.2.2.2.2.2.2.2.2.2.1, BM.2.2.2.2.2.2.2.2.2.2.2.1, BM.2.2.2.2.2.2.2.2.2.2.2.2.1, BM.2.2.2.2.2.2.2.2.2.2.2.2.2.1, BM.2.2.2.2.2.2.2.2.2.2.2.2.2.2.1, BM.2.2.2.2.2.2.2.2.2.2.2.2.2.2.2.1, BM.2.2.2.2.2.2.2.2.2.2.2.2.2.2.2.2)) [.ref oM.1] (some (.int r)) (zwM c3.1 c3.2.2 oM (Ms', BM.2.1, Mpa', Mkn', BM.2.2.2.2.1, BM.2.2.2.2.2.1, BM.2.2.2.2.2.2.1, BM.2.2.2.2.2.2.2.1, BM.2.2.2.2.2.2.2.2.1, BM.2.2.2.2.2.2.2.2.2.1, BM.2.2.2.2.2.2.2.2.2.2.1, BM.2.2.2.2.2.2.2.2.2.2.2.1, BM.2.2.2.2.2.2.2.2.2.2.2.2.1, BM.2.2.2.2.2.2.2.2.2.2.2.2.2.1, BM.2.2.2.2.2.2.2.2.2.2.2.2.2.2.1, BM.2.2.2.2.2.2.2.2.2.2.2.2.2.2.2.1, BM.2.2.2.2.2.2.2.2.2.2.2.2.2.2.2.2)) := by
  obtain ⟨Ms, Mas, Mpa, Mkn, Mke, Mik, Mpp, Mle, Mso, Mfz, Msp, Mfo, Mrd, Mrs, Mlt, Mfi, Mse⟩ := BM
  have hf : f_X6_pedal Ms Mpa Mkn = some (r, Ms', Mpa', Mkn') := hf
  show zM l yX6_pedal wsX6_pedal ⟨2, 0, 0, 45⟩ G c3 (zwM c3.1 c3.2.2 oM (Ms, Mas, Mpa, Mkn, Mke, Mik, Mpp, Mle, Mso, Mfz, Msp, Mfo, Mrd, Mrs, Mlt, Mfi, Mse)) [.ref oM.1] (some (.int r)) (zwM c3.1 c3.2.2 oM (Ms', Mas, Mpa', Mkn', Mke, Mik, Mpp, Mle, Mso, Mfz, Msp, Mfo, Mrd, Mrs, Mlt, Mfi, Mse))
  refine zM.of (cc := cX6_pedal) (maxL := 1) (ret := (some .int)) (by decide) rfl (Nat.le_of_ble_eq_true rfl) ?_
  intro p e s m args below meth c A ls S0 hr hlk hC hl
  have S0 : CallFix p m c cX6_pedal 1 s args wsX6_pedal RX6 := S0
  have hl : lv_has ls 1 [(0, .ref oM.1)] := hl
  have hx := S0.1
  have hb := S0.2.1
  obtain ⟨H, hH⟩ : ∃ y, y = s.heap := ⟨_, rfl⟩
  rw [← hH] at hC ⊢
  obtain ⟨locs, hlo⟩ : ∃ y : List Loc, y = [] := ⟨_, rfl⟩
  rw [← hlo] at hC ⊢
  clear hH hlo
  unfold f_X6_pedal at hf
  refine lv_aload_n hx hb dX6_pedal_0 rfl (lv_at hl 0 rfl) ?_
  obtain ⟨r1, hr1, hf⟩ := z_bind hf
  refine z_callv (z_runV (n := 0) (rest := []) (As := []) S0 hC (c_X6_records l G c3 oM (Ms, Mas, Mpa, Mkn, Mke, Mik, Mpp, Mle, Mso, Mfz, Msp, Mfo, Mrd, Mrs, Mlt, Mfi, Mse) hr1) [0, 1, 2, 3, 4, 5, 6, 7] (by decide) rfl gX6_pedal_X6_records rfl rfl rfl (by decide +kernel) ⟨Nat.le_of_ble_eq_true rfl, Nat.le_of_ble_eq_true rfl⟩ (ci := 6) (q0 := 0) rfl rfl rfl hl.1 rfl (Nat.le_of_ble_eq_true rfl) dX6_pedal_1) hC [0, 1, 2, 3, 4, 5, 6, 7] [] [0, 1, 2, 3, 4, 5, 6, 7] rfl (wr := ([] : va_W)) rfl (by decide) (by decide) (ws2 := (zwM c3.1 c3.2.2 oM (Ms, Mas, r1.1, r1.2, Mke, Mik, Mpp, Mle, Mso, Mfz, Msp, Mfo, Mrd, Mrs, Mlt, Mfi, Mse))) rfl (by decide) (fun H locs hC => ?_)
  refine lv_aload_n hx hb dX6_pedal_4 rfl (lv_at hl 0 rfl) ?_
  obtain ⟨r2, hr2, hf⟩ := z_bind hf
  refine z_calli (z_runV (n := 0) (rest := []) (As := []) S0 hC (c_X6_goPedal l G c3 oM (Ms, Mas, r1.1, r1.2, Mke, Mik, Mpp, Mle, Mso, Mfz, Msp, Mfo, Mrd, Mrs, Mlt, Mfi, Mse) hr2) [0, 1, 2, 3, 4, 5, 6, 7] (by decide) rfl gX6_pedal_X6_goPedal rfl rfl rfl (by decide +kernel) ⟨Nat.le_of_ble_eq_true rfl, Nat.le_of_ble_eq_true rfl⟩ (ci := 6) (q0 := 0) rfl rfl rfl hl.1 rfl (Nat.le_of_ble_eq_true rfl) dX6_pedal_5) hC [0, 1, 2, 3, 4, 5, 6, 7] [] [0, 1, 2, 3, 4, 5, 6, 7] rfl (wr := ([] : va_W)) rfl (by decide) (by decide) (ws2 := (zwM c3.1 c3.2.2 oM (r2.2, Mas, r1.1, r1.2, Mke, Mik, Mpp, Mle, Mso, Mfz, Msp, Mfo, Mrd, Mrs, Mlt, Mfi, Mse))) rfl (by decide) (fun H locs hC => ?_)
  obtain ⟨e1, e2, e3, e4⟩ := z_s4 hf
  subst e1
  subst e2
  subst e3
  subst e4
  exact z_iret S0 hr hlk hC dX6_pedal_8

-- X6 pass
def f_X6_pass (Ms : (Nat → Int32)) (Mpa : (Nat → Int32)) (Mkn : Int32) (p1 : Int32) : Option (Int32 × (Nat → Int32) × (Nat → Int32) × Int32) :=
  (f_X6_in p1 1 99).bind fun r1 => if r1 = 0 then
    some ((-1), Ms, Mpa, Mkn)
  else
    (f_X6_records Ms Mpa Mkn).bind fun r3 => (f_X6_goPass Ms p1).bind fun r4 => some (r4.1, r4.2, r3.1, r3.2)

set_option maxHeartbeats 4000000 in
set_option maxRecDepth 100000 in
theorem c_X6_pass (l : Launch) (G : va_G) (c3 : zT3) (oM : zR8) (BM : zMd) (p1 : Int32) {r : Int32} {Ms' : (Nat → Int32)} {Mpa' : (Nat → Int32)} {Mkn' : Int32} (hf : f_X6_pass BM.1 BM.2.2.1 BM.2.2.2.1 p1 = some (r, Ms', Mpa', Mkn')) : zM l yX6_pass wsX6_pass ⟨3, 0, 0, 68⟩ G c3 (zwM c3.1 c3.2.2 oM (BM.1, BM.2.1, BM.2.2.1, BM.2.2.2.1, BM.2.2.2.2.1, BM.2.2.2.2.2.1, BM.2.2.2.2.2.2.1, BM.2.2.2.2.2.2.2.1, BM.2.2.2.2.2.2.2.2.1, BM.2.2.2.2.2.2.2.2.2.1, BM.2.2.2.2.2.2.2.2.2.2.1, BM.2.2.2.2.2.2.2.2.2.2.2.1, BM.2.2.2.2.2.2.2.2.2.2.2.2.1, BM.2.2.2.2.2.2.2.2.2.2.2.2.2.1, BM.2.2.2.2.2.2.2.2.2.2.2.2.2.2.1, BM.2.2.2.2.2.2.2.2.2.2.2.2.2.2.2.1, BM.2.2.2.2.2.2.2.2.2.2.2.2.2.2.2.2)) [.ref oM.1, .int p1] (some (.int r)) (zwM c3.1 c3.2.2 oM (Ms', BM.2.1, Mpa', Mkn', BM.2.2.2.2.1, BM.2.2.2.2.2.1, BM.2.2.2.2.2.2.1, BM.2.2.2.2.2.2.2.1, BM.2.2.2.2.2.2.2.2.1, BM.2.2.2.2.2.2.2.2.2.1, BM.2.2.2.2.2.2.2.2.2.2.1, BM.2.2.2.2.2.2.2.2.2.2.2.1, BM.2.2.2.2.2.2.2.2.2.2.2.2.1, BM.2.2.2.2.2.2.2.2.2.2.2.2.2.1, BM.2.2.2.2.2.2.2.2.2.2.2.2.2.2.1, BM.2.2.2.2.2.2.2.2.2.2.2.2.2.2.2.1, BM.2.2.2.2.2.2.2.2.2.2.2.2.2.2.2.2)) := by
  obtain ⟨Ms, Mas, Mpa, Mkn, Mke, Mik, Mpp, Mle, Mso, Mfz, Msp, Mfo, Mrd, Mrs, Mlt, Mfi, Mse⟩ := BM
  have hf : f_X6_pass Ms Mpa Mkn p1 = some (r, Ms', Mpa', Mkn') := hf
  show zM l yX6_pass wsX6_pass ⟨3, 0, 0, 68⟩ G c3 (zwM c3.1 c3.2.2 oM (Ms, Mas, Mpa, Mkn, Mke, Mik, Mpp, Mle, Mso, Mfz, Msp, Mfo, Mrd, Mrs, Mlt, Mfi, Mse)) [.ref oM.1, .int p1] (some (.int r)) (zwM c3.1 c3.2.2 oM (Ms', Mas, Mpa', Mkn', Mke, Mik, Mpp, Mle, Mso, Mfz, Msp, Mfo, Mrd, Mrs, Mlt, Mfi, Mse))
  refine zM.of (cc := cX6_pass) (maxL := 2) (ret := (some .int)) (by decide) rfl (Nat.le_of_ble_eq_true rfl) ?_
  intro p e s m args below meth c A ls S0 hr hlk hC hl
  have S0 : CallFix p m c cX6_pass 2 s args wsX6_pass RX6 := S0
  have hl : lv_has ls 2 [(0, .ref oM.1), (1, .int p1)] := hl
  have hx := S0.1
  have hb := S0.2.1
  obtain ⟨H, hH⟩ : ∃ y, y = s.heap := ⟨_, rfl⟩
  rw [← hH] at hC ⊢
  obtain ⟨locs, hlo⟩ : ∃ y : List Loc, y = [] := ⟨_, rfl⟩
  rw [← hlo] at hC ⊢
  clear hH hlo
  unfold f_X6_pass at hf
  refine lv_iload_n hx hb dX6_pass_0 rfl (lv_at hl 1 rfl) ?_
  refine lv_iconst (v := 1) hx hb dX6_pass_1 (by decide) ?_
  refine lv_bipush (v := 99) hx hb dX6_pass_2 (by decide) ?_
  obtain ⟨r1, hr1, hf⟩ := z_bind hf
  refine z_callPi (z_runS (n := 3) (rest := []) (As := [.int p1, .int 1, .int 99]) S0 hC (c_X6_in l G c3 p1 1 99 hr1) [] (by decide) rfl gX6_pass_X6_in rfl rfl rfl (by decide +kernel) ⟨Nat.le_of_ble_eq_true rfl, Nat.le_of_ble_eq_true rfl⟩ rfl hl.1 rfl (Nat.le_of_ble_eq_true rfl) dX6_pass_4) hC [] rfl (fun H locs hC => ?_)
  refine lv_if_ne (tgt := 12) hx hb dX6_pass_7 (by decide) (fun cd2 => ?_) (fun cd2 => ?_)
  · replace hf := z_neg cd2 hf
    refine lv_aload_n hx hb dX6_pass_12 rfl (lv_at hl 0 rfl) ?_
    obtain ⟨r3, hr3, hf⟩ := z_bind hf
    refine z_callv (z_runV (n := 0) (rest := []) (As := []) S0 hC (c_X6_records l G c3 oM (Ms, Mas, Mpa, Mkn, Mke, Mik, Mpp, Mle, Mso, Mfz, Msp, Mfo, Mrd, Mrs, Mlt, Mfi, Mse) hr3) [0, 1, 2, 3, 4, 5, 6, 7] (by decide) rfl gX6_pass_X6_records rfl rfl rfl (by decide +kernel) ⟨Nat.le_of_ble_eq_true rfl, Nat.le_of_ble_eq_true rfl⟩ (ci := 6) (q0 := 0) rfl rfl rfl hl.1 rfl (Nat.le_of_ble_eq_true rfl) dX6_pass_13) hC [0, 1, 2, 3, 4, 5, 6, 7] [] [0, 1, 2, 3, 4, 5, 6, 7] rfl (wr := ([] : va_W)) rfl (by decide) (by decide) (ws2 := (zwM c3.1 c3.2.2 oM (Ms, Mas, r3.1, r3.2, Mke, Mik, Mpp, Mle, Mso, Mfz, Msp, Mfo, Mrd, Mrs, Mlt, Mfi, Mse))) rfl (by decide) (fun H locs hC => ?_)
    refine lv_aload_n hx hb dX6_pass_16 rfl (lv_at hl 0 rfl) ?_
    refine lv_iload_n hx hb dX6_pass_17 rfl (lv_at hl 1 rfl) ?_
    obtain ⟨r4, hr4, hf⟩ := z_bind hf
    refine z_calli (z_runV (n := 1) (rest := []) (As := [.int p1]) S0 hC (c_X6_goPass l G c3 oM (Ms, Mas, r3.1, r3.2, Mke, Mik, Mpp, Mle, Mso, Mfz, Msp, Mfo, Mrd, Mrs, Mlt, Mfi, Mse) p1 hr4) [0, 1, 2, 3, 4, 5, 6, 7] (by decide) rfl gX6_pass_X6_goPass rfl rfl rfl (by decide +kernel) ⟨Nat.le_of_ble_eq_true rfl, Nat.le_of_ble_eq_true rfl⟩ (ci := 6) (q0 := 0) rfl rfl rfl hl.1 rfl (Nat.le_of_ble_eq_true rfl) dX6_pass_18) hC [0, 1, 2, 3, 4, 5, 6, 7] [] [0, 1, 2, 3, 4, 5, 6, 7] rfl (wr := ([] : va_W)) rfl (by decide) (by decide) (ws2 := (zwM c3.1 c3.2.2 oM (r4.2, Mas, r3.1, r3.2, Mke, Mik, Mpp, Mle, Mso, Mfz, Msp, Mfo, Mrd, Mrs, Mlt, Mfi, Mse))) rfl (by decide) (fun H locs hC => ?_)
    obtain ⟨e1, e2, e3, e4⟩ := z_s4 hf
    subst e1
    subst e2
    subst e3
    subst e4
    exact z_iret S0 hr hlk hC dX6_pass_21
  · replace hf := z_pos cd2 hf
    refine lv_iconst (v := (-1)) hx hb dX6_pass_10 (by decide) ?_
    obtain ⟨e1, e2, e3, e4⟩ := z_s4 hf
    subst e1
    subst e2
    subst e3
    subst e4
    exact z_iret S0 hr hlk hC dX6_pass_11

-- X6 silence
def f_X6_silence_11  : Nat → (Nat → Int32) → Option ((Nat → Int32))
  | 0, _ => none
  | fu + 1, Ms =>
    (zald 150 Ms 1).bind fun x4 => if x4 ≤ 0 then
      some (Ms)
    else
      (f_X6_dropsVoice Ms 0).bind fun r6 => f_X6_silence_11 fu r6

theorem f_X6_silence_11_s (Ms : (Nat → Int32)) (fu : Nat) : f_X6_silence_11 (fu + 1) Ms = (
    (zald 150 Ms 1).bind fun x4 => if x4 ≤ 0 then
      some (Ms)
    else
      (f_X6_dropsVoice Ms 0).bind fun r6 => f_X6_silence_11 fu r6
    ) := rfl

def f_X6_silence (Ms : (Nat → Int32)) (Mpa : (Nat → Int32)) (Mkn : Int32) : Option (Int32 × (Nat → Int32) × (Nat → Int32) × Int32) :=
  (f_X6_records Ms Mpa Mkn).bind fun r1 => (zald 150 Ms 1).bind fun x2 => (f_X6_silence_11 zF Ms).bind fun t7 =>
    (zald 150 t7 8).bind fun x8 => (zast 150 t7 8 (x8 + x2)).bind fun g9 => some (x2, g9, r1.1, r1.2)

theorem kX6_silence_7 : Cond.fieldLink RX6 7 "ZoneSamplerModel" "s" "[I" ∈ wsX6_silence := by decide +kernel
theorem jX6_silence_X6 : ∀ w ∈ u_ws RX6 TX6 17, w ∈ wsX6_silence := by decide +kernel
set_option maxHeartbeats 4000000 in
set_option maxRecDepth 100000 in
theorem c_X6_silence (l : Launch) (G : va_G) (c3 : zT3) (oM : zR8) (BM : zMd) {r : Int32} {Ms' : (Nat → Int32)} {Mpa' : (Nat → Int32)} {Mkn' : Int32} (hf : f_X6_silence BM.1 BM.2.2.1 BM.2.2.2.1 = some (r, Ms', Mpa', Mkn')) : zM l yX6_silence wsX6_silence ⟨2, 0, 0, 45⟩ G c3 (zwM c3.1 c3.2.2 oM (BM.1, BM.2.1, BM.2.2.1, BM.2.2.2.1, BM.2.2.2.2.1, BM.2.2.2.2.2.1, BM.2.2.2.2.2.2.1, BM.2.2.2.2.2.2.2.1, BM.2.2.2.2.2.2.2.2.1, BM.2.2.2.2.2.2.2.2.2.1, BM.2.2.2.2.2.2.2.2.2.2.1, BM.2.2.2.2.2.2.2.2.2.2.2.1, BM.2.2.2.2.2.2.2.2.2.2.2.2.1, BM.2.2.2.2.2.2.2.2.2.2.2.2.2.1, BM.2.2.2.2.2.2.2.2.2.2.2.2.2.2.1, BM.2.2.2.2.2.2.2.2.2.2.2.2.2.2.2.1, BM.2.2.2.2.2.2.2.2.2.2.2.2.2.2.2.2)) [.ref oM.1] (some (.int r)) (zwM c3.1 c3.2.2 oM (Ms', BM.2.1, Mpa', Mkn', BM.2.2.2.2.1, BM.2.2.2.2.2.1, BM.2.2.2.2.2.2.1, BM.2.2.2.2.2.2.2.1, BM.2.2.2.2.2.2.2.2.1, BM.2.2.2.2.2.2.2.2.2.1, BM.2.2.2.2.2.2.2.2.2.2.1, BM.2.2.2.2.2.2.2.2.2.2.2.1, BM.2.2.2.2.2.2.2.2.2.2.2.2.1, BM.2.2.2.2.2.2.2.2.2.2.2.2.2.1, BM.2.2.2.2.2.2.2.2.2.2.2.2.2.2.1, BM.2.2.2.2.2.2.2.2.2.2.2.2.2.2.2.1, BM.2.2.2.2.2.2.2.2.2.2.2.2.2.2.2.2)) := by
  obtain ⟨Ms, Mas, Mpa, Mkn, Mke, Mik, Mpp, Mle, Mso, Mfz, Msp, Mfo, Mrd, Mrs, Mlt, Mfi, Mse⟩ := BM
  have hf : f_X6_silence Ms Mpa Mkn = some (r, Ms', Mpa', Mkn') := hf
  show zM l yX6_silence wsX6_silence ⟨2, 0, 0, 45⟩ G c3 (zwM c3.1 c3.2.2 oM (Ms, Mas, Mpa, Mkn, Mke, Mik, Mpp, Mle, Mso, Mfz, Msp, Mfo, Mrd, Mrs, Mlt, Mfi, Mse)) [.ref oM.1] (some (.int r)) (zwM c3.1 c3.2.2 oM (Ms', Mas, Mpa', Mkn', Mke, Mik, Mpp, Mle, Mso, Mfz, Msp, Mfo, Mrd, Mrs, Mlt, Mfi, Mse))
  refine zM.of (cc := cX6_silence) (maxL := 2) (ret := (some .int)) (by decide) rfl (Nat.le_of_ble_eq_true rfl) ?_
  intro p e s m args below meth c A ls S0 hr hlk hC hl
  have S0 : CallFix p m c cX6_silence 2 s args wsX6_silence RX6 := S0
  have hl : lv_has ls 2 [(0, .ref oM.1)] := hl
  have hx := S0.1
  have hb := S0.2.1
  obtain ⟨H, hH⟩ : ∃ y, y = s.heap := ⟨_, rfl⟩
  rw [← hH] at hC ⊢
  obtain ⟨locs, hlo⟩ : ∃ y : List Loc, y = [] := ⟨_, rfl⟩
  rw [← hlo] at hC ⊢
  clear hH hlo
  unfold f_X6_silence at hf
  refine lv_aload_n hx hb dX6_silence_0 rfl (lv_at hl 0 rfl) ?_
  obtain ⟨r1, hr1, hf⟩ := z_bind hf
  refine z_callv (z_runV (n := 0) (rest := []) (As := []) S0 hC (c_X6_records l G c3 oM (Ms, Mas, Mpa, Mkn, Mke, Mik, Mpp, Mle, Mso, Mfz, Msp, Mfo, Mrd, Mrs, Mlt, Mfi, Mse) hr1) [0, 1, 2, 3, 4, 5, 6, 7] (by decide) rfl gX6_silence_X6_records rfl rfl rfl (by decide +kernel) ⟨Nat.le_of_ble_eq_true rfl, Nat.le_of_ble_eq_true rfl⟩ (ci := 6) (q0 := 0) rfl rfl rfl hl.1 rfl (Nat.le_of_ble_eq_true rfl) dX6_silence_1) hC [0, 1, 2, 3, 4, 5, 6, 7] [] [0, 1, 2, 3, 4, 5, 6, 7] rfl (wr := ([] : va_W)) rfl (by decide) (by decide) (ws2 := (zwM c3.1 c3.2.2 oM (Ms, Mas, r1.1, r1.2, Mke, Mik, Mpp, Mle, Mso, Mfz, Msp, Mfo, Mrd, Mrs, Mlt, Mfi, Mse))) rfl (by decide) (fun H locs hC => ?_)
  refine lv_aload_n hx hb dX6_silence_4 rfl (lv_at hl 0 rfl) ?_
  refine z_get S0 hC (ci := 6) (C := RX6) (T := TX6) (N := 17) (v := .ref oM.2.1) jX6_silence_X6 0 rfl rfl 0 (by decide) kX6_silence_7 rfl rfl dX6_silence_5 ?_
  refine lv_iconst (v := 1) hx hb dX6_silence_8 (by decide) ?_
  obtain ⟨x2, hx2, hf⟩ := z_bind hf
  refine z_iald S0 hC 1 rfl hx2 dX6_silence_9 ?_
  refine lv_istore_n (lv' := [(1, .int x2), (0, .ref oM.1)]) hx hb dX6_silence_10 rfl hl (by decide) rfl (fun ls hl => ?_)
  have L11 : ∀ (fu : Nat) (y1 : Int32) (Ms : (Nat → Int32)) (Mas : (Nat → Int32)) (Mpa : (Nat → Int32)) (Mkn : Int32) (Mke : (Nat → Int32)) (Mik : Int32) (Mpp : (Nat → Int32)) (Mle : Int32) (Mso : (Nat → Int32)) (Mfz : Int32) (Msp : Int32) (Mfo : Int32) (Mrd : (Nat → Int32)) (Mrs : Int32) (Mlt : Int32) (Mfi : Int32) (Mse : Int32) (tt : (Nat → Int32)), f_X6_silence_11 fu Ms = some tt → ∀ (H : Heap) (locs : List Loc) (ls : Array Slot), zC G c3 A s (zwM c3.1 c3.2.2 oM (Ms, Mas, Mpa, Mkn, Mke, Mik, Mpp, Mle, Mso, Mfz, Msp, Mfo, Mrd, Mrs, Mlt, Mfi, Mse)) H locs → lv_has ls 2 [(0, .ref oM.1), (1, .int y1)] → (∀ (H : Heap) (locs : List Loc) (ls : Array Slot), zC G c3 A s (zwM c3.1 c3.2.2 oM (tt, Mas, Mpa, Mkn, Mke, Mik, Mpp, Mle, Mso, Mfz, Msp, Mfo, Mrd, Mrs, Mlt, Mfi, Mse)) H locs → lv_has ls 2 [(0, .ref oM.1), (1, .int y1)] → W p l e ⟨2, 0, 0, 45⟩ s m args below meth c H locs 0 0 (MQ below (zPost G (zwM c3.1 c3.2.2 oM (Ms', Mas, Mpa', Mkn', Mke, Mik, Mpp, Mle, Mso, Mfz, Msp, Mfo, Mrd, Mrs, Mlt, Mfi, Mse)) (some (.int r)) A) args s 0 0 A) (F0 m 28 ls [])) → W p l e ⟨2, 0, 0, 45⟩ s m args below meth c H locs 0 0 (MQ below (zPost G (zwM c3.1 c3.2.2 oM (Ms', Mas, Mpa', Mkn', Mke, Mik, Mpp, Mle, Mso, Mfz, Msp, Mfo, Mrd, Mrs, Mlt, Mfi, Mse)) (some (.int r)) A) args s 0 0 A) (F0 m 11 ls []) := by
    intro fu
    induction fu with
    | zero =>
      intro y1 Ms Mas Mpa Mkn Mke Mik Mpp Mle Mso Mfz Msp Mfo Mrd Mrs Mlt Mfi Mse tt hf H locs ls hC hl hK
      exact (z_none hf).elim
    | succ fu ih11 =>
      intro y1 Ms Mas Mpa Mkn Mke Mik Mpp Mle Mso Mfz Msp Mfo Mrd Mrs Mlt Mfi Mse tt hf H locs ls hC hl hK
      replace hf := (f_X6_silence_11_s Ms fu).symm.trans hf
      refine lv_aload_n hx hb dX6_silence_11 rfl (lv_at hl 0 rfl) ?_
      refine z_get S0 hC (ci := 6) (C := RX6) (T := TX6) (N := 17) (v := .ref oM.2.1) jX6_silence_X6 0 rfl rfl 0 (by decide) kX6_silence_7 rfl rfl dX6_silence_12 ?_
      refine lv_iconst (v := 1) hx hb dX6_silence_15 (by decide) ?_
      obtain ⟨x4, hx4, hf⟩ := z_bind hf
      refine z_iald S0 hC 1 rfl hx4 dX6_silence_16 ?_
      refine lv_if_le (tgt := 28) hx hb dX6_silence_17 (by decide) (fun cd5 => ?_) (fun cd5 => ?_)
      · replace hf := z_pos cd5 hf
        have e1 := z_s1 hf
        subst e1
        exact hK H locs ls hC (lv_sub hl [0, 1] rfl)
      · replace hf := z_neg cd5 hf
        refine lv_aload_n hx hb dX6_silence_20 rfl (lv_at hl 0 rfl) ?_
        refine lv_iconst (v := 0) hx hb dX6_silence_21 (by decide) ?_
        obtain ⟨r6, hr6, hf⟩ := z_bind hf
        refine z_callv (z_runV (n := 1) (rest := []) (As := [.int 0]) S0 hC (c_X6_dropsVoice l G c3 oM (Ms, Mas, Mpa, Mkn, Mke, Mik, Mpp, Mle, Mso, Mfz, Msp, Mfo, Mrd, Mrs, Mlt, Mfi, Mse) 0 hr6) [0, 1, 2, 3, 4, 5, 6, 7] (by decide) rfl gX6_silence_X6_dropsVoice rfl rfl rfl (by decide +kernel) ⟨Nat.le_of_ble_eq_true rfl, Nat.le_of_ble_eq_true rfl⟩ (ci := 6) (q0 := 0) rfl rfl rfl hl.1 rfl (Nat.le_of_ble_eq_true rfl) dX6_silence_22) hC [0, 1, 2, 3, 4, 5, 6, 7] [] [0, 1, 2, 3, 4, 5, 6, 7] rfl (wr := ([] : va_W)) rfl (by decide) (by decide) (ws2 := (zwM c3.1 c3.2.2 oM (r6, Mas, Mpa, Mkn, Mke, Mik, Mpp, Mle, Mso, Mfz, Msp, Mfo, Mrd, Mrs, Mlt, Mfi, Mse))) rfl (by decide) (fun H locs hC => ?_)
        refine lv_goto (tgt := 11) hx hb dX6_silence_25 (by decide) ?_
        exact ih11 y1 r6 Mas Mpa Mkn Mke Mik Mpp Mle Mso Mfz Msp Mfo Mrd Mrs Mlt Mfi Mse _ hf H locs ls hC (lv_sub hl [0, 1] rfl) hK
  obtain ⟨t7, ht7, hf⟩ := z_bind hf
  refine L11 zF x2 Ms Mas r1.1 r1.2 Mke Mik Mpp Mle Mso Mfz Msp Mfo Mrd Mrs Mlt Mfi Mse t7 ht7 H locs ls hC (lv_sub hl [1, 0] rfl) (fun H locs ls hC hl => ?_)
  refine lv_aload_n hx hb dX6_silence_28 rfl (lv_at hl 0 rfl) ?_
  refine z_get S0 hC (ci := 6) (C := RX6) (T := TX6) (N := 17) (v := .ref oM.2.1) jX6_silence_X6 0 rfl rfl 0 (by decide) kX6_silence_7 rfl rfl dX6_silence_29 ?_
  refine lv_bipush (v := 8) hx hb dX6_silence_32 (by decide) ?_
  refine lv_dup2_11 hx hb dX6_silence_34 rfl rfl ?_
  obtain ⟨x8, hx8, hf⟩ := z_bind hf
  refine z_iald S0 hC 1 rfl hx8 dX6_silence_35 ?_
  refine lv_iload_n hx hb dX6_silence_36 rfl (lv_at hl 1 rfl) ?_
  refine lv_iadd hx hb dX6_silence_37 ?_
  obtain ⟨g9, hg9, hf⟩ := z_bind hf
  refine z_iast S0 hC 1 rfl hg9 dX6_silence_38 (ws2 := (zwM c3.1 c3.2.2 oM (g9, Mas, r1.1, r1.2, Mke, Mik, Mpp, Mle, Mso, Mfz, Msp, Mfo, Mrd, Mrs, Mlt, Mfi, Mse))) rfl (fun H locs hC => ?_)
  refine lv_iload_n hx hb dX6_silence_39 rfl (lv_at hl 1 rfl) ?_
  obtain ⟨e1, e2, e3, e4⟩ := z_s4 hf
  subst e1
  subst e2
  subst e3
  subst e4
  exact z_iret S0 hr hlk hC dX6_silence_40

-- X6 leastOf
def f_X6_leastOf (p0 : Int32) : Option (Int32) :=
  if p0 = 1 then
    some (0)
  else
    some (1)

set_option maxHeartbeats 4000000 in
set_option maxRecDepth 100000 in
theorem c_X6_leastOf (l : Launch) (G : va_G) (c3 : zT3) (p0 : Int32) {r : Int32} (hf : f_X6_leastOf p0 = some (r)) : zM l yX6_leastOf wsX6_leastOf ⟨0, 0, 0, 0⟩ G c3 ([] : va_W) [.int p0] (some (.int r)) ([] : va_W) := by
  have hf : f_X6_leastOf p0 = some (r) := hf
  show zM l yX6_leastOf wsX6_leastOf ⟨0, 0, 0, 0⟩ G c3 ([] : va_W) [.int p0] (some (.int r)) ([] : va_W)
  refine zM.of (cc := cX6_leastOf) (maxL := 1) (ret := (some .int)) (by decide) rfl (Nat.le_of_ble_eq_true rfl) ?_
  intro p e s m args below meth c A ls S0 hr hlk hC hl
  have S0 : CallFix p m c cX6_leastOf 1 s args wsX6_leastOf RX6 := S0
  have hl : lv_has ls 1 [(0, .int p0)] := hl
  have hx := S0.1
  have hb := S0.2.1
  obtain ⟨H, hH⟩ : ∃ y, y = s.heap := ⟨_, rfl⟩
  rw [← hH] at hC ⊢
  obtain ⟨locs, hlo⟩ : ∃ y : List Loc, y = [] := ⟨_, rfl⟩
  rw [← hlo] at hC ⊢
  clear hH hlo
  unfold f_X6_leastOf at hf
  refine lv_iload_n hx hb dX6_leastOf_0 rfl (lv_at hl 0 rfl) ?_
  refine lv_iconst (v := 1) hx hb dX6_leastOf_1 (by decide) ?_
  refine lv_icmp_ne (tgt := 9) hx hb dX6_leastOf_2 (by decide) (fun cd1 => ?_) (fun cd1 => ?_)
  · replace hf := z_neg cd1 hf
    refine lv_iconst (v := 1) hx hb dX6_leastOf_9 (by decide) ?_
    have e1 := z_s1 hf
    subst e1
    exact z_iret S0 hr hlk hC dX6_leastOf_10
  · replace hf := z_pos cd1 hf
    refine lv_iconst (v := 0) hx hb dX6_leastOf_5 (by decide) ?_
    refine lv_goto (tgt := 10) hx hb dX6_leastOf_6 (by decide) ?_
    have e1 := z_s1 hf
    subst e1
    exact z_iret S0 hr hlk hC dX6_leastOf_10

-- X6 mostOf
def f_X6_mostOf (p0 : Int32) : Option (Int32) :=
  if p0 = 0 then
    some (8)
  else
    if p0 = 1 then
      some (2)
    else
      some (50)

set_option maxHeartbeats 4000000 in
set_option maxRecDepth 100000 in
theorem c_X6_mostOf (l : Launch) (G : va_G) (c3 : zT3) (p0 : Int32) {r : Int32} (hf : f_X6_mostOf p0 = some (r)) : zM l yX6_mostOf wsX6_mostOf ⟨0, 0, 0, 0⟩ G c3 ([] : va_W) [.int p0] (some (.int r)) ([] : va_W) := by
  have hf : f_X6_mostOf p0 = some (r) := hf
  show zM l yX6_mostOf wsX6_mostOf ⟨0, 0, 0, 0⟩ G c3 ([] : va_W) [.int p0] (some (.int r)) ([] : va_W)
  refine zM.of (cc := cX6_mostOf) (maxL := 1) (ret := (some .int)) (by decide) rfl (Nat.le_of_ble_eq_true rfl) ?_
  intro p e s m args below meth c A ls S0 hr hlk hC hl
  have S0 : CallFix p m c cX6_mostOf 1 s args wsX6_mostOf RX6 := S0
  have hl : lv_has ls 1 [(0, .int p0)] := hl
  have hx := S0.1
  have hb := S0.2.1
  obtain ⟨H, hH⟩ : ∃ y, y = s.heap := ⟨_, rfl⟩
  rw [← hH] at hC ⊢
  obtain ⟨locs, hlo⟩ : ∃ y : List Loc, y = [] := ⟨_, rfl⟩
  rw [← hlo] at hC ⊢
  clear hH hlo
  unfold f_X6_mostOf at hf
  refine lv_iload_n hx hb dX6_mostOf_0 rfl (lv_at hl 0 rfl) ?_
  refine lv_if_ne (tgt := 9) hx hb dX6_mostOf_1 (by decide) (fun cd1 => ?_) (fun cd1 => ?_)
  · replace hf := z_neg cd1 hf
    refine lv_iload_n hx hb dX6_mostOf_9 rfl (lv_at hl 0 rfl) ?_
    refine lv_iconst (v := 1) hx hb dX6_mostOf_10 (by decide) ?_
    refine lv_icmp_ne (tgt := 18) hx hb dX6_mostOf_11 (by decide) (fun cd2 => ?_) (fun cd2 => ?_)
    · replace hf := z_neg cd2 hf
      refine lv_bipush (v := 50) hx hb dX6_mostOf_18 (by decide) ?_
      have e1 := z_s1 hf
      subst e1
      exact z_iret S0 hr hlk hC dX6_mostOf_20
    · replace hf := z_pos cd2 hf
      refine lv_iconst (v := 2) hx hb dX6_mostOf_14 (by decide) ?_
      refine lv_goto (tgt := 20) hx hb dX6_mostOf_15 (by decide) ?_
      have e1 := z_s1 hf
      subst e1
      exact z_iret S0 hr hlk hC dX6_mostOf_20
  · replace hf := z_pos cd1 hf
    refine lv_bipush (v := 8) hx hb dX6_mostOf_4 (by decide) ?_
    refine lv_goto (tgt := 20) hx hb dX6_mostOf_6 (by decide) ?_
    have e1 := z_s1 hf
    subst e1
    exact z_iret S0 hr hlk hC dX6_mostOf_20
