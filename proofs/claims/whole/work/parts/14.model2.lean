-- X6 set
def f_X6_set_50 (y3 : Int32) : Nat → (Nat → Int32) → Option ((Nat → Int32))
  | 0, _ => none
  | fu + 1, Ms =>
    (zald 150 Ms 1).bind fun x11 => (zald 150 Ms 9).bind fun x12 => if x11 ≤ x12 then
      some (Ms)
    else
      (f_X6_steals Ms).bind fun r14 => f_X6_set_50 y3 fu r14

theorem f_X6_set_50_s (y3 : Int32) (Ms : (Nat → Int32)) (fu : Nat) : f_X6_set_50 y3 (fu + 1) Ms = (
    (zald 150 Ms 1).bind fun x11 => (zald 150 Ms 9).bind fun x12 => if x11 ≤ x12 then
      some (Ms)
    else
      (f_X6_steals Ms).bind fun r14 => f_X6_set_50 y3 fu r14
    ) := rfl

def f_X6_set (Ms : (Nat → Int32)) (Mpa : (Nat → Int32)) (Mkn : Int32) (p1 : Int32) (p2 : Int32) : Option (Int32 × (Nat → Int32) × (Nat → Int32) × Int32) :=
  (f_X6_in p1 0 2).bind fun r1 => if r1 = 0 then
    some ((-1), Ms, Mpa, Mkn)
  else
    (f_X6_leastOf p1).bind fun r3 => (f_X6_mostOf p1).bind fun r4 => (f_X6_in p2 r3 r4).bind fun r5 => if r5 = 0 then
      some ((-1), Ms, Mpa, Mkn)
    else
      (f_X6_records Ms Mpa Mkn).bind fun r7 => (zald 150 Ms (9 + p1)).bind fun x8 => (zast 150 Ms (9 + p1) p2).bind fun g9 => (f_X6_set_50 x8 zF g9).bind fun t15 =>
        some (x8, t15, r7.1, r7.2)

theorem kX6_set_7 : Cond.fieldLink RX6 7 "ZoneSamplerModel" "s" "[I" ∈ wsX6_set := by decide +kernel
theorem jX6_set_X6 : ∀ w ∈ u_ws RX6 TX6 17, w ∈ wsX6_set := by decide +kernel
set_option maxHeartbeats 4000000 in
set_option maxRecDepth 100000 in
theorem c_X6_set (l : Launch) (G : va_G) (c3 : zT3) (oM : zR8) (BM : zMd) (p1 : Int32) (p2 : Int32) {r : Int32} {Ms' : (Nat → Int32)} {Mpa' : (Nat → Int32)} {Mkn' : Int32} (hf : f_X6_set BM.1 BM.2.2.1 BM.2.2.2.1 p1 p2 = some (r, Ms', Mpa', Mkn')) : zM l yX6_set wsX6_set ⟨3, 0, 0, 65⟩ G c3 (zwM c3.1 c3.2.2 oM (BM.1, BM.2.1, BM.2.2.1, BM.2.2.2.1, BM.2.2.2.2.1, BM.2.2.2.2.2.1, BM.2.2.2.2.2.2.1, BM.2.2.2.2.2.2.2.1, BM.2.2.2.2.2.2.2.2.1, BM.2.2.2.2.2.2.2.2.2.1, BM.2.2.2.2.2.2.2.2.2.2.1, BM.2.2.2.2.2.2.2.2.2.2.2.1, BM.2.2.2.2.2.2.2.2.2.2.2.2.1, BM.2.2.2.2.2.2.2.2.2.2.2.2.2.1, BM.2.2.2.2.2.2.2.2.2.2.2.2.2.2.1, BM.2.2.2.2.2.2.2.2.2.2.2.2.2.2.2.1, BM.2.2.2.2.2.2.2.2.2.2.2.2.2.2.2.2)) [.ref oM.1, .int p1, .int p2] (some (.int r)) (zwM c3.1 c3.2.2 oM (Ms', BM.2.1, Mpa', Mkn', BM.2.2.2.2.1, BM.2.2.2.2.2.1, BM.2.2.2.2.2.2.1, BM.2.2.2.2.2.2.2.1, BM.2.2.2.2.2.2.2.2.1, BM.2.2.2.2.2.2.2.2.2.1, BM.2.2.2.2.2.2.2.2.2.2.1, BM.2.2.2.2.2.2.2.2.2.2.2.1, BM.2.2.2.2.2.2.2.2.2.2.2.2.1, BM.2.2.2.2.2.2.2.2.2.2.2.2.2.1, BM.2.2.2.2.2.2.2.2.2.2.2.2.2.2.1, BM.2.2.2.2.2.2.2.2.2.2.2.2.2.2.2.1, BM.2.2.2.2.2.2.2.2.2.2.2.2.2.2.2.2)) := by
  obtain ⟨Ms, Mas, Mpa, Mkn, Mke, Mik, Mpp, Mle, Mso, Mfz, Msp, Mfo, Mrd, Mrs, Mlt, Mfi, Mse⟩ := BM
  have hf : f_X6_set Ms Mpa Mkn p1 p2 = some (r, Ms', Mpa', Mkn') := hf
  show zM l yX6_set wsX6_set ⟨3, 0, 0, 65⟩ G c3 (zwM c3.1 c3.2.2 oM (Ms, Mas, Mpa, Mkn, Mke, Mik, Mpp, Mle, Mso, Mfz, Msp, Mfo, Mrd, Mrs, Mlt, Mfi, Mse)) [.ref oM.1, .int p1, .int p2] (some (.int r)) (zwM c3.1 c3.2.2 oM (Ms', Mas, Mpa', Mkn', Mke, Mik, Mpp, Mle, Mso, Mfz, Msp, Mfo, Mrd, Mrs, Mlt, Mfi, Mse))
  refine zM.of (cc := cX6_set) (maxL := 4) (ret := (some .int)) (by decide) rfl (Nat.le_of_ble_eq_true rfl) ?_
  intro p e s m args below meth c A ls S0 hr hlk hC hl
  have S0 : CallFix p m c cX6_set 4 s args wsX6_set RX6 := S0
  have hl : lv_has ls 4 [(0, .ref oM.1), (1, .int p1), (2, .int p2)] := hl
  have hx := S0.1
  have hb := S0.2.1
  obtain ⟨H, hH⟩ : ∃ y, y = s.heap := ⟨_, rfl⟩
  rw [← hH] at hC ⊢
  obtain ⟨locs, hlo⟩ : ∃ y : List Loc, y = [] := ⟨_, rfl⟩
  rw [← hlo] at hC ⊢
  clear hH hlo
  unfold f_X6_set at hf
  refine lv_iload_n hx hb dX6_set_0 rfl (lv_at hl 1 rfl) ?_
  refine lv_iconst (v := 0) hx hb dX6_set_1 (by decide) ?_
  refine lv_iconst (v := 2) hx hb dX6_set_2 (by decide) ?_
  obtain ⟨r1, hr1, hf⟩ := z_bind hf
  refine z_callPi (z_runS (n := 3) (rest := []) (As := [.int p1, .int 0, .int 2]) S0 hC (c_X6_in l G c3 p1 0 2 hr1) [] (by decide) rfl gX6_set_X6_in rfl rfl rfl (by decide +kernel) ⟨Nat.le_of_ble_eq_true rfl, Nat.le_of_ble_eq_true rfl⟩ rfl hl.1 rfl (Nat.le_of_ble_eq_true rfl) dX6_set_3) hC [] rfl (fun H locs hC => ?_)
  refine lv_if_eq (tgt := 24) hx hb dX6_set_6 (by decide) (fun cd2 => ?_) (fun cd2 => ?_)
  · replace hf := z_pos cd2 hf
    refine lv_iconst (v := (-1)) hx hb dX6_set_24 (by decide) ?_
    obtain ⟨e1, e2, e3, e4⟩ := z_s4 hf
    subst e1
    subst e2
    subst e3
    subst e4
    exact z_iret S0 hr hlk hC dX6_set_25
  · replace hf := z_neg cd2 hf
    refine lv_iload_n hx hb dX6_set_9 rfl (lv_at hl 2 rfl) ?_
    refine lv_iload_n hx hb dX6_set_10 rfl (lv_at hl 1 rfl) ?_
    obtain ⟨r3, hr3, hf⟩ := z_bind hf
    refine z_callPi (z_runS (n := 1) (rest := [.int p2]) (As := [.int p1]) S0 hC (c_X6_leastOf l G c3 p1 hr3) [] (by decide) rfl gX6_set_X6_leastOf rfl rfl rfl (by decide +kernel) ⟨Nat.le_of_ble_eq_true rfl, Nat.le_of_ble_eq_true rfl⟩ rfl hl.1 rfl (Nat.le_of_ble_eq_true rfl) dX6_set_11) hC [] rfl (fun H locs hC => ?_)
    refine lv_iload_n hx hb dX6_set_14 rfl (lv_at hl 1 rfl) ?_
    obtain ⟨r4, hr4, hf⟩ := z_bind hf
    refine z_callPi (z_runS (n := 1) (rest := [.int r3, .int p2]) (As := [.int p1]) S0 hC (c_X6_mostOf l G c3 p1 hr4) [] (by decide) rfl gX6_set_X6_mostOf rfl rfl rfl (by decide +kernel) ⟨Nat.le_of_ble_eq_true rfl, Nat.le_of_ble_eq_true rfl⟩ rfl hl.1 rfl (Nat.le_of_ble_eq_true rfl) dX6_set_15) hC [] rfl (fun H locs hC => ?_)
    obtain ⟨r5, hr5, hf⟩ := z_bind hf
    refine z_callPi (z_runS (n := 3) (rest := []) (As := [.int p2, .int r3, .int r4]) S0 hC (c_X6_in l G c3 p2 r3 r4 hr5) [] (by decide) rfl gX6_set_X6_in rfl rfl rfl (by decide +kernel) ⟨Nat.le_of_ble_eq_true rfl, Nat.le_of_ble_eq_true rfl⟩ rfl hl.1 rfl (Nat.le_of_ble_eq_true rfl) dX6_set_18) hC [] rfl (fun H locs hC => ?_)
    refine lv_if_ne (tgt := 26) hx hb dX6_set_21 (by decide) (fun cd6 => ?_) (fun cd6 => ?_)
    · replace hf := z_neg cd6 hf
      refine lv_aload_n hx hb dX6_set_26 rfl (lv_at hl 0 rfl) ?_
      obtain ⟨r7, hr7, hf⟩ := z_bind hf
      refine z_callv (z_runV (n := 0) (rest := []) (As := []) S0 hC (c_X6_records l G c3 oM (Ms, Mas, Mpa, Mkn, Mke, Mik, Mpp, Mle, Mso, Mfz, Msp, Mfo, Mrd, Mrs, Mlt, Mfi, Mse) hr7) [0, 1, 2, 3, 4, 5, 6, 7] (by decide) rfl gX6_set_X6_records rfl rfl rfl (by decide +kernel) ⟨Nat.le_of_ble_eq_true rfl, Nat.le_of_ble_eq_true rfl⟩ (ci := 6) (q0 := 0) rfl rfl rfl hl.1 rfl (Nat.le_of_ble_eq_true rfl) dX6_set_27) hC [0, 1, 2, 3, 4, 5, 6, 7] [] [0, 1, 2, 3, 4, 5, 6, 7] rfl (wr := ([] : va_W)) rfl (by decide) (by decide) (ws2 := (zwM c3.1 c3.2.2 oM (Ms, Mas, r7.1, r7.2, Mke, Mik, Mpp, Mle, Mso, Mfz, Msp, Mfo, Mrd, Mrs, Mlt, Mfi, Mse))) rfl (by decide) (fun H locs hC => ?_)
      refine lv_aload_n hx hb dX6_set_30 rfl (lv_at hl 0 rfl) ?_
      refine z_get S0 hC (ci := 6) (C := RX6) (T := TX6) (N := 17) (v := .ref oM.2.1) jX6_set_X6 0 rfl rfl 0 (by decide) kX6_set_7 rfl rfl dX6_set_31 ?_
      refine lv_bipush (v := 9) hx hb dX6_set_34 (by decide) ?_
      refine lv_iload_n hx hb dX6_set_36 rfl (lv_at hl 1 rfl) ?_
      refine lv_iadd hx hb dX6_set_37 ?_
      obtain ⟨x8, hx8, hf⟩ := z_bind hf
      refine z_iald S0 hC 1 rfl hx8 dX6_set_38 ?_
      refine lv_istore_n (lv' := [(3, .int x8), (0, .ref oM.1), (1, .int p1), (2, .int p2)]) hx hb dX6_set_39 rfl hl (by decide) rfl (fun ls hl => ?_)
      refine lv_aload_n hx hb dX6_set_40 rfl (lv_at hl 1 rfl) ?_
      refine z_get S0 hC (ci := 6) (C := RX6) (T := TX6) (N := 17) (v := .ref oM.2.1) jX6_set_X6 0 rfl rfl 0 (by decide) kX6_set_7 rfl rfl dX6_set_41 ?_
      refine lv_bipush (v := 9) hx hb dX6_set_44 (by decide) ?_
      refine lv_iload_n hx hb dX6_set_46 rfl (lv_at hl 2 rfl) ?_
      refine lv_iadd hx hb dX6_set_47 ?_
      refine lv_iload_n hx hb dX6_set_48 rfl (lv_at hl 3 rfl) ?_
      obtain ⟨g9, hg9, hf⟩ := z_bind hf
      refine z_iast S0 hC 1 rfl hg9 dX6_set_49 (ws2 := (zwM c3.1 c3.2.2 oM (g9, Mas, r7.1, r7.2, Mke, Mik, Mpp, Mle, Mso, Mfz, Msp, Mfo, Mrd, Mrs, Mlt, Mfi, Mse))) rfl (fun H locs hC => ?_)
      have L50 : ∀ (fu : Nat) (y1 : Int32) (y2 : Int32) (y3 : Int32) (Ms : (Nat → Int32)) (Mas : (Nat → Int32)) (Mpa : (Nat → Int32)) (Mkn : Int32) (Mke : (Nat → Int32)) (Mik : Int32) (Mpp : (Nat → Int32)) (Mle : Int32) (Mso : (Nat → Int32)) (Mfz : Int32) (Msp : Int32) (Mfo : Int32) (Mrd : (Nat → Int32)) (Mrs : Int32) (Mlt : Int32) (Mfi : Int32) (Mse : Int32) (tt : (Nat → Int32)), f_X6_set_50 y3 fu Ms = some tt → ∀ (H : Heap) (locs : List Loc) (ls : Array Slot), zC G c3 A s (zwM c3.1 c3.2.2 oM (Ms, Mas, Mpa, Mkn, Mke, Mik, Mpp, Mle, Mso, Mfz, Msp, Mfo, Mrd, Mrs, Mlt, Mfi, Mse)) H locs → lv_has ls 4 [(0, .ref oM.1), (1, .int y1), (2, .int y2), (3, .int y3)] → (∀ (H : Heap) (locs : List Loc) (ls : Array Slot), zC G c3 A s (zwM c3.1 c3.2.2 oM (tt, Mas, Mpa, Mkn, Mke, Mik, Mpp, Mle, Mso, Mfz, Msp, Mfo, Mrd, Mrs, Mlt, Mfi, Mse)) H locs → lv_has ls 4 [(0, .ref oM.1), (1, .int y1), (2, .int y2), (3, .int y3)] → W p l e ⟨3, 0, 0, 65⟩ s m args below meth c H locs 0 0 (MQ below (zPost G (zwM c3.1 c3.2.2 oM (Ms', Mas, Mpa', Mkn', Mke, Mik, Mpp, Mle, Mso, Mfz, Msp, Mfo, Mrd, Mrs, Mlt, Mfi, Mse)) (some (.int r)) A) args s 0 0 A) (F0 m 73 ls [])) → W p l e ⟨3, 0, 0, 65⟩ s m args below meth c H locs 0 0 (MQ below (zPost G (zwM c3.1 c3.2.2 oM (Ms', Mas, Mpa', Mkn', Mke, Mik, Mpp, Mle, Mso, Mfz, Msp, Mfo, Mrd, Mrs, Mlt, Mfi, Mse)) (some (.int r)) A) args s 0 0 A) (F0 m 50 ls []) := by
        intro fu
        induction fu with
        | zero =>
          intro y1 y2 y3 Ms Mas Mpa Mkn Mke Mik Mpp Mle Mso Mfz Msp Mfo Mrd Mrs Mlt Mfi Mse tt hf H locs ls hC hl hK
          exact (z_none hf).elim
        | succ fu ih50 =>
          intro y1 y2 y3 Ms Mas Mpa Mkn Mke Mik Mpp Mle Mso Mfz Msp Mfo Mrd Mrs Mlt Mfi Mse tt hf H locs ls hC hl hK
          replace hf := (f_X6_set_50_s y3 Ms fu).symm.trans hf
          refine lv_aload_n hx hb dX6_set_50 rfl (lv_at hl 0 rfl) ?_
          refine z_get S0 hC (ci := 6) (C := RX6) (T := TX6) (N := 17) (v := .ref oM.2.1) jX6_set_X6 0 rfl rfl 0 (by decide) kX6_set_7 rfl rfl dX6_set_51 ?_
          refine lv_iconst (v := 1) hx hb dX6_set_54 (by decide) ?_
          obtain ⟨x11, hx11, hf⟩ := z_bind hf
          refine z_iald S0 hC 1 rfl hx11 dX6_set_55 ?_
          refine lv_aload_n hx hb dX6_set_56 rfl (lv_at hl 0 rfl) ?_
          refine z_get S0 hC (ci := 6) (C := RX6) (T := TX6) (N := 17) (v := .ref oM.2.1) jX6_set_X6 0 rfl rfl 0 (by decide) kX6_set_7 rfl rfl dX6_set_57 ?_
          refine lv_bipush (v := 9) hx hb dX6_set_60 (by decide) ?_
          obtain ⟨x12, hx12, hf⟩ := z_bind hf
          refine z_iald S0 hC 1 rfl hx12 dX6_set_62 ?_
          refine lv_icmp_le (tgt := 73) hx hb dX6_set_63 (by decide) (fun cd13 => ?_) (fun cd13 => ?_)
          · replace hf := z_pos cd13 hf
            have e1 := z_s1 hf
            subst e1
            exact hK H locs ls hC (lv_sub hl [0, 1, 2, 3] rfl)
          · replace hf := z_neg cd13 hf
            refine lv_aload_n hx hb dX6_set_66 rfl (lv_at hl 0 rfl) ?_
            obtain ⟨r14, hr14, hf⟩ := z_bind hf
            refine z_callv (z_runV (n := 0) (rest := []) (As := []) S0 hC (c_X6_steals l G c3 oM (Ms, Mas, Mpa, Mkn, Mke, Mik, Mpp, Mle, Mso, Mfz, Msp, Mfo, Mrd, Mrs, Mlt, Mfi, Mse) hr14) [0, 1, 2, 3, 4, 5, 6, 7] (by decide) rfl gX6_set_X6_steals rfl rfl rfl (by decide +kernel) ⟨Nat.le_of_ble_eq_true rfl, Nat.le_of_ble_eq_true rfl⟩ (ci := 6) (q0 := 0) rfl rfl rfl hl.1 rfl (Nat.le_of_ble_eq_true rfl) dX6_set_67) hC [0, 1, 2, 3, 4, 5, 6, 7] [] [0, 1, 2, 3, 4, 5, 6, 7] rfl (wr := ([] : va_W)) rfl (by decide) (by decide) (ws2 := (zwM c3.1 c3.2.2 oM (r14, Mas, Mpa, Mkn, Mke, Mik, Mpp, Mle, Mso, Mfz, Msp, Mfo, Mrd, Mrs, Mlt, Mfi, Mse))) rfl (by decide) (fun H locs hC => ?_)
            refine lv_goto (tgt := 50) hx hb dX6_set_70 (by decide) ?_
            exact ih50 y1 y2 y3 r14 Mas Mpa Mkn Mke Mik Mpp Mle Mso Mfz Msp Mfo Mrd Mrs Mlt Mfi Mse _ hf H locs ls hC (lv_sub hl [0, 1, 2, 3] rfl) hK
      obtain ⟨t15, ht15, hf⟩ := z_bind hf
      refine L50 zF p1 p2 x8 g9 Mas r7.1 r7.2 Mke Mik Mpp Mle Mso Mfz Msp Mfo Mrd Mrs Mlt Mfi Mse t15 ht15 H locs ls hC (lv_sub hl [1, 2, 3, 0] rfl) (fun H locs ls hC hl => ?_)
      refine lv_iload_n hx hb dX6_set_73 rfl (lv_at hl 3 rfl) ?_
      obtain ⟨e1, e2, e3, e4⟩ := z_s4 hf
      subst e1
      subst e2
      subst e3
      subst e4
      exact z_iret S0 hr hlk hC dX6_set_74
    · replace hf := z_pos cd6 hf
      refine lv_iconst (v := (-1)) hx hb dX6_set_24 (by decide) ?_
      obtain ⟨e1, e2, e3, e4⟩ := z_s4 hf
      subst e1
      subst e2
      subst e3
      subst e4
      exact z_iret S0 hr hlk hC dX6_set_25

-- X6 append
def f_X6_append (Mpp : (Nat → Int32)) (Mle : Int32) (p1 : Int32) : Option (Int32 × (Nat → Int32) × Int32) :=
  (f_X6_in p1 33 126).bind fun r1 => if r1 = 0 then
    some ((-1), Mpp, Mle)
  else
    if Mle = 60 then
      some ((-3), Mpp, Mle)
    else
      (zast 60 Mpp Mle p1).bind fun g4 => some ((Mle + 1), g4, (Mle + 1))

theorem kX6_append_125 : Cond.fieldLink RX6 125 "ZoneSamplerModel" "length" "I" ∈ wsX6_append := by decide +kernel
theorem kX6_append_22 : Cond.fieldLink RX6 22 "ZoneSamplerModel" "pad" "[I" ∈ wsX6_append := by decide +kernel
theorem jX6_append_X6 : ∀ w ∈ u_ws RX6 TX6 17, w ∈ wsX6_append := by decide +kernel
set_option maxHeartbeats 4000000 in
set_option maxRecDepth 100000 in
theorem c_X6_append (l : Launch) (G : va_G) (c3 : zT3) (oM : zR8) (BM : zMd) (p1 : Int32) {r : Int32} {Mpp' : (Nat → Int32)} {Mle' : Int32} (hf : f_X6_append BM.2.2.2.2.2.2.1 BM.2.2.2.2.2.2.2.1 p1 = some (r, Mpp', Mle')) : zM l yX6_append wsX6_append ⟨1, 0, 0, 22⟩ G c3 (zwM c3.1 c3.2.2 oM (BM.1, BM.2.1, BM.2.2.1, BM.2.2.2.1, BM.2.2.2.2.1, BM.2.2.2.2.2.1, BM.2.2.2.2.2.2.1, BM.2.2.2.2.2.2.2.1, BM.2.2.2.2.2.2.2.2.1, BM.2.2.2.2.2.2.2.2.2.1, BM.2.2.2.2.2.2.2.2.2.2.1, BM.2.2.2.2.2.2.2.2.2.2.2.1, BM.2.2.2.2.2.2.2.2.2.2.2.2.1, BM.2.2.2.2.2.2.2.2.2.2.2.2.2.1, BM.2.2.2.2.2.2.2.2.2.2.2.2.2.2.1, BM.2.2.2.2.2.2.2.2.2.2.2.2.2.2.2.1, BM.2.2.2.2.2.2.2.2.2.2.2.2.2.2.2.2)) [.ref oM.1, .int p1] (some (.int r)) (zwM c3.1 c3.2.2 oM (BM.1, BM.2.1, BM.2.2.1, BM.2.2.2.1, BM.2.2.2.2.1, BM.2.2.2.2.2.1, Mpp', Mle', BM.2.2.2.2.2.2.2.2.1, BM.2.2.2.2.2.2.2.2.2.1, BM.2.2.2.2.2.2.2.2.2.2.1, BM.2.2.2.2.2.2.2.2.2.2.2.1, BM.2.2.2.2.2.2.2.2.2.2.2.2.1, BM.2.2.2.2.2.2.2.2.2.2.2.2.2.1, BM.2.2.2.2.2.2.2.2.2.2.2.2.2.2.1, BM.2.2.2.2.2.2.2.2.2.2.2.2.2.2.2.1, BM.2.2.2.2.2.2.2.2.2.2.2.2.2.2.2.2)) := by
  obtain ⟨Ms, Mas, Mpa, Mkn, Mke, Mik, Mpp, Mle, Mso, Mfz, Msp, Mfo, Mrd, Mrs, Mlt, Mfi, Mse⟩ := BM
  have hf : f_X6_append Mpp Mle p1 = some (r, Mpp', Mle') := hf
  show zM l yX6_append wsX6_append ⟨1, 0, 0, 22⟩ G c3 (zwM c3.1 c3.2.2 oM (Ms, Mas, Mpa, Mkn, Mke, Mik, Mpp, Mle, Mso, Mfz, Msp, Mfo, Mrd, Mrs, Mlt, Mfi, Mse)) [.ref oM.1, .int p1] (some (.int r)) (zwM c3.1 c3.2.2 oM (Ms, Mas, Mpa, Mkn, Mke, Mik, Mpp', Mle', Mso, Mfz, Msp, Mfo, Mrd, Mrs, Mlt, Mfi, Mse))
  refine zM.of (cc := cX6_append) (maxL := 2) (ret := (some .int)) (by decide) rfl (Nat.le_of_ble_eq_true rfl) ?_
  intro p e s m args below meth c A ls S0 hr hlk hC hl
  have S0 : CallFix p m c cX6_append 2 s args wsX6_append RX6 := S0
  have hl : lv_has ls 2 [(0, .ref oM.1), (1, .int p1)] := hl
  have hx := S0.1
  have hb := S0.2.1
  obtain ⟨H, hH⟩ : ∃ y, y = s.heap := ⟨_, rfl⟩
  rw [← hH] at hC ⊢
  obtain ⟨locs, hlo⟩ : ∃ y : List Loc, y = [] := ⟨_, rfl⟩
  rw [← hlo] at hC ⊢
  clear hH hlo
  unfold f_X6_append at hf
  refine lv_iload_n hx hb dX6_append_0 rfl (lv_at hl 1 rfl) ?_
  refine lv_bipush (v := 33) hx hb dX6_append_1 (by decide) ?_
  refine lv_bipush (v := 126) hx hb dX6_append_3 (by decide) ?_
  obtain ⟨r1, hr1, hf⟩ := z_bind hf
  refine z_callPi (z_runS (n := 3) (rest := []) (As := [.int p1, .int 33, .int 126]) S0 hC (c_X6_in l G c3 p1 33 126 hr1) [] (by decide) rfl gX6_append_X6_in rfl rfl rfl (by decide +kernel) ⟨Nat.le_of_ble_eq_true rfl, Nat.le_of_ble_eq_true rfl⟩ rfl hl.1 rfl (Nat.le_of_ble_eq_true rfl) dX6_append_5) hC [] rfl (fun H locs hC => ?_)
  refine lv_if_ne (tgt := 13) hx hb dX6_append_8 (by decide) (fun cd2 => ?_) (fun cd2 => ?_)
  · replace hf := z_neg cd2 hf
    refine lv_aload_n hx hb dX6_append_13 rfl (lv_at hl 0 rfl) ?_
    refine z_get S0 hC (ci := 6) (C := RX6) (T := TX6) (N := 17) (v := .int Mle) jX6_append_X6 0 rfl rfl 7 (by decide) kX6_append_125 rfl rfl dX6_append_14 ?_
    refine lv_bipush (v := 60) hx hb dX6_append_17 (by decide) ?_
    refine lv_icmp_ne (tgt := 25) hx hb dX6_append_19 (by decide) (fun cd3 => ?_) (fun cd3 => ?_)
    · replace hf := z_neg cd3 hf
      refine lv_aload_n hx hb dX6_append_25 rfl (lv_at hl 0 rfl) ?_
      refine z_get S0 hC (ci := 6) (C := RX6) (T := TX6) (N := 17) (v := .ref oM.2.2.2.2.2.1) jX6_append_X6 0 rfl rfl 6 (by decide) kX6_append_22 rfl rfl dX6_append_26 ?_
      refine lv_aload_n hx hb dX6_append_29 rfl (lv_at hl 0 rfl) ?_
      refine z_get S0 hC (ci := 6) (C := RX6) (T := TX6) (N := 17) (v := .int Mle) jX6_append_X6 0 rfl rfl 7 (by decide) kX6_append_125 rfl rfl dX6_append_30 ?_
      refine lv_iload_n hx hb dX6_append_33 rfl (lv_at hl 1 rfl) ?_
      obtain ⟨g4, hg4, hf⟩ := z_bind hf
      refine z_iast S0 hC 5 rfl hg4 dX6_append_34 (ws2 := (zwM c3.1 c3.2.2 oM (Ms, Mas, Mpa, Mkn, Mke, Mik, g4, Mle, Mso, Mfz, Msp, Mfo, Mrd, Mrs, Mlt, Mfi, Mse))) rfl (fun H locs hC => ?_)
      refine lv_aload_n hx hb dX6_append_35 rfl (lv_at hl 0 rfl) ?_
      refine lv_dup hx hb dX6_append_36 rfl ?_
      refine z_get S0 hC (ci := 6) (C := RX6) (T := TX6) (N := 17) (v := .int Mle) jX6_append_X6 0 rfl rfl 7 (by decide) kX6_append_125 rfl rfl dX6_append_37 ?_
      refine lv_iconst (v := 1) hx hb dX6_append_40 (by decide) ?_
      refine lv_iadd hx hb dX6_append_41 ?_
      refine z_put S0 hC (ci := 6) (C := RX6) (T := TX6) (N := 17) (v := .int (Mle + 1)) jX6_append_X6 tyX6 tyX6_ok nmX6 0 rfl rfl 7 (by decide) kX6_append_125 rfl rfl rfl rfl (Nat.le_of_ble_eq_true rfl) dX6_append_42 (ws2 := (zwM c3.1 c3.2.2 oM (Ms, Mas, Mpa, Mkn, Mke, Mik, g4, (Mle + 1), Mso, Mfz, Msp, Mfo, Mrd, Mrs, Mlt, Mfi, Mse))) rfl (fun H locs hC => ?_)
      refine lv_aload_n hx hb dX6_append_45 rfl (lv_at hl 0 rfl) ?_
      refine z_get S0 hC (ci := 6) (C := RX6) (T := TX6) (N := 17) (v := .int (Mle + 1)) jX6_append_X6 0 rfl rfl 7 (by decide) kX6_append_125 rfl rfl dX6_append_46 ?_
      obtain ⟨e1, e2, e3⟩ := z_s3 hf
      subst e1
      subst e2
      subst e3
      exact z_iret S0 hr hlk hC dX6_append_49
    · replace hf := z_pos cd3 hf
      refine lv_bipush (v := (-3)) hx hb dX6_append_22 (by decide) ?_
      obtain ⟨e1, e2, e3⟩ := z_s3 hf
      subst e1
      subst e2
      subst e3
      exact z_iret S0 hr hlk hC dX6_append_24
  · replace hf := z_pos cd2 hf
    refine lv_iconst (v := (-1)) hx hb dX6_append_11 (by decide) ?_
    obtain ⟨e1, e2, e3⟩ := z_s3 hf
    subst e1
    subst e2
    subst e3
    exact z_iret S0 hr hlk hC dX6_append_12

-- X6 clear
def f_X6_clear (Mle : Int32) : Option (Int32 × Int32) :=
  some (Mle, 0)

theorem kX6_clear_125 : Cond.fieldLink RX6 125 "ZoneSamplerModel" "length" "I" ∈ wsX6_clear := by decide +kernel
theorem jX6_clear_X6 : ∀ w ∈ u_ws RX6 TX6 17, w ∈ wsX6_clear := by decide +kernel
set_option maxHeartbeats 4000000 in
set_option maxRecDepth 100000 in
theorem c_X6_clear (l : Launch) (G : va_G) (c3 : zT3) (oM : zR8) (BM : zMd) {r : Int32} {Mle' : Int32} (hf : f_X6_clear BM.2.2.2.2.2.2.2.1 = some (r, Mle')) : zM l yX6_clear wsX6_clear ⟨0, 0, 0, 0⟩ G c3 (zwM c3.1 c3.2.2 oM (BM.1, BM.2.1, BM.2.2.1, BM.2.2.2.1, BM.2.2.2.2.1, BM.2.2.2.2.2.1, BM.2.2.2.2.2.2.1, BM.2.2.2.2.2.2.2.1, BM.2.2.2.2.2.2.2.2.1, BM.2.2.2.2.2.2.2.2.2.1, BM.2.2.2.2.2.2.2.2.2.2.1, BM.2.2.2.2.2.2.2.2.2.2.2.1, BM.2.2.2.2.2.2.2.2.2.2.2.2.1, BM.2.2.2.2.2.2.2.2.2.2.2.2.2.1, BM.2.2.2.2.2.2.2.2.2.2.2.2.2.2.1, BM.2.2.2.2.2.2.2.2.2.2.2.2.2.2.2.1, BM.2.2.2.2.2.2.2.2.2.2.2.2.2.2.2.2)) [.ref oM.1] (some (.int r)) (zwM c3.1 c3.2.2 oM (BM.1, BM.2.1, BM.2.2.1, BM.2.2.2.1, BM.2.2.2.2.1, BM.2.2.2.2.2.1, BM.2.2.2.2.2.2.1, Mle', BM.2.2.2.2.2.2.2.2.1, BM.2.2.2.2.2.2.2.2.2.1, BM.2.2.2.2.2.2.2.2.2.2.1, BM.2.2.2.2.2.2.2.2.2.2.2.1, BM.2.2.2.2.2.2.2.2.2.2.2.2.1, BM.2.2.2.2.2.2.2.2.2.2.2.2.2.1, BM.2.2.2.2.2.2.2.2.2.2.2.2.2.2.1, BM.2.2.2.2.2.2.2.2.2.2.2.2.2.2.2.1, BM.2.2.2.2.2.2.2.2.2.2.2.2.2.2.2.2)) := by
  obtain ⟨Ms, Mas, Mpa, Mkn, Mke, Mik, Mpp, Mle, Mso, Mfz, Msp, Mfo, Mrd, Mrs, Mlt, Mfi, Mse⟩ := BM
  have hf : f_X6_clear Mle = some (r, Mle') := hf
  show zM l yX6_clear wsX6_clear ⟨0, 0, 0, 0⟩ G c3 (zwM c3.1 c3.2.2 oM (Ms, Mas, Mpa, Mkn, Mke, Mik, Mpp, Mle, Mso, Mfz, Msp, Mfo, Mrd, Mrs, Mlt, Mfi, Mse)) [.ref oM.1] (some (.int r)) (zwM c3.1 c3.2.2 oM (Ms, Mas, Mpa, Mkn, Mke, Mik, Mpp, Mle', Mso, Mfz, Msp, Mfo, Mrd, Mrs, Mlt, Mfi, Mse))
  refine zM.of (cc := cX6_clear) (maxL := 2) (ret := (some .int)) (by decide) rfl (Nat.le_of_ble_eq_true rfl) ?_
  intro p e s m args below meth c A ls S0 hr hlk hC hl
  have S0 : CallFix p m c cX6_clear 2 s args wsX6_clear RX6 := S0
  have hl : lv_has ls 2 [(0, .ref oM.1)] := hl
  have hx := S0.1
  have hb := S0.2.1
  obtain ⟨H, hH⟩ : ∃ y, y = s.heap := ⟨_, rfl⟩
  rw [← hH] at hC ⊢
  obtain ⟨locs, hlo⟩ : ∃ y : List Loc, y = [] := ⟨_, rfl⟩
  rw [← hlo] at hC ⊢
  clear hH hlo
  unfold f_X6_clear at hf
  refine lv_aload_n hx hb dX6_clear_0 rfl (lv_at hl 0 rfl) ?_
  refine z_get S0 hC (ci := 6) (C := RX6) (T := TX6) (N := 17) (v := .int Mle) jX6_clear_X6 0 rfl rfl 7 (by decide) kX6_clear_125 rfl rfl dX6_clear_1 ?_
  refine lv_istore_n (lv' := [(1, .int Mle), (0, .ref oM.1)]) hx hb dX6_clear_4 rfl hl (by decide) rfl (fun ls hl => ?_)
  refine lv_aload_n hx hb dX6_clear_5 rfl (lv_at hl 1 rfl) ?_
  refine lv_iconst (v := 0) hx hb dX6_clear_6 (by decide) ?_
  refine z_put S0 hC (ci := 6) (C := RX6) (T := TX6) (N := 17) (v := .int 0) jX6_clear_X6 tyX6 tyX6_ok nmX6 0 rfl rfl 7 (by decide) kX6_clear_125 rfl rfl rfl rfl (Nat.le_of_ble_eq_true rfl) dX6_clear_7 (ws2 := (zwM c3.1 c3.2.2 oM (Ms, Mas, Mpa, Mkn, Mke, Mik, Mpp, 0, Mso, Mfz, Msp, Mfo, Mrd, Mrs, Mlt, Mfi, Mse))) rfl (fun H locs hC => ?_)
  refine lv_iload_n hx hb dX6_clear_10 rfl (lv_at hl 0 rfl) ?_
  obtain ⟨e1, e2⟩ := z_s2 hf
  subst e1
  subst e2
  exact z_iret S0 hr hlk hC dX6_clear_11

-- X6 here
def f_X6_here (Mpp : (Nat → Int32)) (Mle : Int32) (Msp : Int32) : Option (Int32) :=
  if Mle ≤ Msp then
    some (0)
  else
    (zald 60 Mpp Msp).bind fun x2 => some (x2)

theorem kX6_here_128 : Cond.fieldLink RX6 128 "ZoneSamplerModel" "spot" "I" ∈ wsX6_here := by decide +kernel
theorem kX6_here_125 : Cond.fieldLink RX6 125 "ZoneSamplerModel" "length" "I" ∈ wsX6_here := by decide +kernel
theorem kX6_here_22 : Cond.fieldLink RX6 22 "ZoneSamplerModel" "pad" "[I" ∈ wsX6_here := by decide +kernel
theorem jX6_here_X6 : ∀ w ∈ u_ws RX6 TX6 17, w ∈ wsX6_here := by decide +kernel
set_option maxHeartbeats 4000000 in
set_option maxRecDepth 100000 in
theorem c_X6_here (l : Launch) (G : va_G) (c3 : zT3) (oM : zR8) (BM : zMd) {r : Int32} (hf : f_X6_here BM.2.2.2.2.2.2.1 BM.2.2.2.2.2.2.2.1 BM.2.2.2.2.2.2.2.2.2.2.1 = some (r)) : zM l yX6_here wsX6_here ⟨0, 0, 0, 0⟩ G c3 (zwM c3.1 c3.2.2 oM (BM.1, BM.2.1, BM.2.2.1, BM.2.2.2.1, BM.2.2.2.2.1, BM.2.2.2.2.2.1, BM.2.2.2.2.2.2.1, BM.2.2.2.2.2.2.2.1, BM.2.2.2.2.2.2.2.2.1, BM.2.2.2.2.2.2.2.2.2.1, BM.2.2.2.2.2.2.2.2.2.2.1, BM.2.2.2.2.2.2.2.2.2.2.2.1, BM.2.2.2.2.2.2.2.2.2.2.2.2.1, BM.2.2.2.2.2.2.2.2.2.2.2.2.2.1, BM.2.2.2.2.2.2.2.2.2.2.2.2.2.2.1, BM.2.2.2.2.2.2.2.2.2.2.2.2.2.2.2.1, BM.2.2.2.2.2.2.2.2.2.2.2.2.2.2.2.2)) [.ref oM.1] (some (.int r)) (zwM c3.1 c3.2.2 oM (BM.1, BM.2.1, BM.2.2.1, BM.2.2.2.1, BM.2.2.2.2.1, BM.2.2.2.2.2.1, BM.2.2.2.2.2.2.1, BM.2.2.2.2.2.2.2.1, BM.2.2.2.2.2.2.2.2.1, BM.2.2.2.2.2.2.2.2.2.1, BM.2.2.2.2.2.2.2.2.2.2.1, BM.2.2.2.2.2.2.2.2.2.2.2.1, BM.2.2.2.2.2.2.2.2.2.2.2.2.1, BM.2.2.2.2.2.2.2.2.2.2.2.2.2.1, BM.2.2.2.2.2.2.2.2.2.2.2.2.2.2.1, BM.2.2.2.2.2.2.2.2.2.2.2.2.2.2.2.1, BM.2.2.2.2.2.2.2.2.2.2.2.2.2.2.2.2)) := by
  obtain ⟨Ms, Mas, Mpa, Mkn, Mke, Mik, Mpp, Mle, Mso, Mfz, Msp, Mfo, Mrd, Mrs, Mlt, Mfi, Mse⟩ := BM
  have hf : f_X6_here Mpp Mle Msp = some (r) := hf
  show zM l yX6_here wsX6_here ⟨0, 0, 0, 0⟩ G c3 (zwM c3.1 c3.2.2 oM (Ms, Mas, Mpa, Mkn, Mke, Mik, Mpp, Mle, Mso, Mfz, Msp, Mfo, Mrd, Mrs, Mlt, Mfi, Mse)) [.ref oM.1] (some (.int r)) (zwM c3.1 c3.2.2 oM (Ms, Mas, Mpa, Mkn, Mke, Mik, Mpp, Mle, Mso, Mfz, Msp, Mfo, Mrd, Mrs, Mlt, Mfi, Mse))
  refine zM.of (cc := cX6_here) (maxL := 1) (ret := (some .int)) (by decide) rfl (Nat.le_of_ble_eq_true rfl) ?_
  intro p e s m args below meth c A ls S0 hr hlk hC hl
  have S0 : CallFix p m c cX6_here 1 s args wsX6_here RX6 := S0
  have hl : lv_has ls 1 [(0, .ref oM.1)] := hl
  have hx := S0.1
  have hb := S0.2.1
  obtain ⟨H, hH⟩ : ∃ y, y = s.heap := ⟨_, rfl⟩
  rw [← hH] at hC ⊢
  obtain ⟨locs, hlo⟩ : ∃ y : List Loc, y = [] := ⟨_, rfl⟩
  rw [← hlo] at hC ⊢
  clear hH hlo
  unfold f_X6_here at hf
  refine lv_aload_n hx hb dX6_here_0 rfl (lv_at hl 0 rfl) ?_
  refine z_get S0 hC (ci := 6) (C := RX6) (T := TX6) (N := 17) (v := .int Msp) jX6_here_X6 0 rfl rfl 10 (by decide) kX6_here_128 rfl rfl dX6_here_1 ?_
  refine lv_aload_n hx hb dX6_here_4 rfl (lv_at hl 0 rfl) ?_
  refine z_get S0 hC (ci := 6) (C := RX6) (T := TX6) (N := 17) (v := .int Mle) jX6_here_X6 0 rfl rfl 7 (by decide) kX6_here_125 rfl rfl dX6_here_5 ?_
  refine lv_icmp_ge (tgt := 23) hx hb dX6_here_8 (by decide) (fun cd1 => ?_) (fun cd1 => ?_)
  · replace hf := z_pos cd1 hf
    refine lv_iconst (v := 0) hx hb dX6_here_23 (by decide) ?_
    have e1 := z_s1 hf
    subst e1
    exact z_iret S0 hr hlk hC dX6_here_24
  · replace hf := z_neg cd1 hf
    refine lv_aload_n hx hb dX6_here_11 rfl (lv_at hl 0 rfl) ?_
    refine z_get S0 hC (ci := 6) (C := RX6) (T := TX6) (N := 17) (v := .ref oM.2.2.2.2.2.1) jX6_here_X6 0 rfl rfl 6 (by decide) kX6_here_22 rfl rfl dX6_here_12 ?_
    refine lv_aload_n hx hb dX6_here_15 rfl (lv_at hl 0 rfl) ?_
    refine z_get S0 hC (ci := 6) (C := RX6) (T := TX6) (N := 17) (v := .int Msp) jX6_here_X6 0 rfl rfl 10 (by decide) kX6_here_128 rfl rfl dX6_here_16 ?_
    obtain ⟨x2, hx2, hf⟩ := z_bind hf
    refine z_iald S0 hC 5 rfl hx2 dX6_here_19 ?_
    refine lv_goto (tgt := 24) hx hb dX6_here_20 (by decide) ?_
    have e1 := z_s1 hf
    subst e1
    exact z_iret S0 hr hlk hC dX6_here_24

-- X6 takes
def f_X6_takes (Msp : Int32) (Mfo : Int32) (p1 : Int32) : Option (Int32 × Int32) :=
  Option.bind (α := Int32) (
    if Mfo = 0 then
      some (0)
    else
      if p1 = 0 then
        some (0)
      else
        some (1)
  ) fun t2 =>
    (zbool t2).bind fun _ => Option.bind (α := Int32) (
      if t2 = 0 then
        some (0)
      else
        some (1)
    ) fun t5 =>
      some ((Msp + t5), t2)

theorem kX6_takes_131 : Cond.fieldLink RX6 131 "ZoneSamplerModel" "isForm" "Z" ∈ wsX6_takes := by decide +kernel
theorem kX6_takes_128 : Cond.fieldLink RX6 128 "ZoneSamplerModel" "spot" "I" ∈ wsX6_takes := by decide +kernel
theorem jX6_takes_X6 : ∀ w ∈ u_ws RX6 TX6 17, w ∈ wsX6_takes := by decide +kernel
set_option maxHeartbeats 4000000 in
set_option maxRecDepth 100000 in
theorem c_X6_takes (l : Launch) (G : va_G) (c3 : zT3) (oM : zR8) (BM : zMd) (p1 : Int32) {Msp' : Int32} {Mfo' : Int32} (hf : f_X6_takes BM.2.2.2.2.2.2.2.2.2.2.1 BM.2.2.2.2.2.2.2.2.2.2.2.1 p1 = some (Msp', Mfo')) : zM l yX6_takes wsX6_takes ⟨0, 0, 0, 0⟩ G c3 (zwM c3.1 c3.2.2 oM (BM.1, BM.2.1, BM.2.2.1, BM.2.2.2.1, BM.2.2.2.2.1, BM.2.2.2.2.2.1, BM.2.2.2.2.2.2.1, BM.2.2.2.2.2.2.2.1, BM.2.2.2.2.2.2.2.2.1, BM.2.2.2.2.2.2.2.2.2.1, BM.2.2.2.2.2.2.2.2.2.2.1, BM.2.2.2.2.2.2.2.2.2.2.2.1, BM.2.2.2.2.2.2.2.2.2.2.2.2.1, BM.2.2.2.2.2.2.2.2.2.2.2.2.2.1, BM.2.2.2.2.2.2.2.2.2.2.2.2.2.2.1, BM.2.2.2.2.2.2.2.2.2.2.2.2.2.2.2.1, BM.2.2.2.2.2.2.2.2.2.2.2.2.2.2.2.2)) [.ref oM.1, .int p1] none (zwM c3.1 c3.2.2 oM (BM.1, BM.2.1, BM.2.2.1, BM.2.2.2.1, BM.2.2.2.2.1, BM.2.2.2.2.2.1, BM.2.2.2.2.2.2.1, BM.2.2.2.2.2.2.2.1, BM.2.2.2.2.2.2.2.2.1, BM.2.2.2.2.2.2.2.2.2.1, Msp', Mfo', BM.2.2.2.2.2.2.2.2.2.2.2.2.1, BM.2.2.2.2.2.2.2.2.2.2.2.2.2.1, BM.2.2.2.2.2.2.2.2.2.2.2.2.2.2.1, BM.2.2.2.2.2.2.2.2.2.2.2.2.2.2.2.1, BM.2.2.2.2.2.2.2.2.2.2.2.2.2.2.2.2)) := by
  obtain ⟨Ms, Mas, Mpa, Mkn, Mke, Mik, Mpp, Mle, Mso, Mfz, Msp, Mfo, Mrd, Mrs, Mlt, Mfi, Mse⟩ := BM
  have hf : f_X6_takes Msp Mfo p1 = some (Msp', Mfo') := hf
  show zM l yX6_takes wsX6_takes ⟨0, 0, 0, 0⟩ G c3 (zwM c3.1 c3.2.2 oM (Ms, Mas, Mpa, Mkn, Mke, Mik, Mpp, Mle, Mso, Mfz, Msp, Mfo, Mrd, Mrs, Mlt, Mfi, Mse)) [.ref oM.1, .int p1] none (zwM c3.1 c3.2.2 oM (Ms, Mas, Mpa, Mkn, Mke, Mik, Mpp, Mle, Mso, Mfz, Msp', Mfo', Mrd, Mrs, Mlt, Mfi, Mse))
  refine zM.of (cc := cX6_takes) (maxL := 2) (ret := none) (by decide) rfl (Nat.le_of_ble_eq_true rfl) ?_
  intro p e s m args below meth c A ls S0 hr hlk hC hl
  have S0 : CallFix p m c cX6_takes 2 s args wsX6_takes RX6 := S0
  have hl : lv_has ls 2 [(0, .ref oM.1), (1, .int p1)] := hl
  have hx := S0.1
  have hb := S0.2.1
  obtain ⟨H, hH⟩ : ∃ y, y = s.heap := ⟨_, rfl⟩
  rw [← hH] at hC ⊢
  obtain ⟨locs, hlo⟩ : ∃ y : List Loc, y = [] := ⟨_, rfl⟩
  rw [← hlo] at hC ⊢
  clear hH hlo
  unfold f_X6_takes at hf
  refine lv_aload_n hx hb dX6_takes_0 rfl (lv_at hl 0 rfl) ?_
  refine lv_aload_n hx hb dX6_takes_1 rfl (lv_at hl 0 rfl) ?_
  refine z_get S0 hC (ci := 6) (C := RX6) (T := TX6) (N := 17) (v := .int Mfo) jX6_takes_X6 0 rfl rfl 11 (by decide) kX6_takes_131 rfl rfl dX6_takes_2 ?_
  obtain ⟨t2, ht2, hf⟩ := z_bind hf
  have Jt2 : ∀ (H : Heap) (locs : List Loc) (ls : Array Slot), zC G c3 A s (zwM c3.1 c3.2.2 oM (Ms, Mas, Mpa, Mkn, Mke, Mik, Mpp, Mle, Mso, Mfz, Msp, Mfo, Mrd, Mrs, Mlt, Mfi, Mse)) H locs → lv_has ls 2 [(0, .ref oM.1), (1, .int p1)] → W p l e ⟨0, 0, 0, 0⟩ s m args below meth c H locs 0 0 (MQ below (zPost G (zwM c3.1 c3.2.2 oM (Ms, Mas, Mpa, Mkn, Mke, Mik, Mpp, Mle, Mso, Mfz, Msp', Mfo', Mrd, Mrs, Mlt, Mfi, Mse)) none A) args s 0 0 A) (F0 m 17 ls [.int t2, .ref oM.1]) := by
    intro H locs ls hC hl
    obtain ⟨w3, hw3, hf⟩ := z_bind hf
    refine z_put S0 hC (ci := 6) (C := RX6) (T := TX6) (N := 17) (v := .int t2) jX6_takes_X6 tyX6 tyX6_ok nmX6 0 rfl rfl 11 (by decide) kX6_takes_131 rfl rfl (zbool_spec hw3) (zbool_fits hw3) (Nat.le_of_ble_eq_true rfl) dX6_takes_17 (ws2 := (zwM c3.1 c3.2.2 oM (Ms, Mas, Mpa, Mkn, Mke, Mik, Mpp, Mle, Mso, Mfz, Msp, t2, Mrd, Mrs, Mlt, Mfi, Mse))) rfl (fun H locs hC => ?_)
    refine lv_aload_n hx hb dX6_takes_20 rfl (lv_at hl 0 rfl) ?_
    refine lv_dup hx hb dX6_takes_21 rfl ?_
    refine z_get S0 hC (ci := 6) (C := RX6) (T := TX6) (N := 17) (v := .int Msp) jX6_takes_X6 0 rfl rfl 10 (by decide) kX6_takes_128 rfl rfl dX6_takes_22 ?_
    refine lv_aload_n hx hb dX6_takes_25 rfl (lv_at hl 0 rfl) ?_
    refine z_get S0 hC (ci := 6) (C := RX6) (T := TX6) (N := 17) (v := .int t2) jX6_takes_X6 0 rfl rfl 11 (by decide) kX6_takes_131 rfl rfl dX6_takes_26 ?_
    obtain ⟨t5, ht5, hf⟩ := z_bind hf
    have Jt5 : ∀ (H : Heap) (locs : List Loc) (ls : Array Slot), zC G c3 A s (zwM c3.1 c3.2.2 oM (Ms, Mas, Mpa, Mkn, Mke, Mik, Mpp, Mle, Mso, Mfz, Msp, t2, Mrd, Mrs, Mlt, Mfi, Mse)) H locs → lv_has ls 2 [(0, .ref oM.1), (1, .int p1)] → W p l e ⟨0, 0, 0, 0⟩ s m args below meth c H locs 0 0 (MQ below (zPost G (zwM c3.1 c3.2.2 oM (Ms, Mas, Mpa, Mkn, Mke, Mik, Mpp, Mle, Mso, Mfz, Msp', Mfo', Mrd, Mrs, Mlt, Mfi, Mse)) none A) args s 0 0 A) (F0 m 37 ls [.int t5, .int Msp, .ref oM.1]) := by
      intro H locs ls hC hl
      refine lv_iadd hx hb dX6_takes_37 ?_
      refine z_put S0 hC (ci := 6) (C := RX6) (T := TX6) (N := 17) (v := .int (Msp + t5)) jX6_takes_X6 tyX6 tyX6_ok nmX6 0 rfl rfl 10 (by decide) kX6_takes_128 rfl rfl rfl rfl (Nat.le_of_ble_eq_true rfl) dX6_takes_38 (ws2 := (zwM c3.1 c3.2.2 oM (Ms, Mas, Mpa, Mkn, Mke, Mik, Mpp, Mle, Mso, Mfz, (Msp + t5), t2, Mrd, Mrs, Mlt, Mfi, Mse))) rfl (fun H locs hC => ?_)
      obtain ⟨e1, e2⟩ := z_s2 hf
      subst e1
      subst e2
      exact z_vret S0 hr hlk hC dX6_takes_41
    refine lv_if_eq (tgt := 36) hx hb dX6_takes_29 (by decide) (fun cd4 => ?_) (fun cd4 => ?_)
    · replace ht5 := z_pos cd4 ht5
      refine lv_iconst (v := 0) hx hb dX6_takes_36 (by decide) ?_
      have e1 := z_s1 ht5
      subst e1
      exact Jt5 H locs ls hC (lv_sub hl [0, 1] rfl)
    · replace ht5 := z_neg cd4 ht5
      refine lv_iconst (v := 1) hx hb dX6_takes_32 (by decide) ?_
      refine lv_goto (tgt := 37) hx hb dX6_takes_33 (by decide) ?_
      have e1 := z_s1 ht5
      subst e1
      exact Jt5 H locs ls hC (lv_sub hl [0, 1] rfl)
  refine lv_if_eq (tgt := 16) hx hb dX6_takes_5 (by decide) (fun cd1 => ?_) (fun cd1 => ?_)
  · replace ht2 := z_pos cd1 ht2
    refine lv_iconst (v := 0) hx hb dX6_takes_16 (by decide) ?_
    have e1 := z_s1 ht2
    subst e1
    exact Jt2 H locs ls hC (lv_sub hl [0, 1] rfl)
  · replace ht2 := z_neg cd1 ht2
    refine lv_iload_n hx hb dX6_takes_8 rfl (lv_at hl 1 rfl) ?_
    refine lv_if_eq (tgt := 16) hx hb dX6_takes_9 (by decide) (fun cd6 => ?_) (fun cd6 => ?_)
    · replace ht2 := z_pos cd6 ht2
      refine lv_iconst (v := 0) hx hb dX6_takes_16 (by decide) ?_
      have e1 := z_s1 ht2
      subst e1
      exact Jt2 H locs ls hC (lv_sub hl [0, 1] rfl)
    · replace ht2 := z_neg cd6 ht2
      refine lv_iconst (v := 1) hx hb dX6_takes_12 (by decide) ?_
      refine lv_goto (tgt := 17) hx hb dX6_takes_13 (by decide) ?_
      have e1 := z_s1 ht2
      subst e1
      exact Jt2 H locs ls hC (lv_sub hl [0, 1] rfl)

-- X6 canBegin
def f_X6_canBegin (p0 : Int32) (p1 : Int32) (p2 : Int32) : Option (Int32) :=
  Option.bind (α := Int32) (
    if (10 * p0) ≤ p1 then
      some (p1)
    else
      some ((10 * p0))
  ) fun t2 =>
    Option.bind (α := Int32) (
      if p2 ≤ ((10 * p0) + 9) then
        some (p2)
      else
        some (((10 * p0) + 9))
    ) fun t4 =>
      if p0 ≤ 0 then
        some (0)
      else
        if t4 < t2 then
          some (0)
        else
          some (1)

set_option maxHeartbeats 4000000 in
set_option maxRecDepth 100000 in
theorem c_X6_canBegin (l : Launch) (G : va_G) (c3 : zT3) (p0 : Int32) (p1 : Int32) (p2 : Int32) {r : Int32} (hf : f_X6_canBegin p0 p1 p2 = some (r)) : zM l yX6_canBegin wsX6_canBegin ⟨0, 0, 0, 0⟩ G c3 ([] : va_W) [.int p0, .int p1, .int p2] (some (.int r)) ([] : va_W) := by
  have hf : f_X6_canBegin p0 p1 p2 = some (r) := hf
  show zM l yX6_canBegin wsX6_canBegin ⟨0, 0, 0, 0⟩ G c3 ([] : va_W) [.int p0, .int p1, .int p2] (some (.int r)) ([] : va_W)
  refine zM.of (cc := cX6_canBegin) (maxL := 5) (ret := (some .boolean)) (by decide) rfl (Nat.le_of_ble_eq_true rfl) ?_
  intro p e s m args below meth c A ls S0 hr hlk hC hl
  have S0 : CallFix p m c cX6_canBegin 5 s args wsX6_canBegin RX6 := S0
  have hl : lv_has ls 5 [(0, .int p0), (1, .int p1), (2, .int p2)] := hl
  have hx := S0.1
  have hb := S0.2.1
  obtain ⟨H, hH⟩ : ∃ y, y = s.heap := ⟨_, rfl⟩
  rw [← hH] at hC ⊢
  obtain ⟨locs, hlo⟩ : ∃ y : List Loc, y = [] := ⟨_, rfl⟩
  rw [← hlo] at hC ⊢
  clear hH hlo
  unfold f_X6_canBegin at hf
  refine lv_bipush (v := 10) hx hb dX6_canBegin_0 (by decide) ?_
  refine lv_iload_n hx hb dX6_canBegin_2 rfl (lv_at hl 0 rfl) ?_
  refine lv_imul hx hb dX6_canBegin_3 ?_
  refine lv_iload_n hx hb dX6_canBegin_4 rfl (lv_at hl 1 rfl) ?_
  obtain ⟨t2, ht2, hf⟩ := z_bind hf
  have Jt2 : ∀ (H : Heap) (locs : List Loc) (ls : Array Slot), zC G c3 A s ([] : va_W) H locs → lv_has ls 5 [(0, .int p0), (1, .int p1), (2, .int p2)] → W p l e ⟨0, 0, 0, 0⟩ s m args below meth c H locs 0 0 (MQ below (zPost G ([] : va_W) (some (.int r)) A) args s 0 0 A) (F0 m 16 ls [.int t2]) := by
    intro H locs ls hC hl
    refine lv_istore_n (lv' := [(3, .int t2), (0, .int p0), (1, .int p1), (2, .int p2)]) hx hb dX6_canBegin_16 rfl hl (by decide) rfl (fun ls hl => ?_)
    refine lv_bipush (v := 10) hx hb dX6_canBegin_17 (by decide) ?_
    refine lv_iload_n hx hb dX6_canBegin_19 rfl (lv_at hl 1 rfl) ?_
    refine lv_imul hx hb dX6_canBegin_20 ?_
    refine lv_bipush (v := 9) hx hb dX6_canBegin_21 (by decide) ?_
    refine lv_iadd hx hb dX6_canBegin_23 ?_
    refine lv_iload_n hx hb dX6_canBegin_24 rfl (lv_at hl 3 rfl) ?_
    obtain ⟨t4, ht4, hf⟩ := z_bind hf
    have Jt4 : ∀ (H : Heap) (locs : List Loc) (ls : Array Slot), zC G c3 A s ([] : va_W) H locs → lv_has ls 5 [(0, .int p0), (1, .int p1), (2, .int p2), (3, .int t2)] → W p l e ⟨0, 0, 0, 0⟩ s m args below meth c H locs 0 0 (MQ below (zPost G ([] : va_W) (some (.int r)) A) args s 0 0 A) (F0 m 39 ls [.int t4]) := by
      intro H locs ls hC hl
      refine lv_istore (lv' := [(4, .int t4), (0, .int p0), (1, .int p1), (2, .int p2), (3, .int t2)]) hx hb dX6_canBegin_39 hl (by decide) rfl (fun ls hl => ?_)
      refine lv_iload_n hx hb dX6_canBegin_41 rfl (lv_at hl 1 rfl) ?_
      refine lv_if_le (tgt := 55) hx hb dX6_canBegin_42 (by decide) (fun cd5 => ?_) (fun cd5 => ?_)
      · replace hf := z_pos cd5 hf
        refine lv_iconst (v := 0) hx hb dX6_canBegin_55 (by decide) ?_
        have e1 := z_s1 hf
        subst e1
        exact z_zret S0 hr hlk rfl hC dX6_canBegin_56
      · replace hf := z_neg cd5 hf
        refine lv_iload_n hx hb dX6_canBegin_45 rfl (lv_at hl 4 rfl) ?_
        refine lv_iload hx hb dX6_canBegin_46 (lv_at hl 0 rfl) ?_
        refine lv_icmp_gt (tgt := 55) hx hb dX6_canBegin_48 (by decide) (fun cd6 => ?_) (fun cd6 => ?_)
        · replace hf := z_pos cd6 hf
          refine lv_iconst (v := 0) hx hb dX6_canBegin_55 (by decide) ?_
          have e1 := z_s1 hf
          subst e1
          exact z_zret S0 hr hlk rfl hC dX6_canBegin_56
        · replace hf := z_neg cd6 hf
          refine lv_iconst (v := 1) hx hb dX6_canBegin_51 (by decide) ?_
          refine lv_goto (tgt := 56) hx hb dX6_canBegin_52 (by decide) ?_
          have e1 := z_s1 hf
          subst e1
          exact z_zret S0 hr hlk rfl hC dX6_canBegin_56
    refine lv_icmp_ge (tgt := 38) hx hb dX6_canBegin_25 (by decide) (fun cd3 => ?_) (fun cd3 => ?_)
    · replace ht4 := z_pos cd3 ht4
      refine lv_iload_n hx hb dX6_canBegin_38 rfl (lv_at hl 3 rfl) ?_
      have e1 := z_s1 ht4
      subst e1
      exact Jt4 H locs ls hC (lv_sub hl [1, 2, 3, 0] rfl)
    · replace ht4 := z_neg cd3 ht4
      refine lv_bipush (v := 10) hx hb dX6_canBegin_28 (by decide) ?_
      refine lv_iload_n hx hb dX6_canBegin_30 rfl (lv_at hl 1 rfl) ?_
      refine lv_imul hx hb dX6_canBegin_31 ?_
      refine lv_bipush (v := 9) hx hb dX6_canBegin_32 (by decide) ?_
      refine lv_iadd hx hb dX6_canBegin_34 ?_
      refine lv_goto (tgt := 39) hx hb dX6_canBegin_35 (by decide) ?_
      have e1 := z_s1 ht4
      subst e1
      exact Jt4 H locs ls hC (lv_sub hl [1, 2, 3, 0] rfl)
  refine lv_icmp_le (tgt := 15) hx hb dX6_canBegin_5 (by decide) (fun cd1 => ?_) (fun cd1 => ?_)
  · replace ht2 := z_pos cd1 ht2
    refine lv_iload_n hx hb dX6_canBegin_15 rfl (lv_at hl 1 rfl) ?_
    have e1 := z_s1 ht2
    subst e1
    exact Jt2 H locs ls hC (lv_sub hl [0, 1, 2] rfl)
  · replace ht2 := z_neg cd1 ht2
    refine lv_bipush (v := 10) hx hb dX6_canBegin_8 (by decide) ?_
    refine lv_iload_n hx hb dX6_canBegin_10 rfl (lv_at hl 0 rfl) ?_
    refine lv_imul hx hb dX6_canBegin_11 ?_
    refine lv_goto (tgt := 16) hx hb dX6_canBegin_12 (by decide) ?_
    have e1 := z_s1 ht2
    subst e1
    exact Jt2 H locs ls hC (lv_sub hl [0, 1, 2] rfl)

-- X6 takesNumber
def f_X6_takesNumber (Mpp : (Nat → Int32)) (Mle : Int32) (Msp : Int32) (Mfo : Int32) (p1 : Int32) (p2 : Int32) : Option (Int32 × Int32 × Int32) :=
  (f_X6_here Mpp Mle Msp).bind fun r1 => (f_X6_in (r1 - 48) 0 9).bind fun r2 => Option.bind (α := Int32) (
    if r2 = 0 then
      some (0)
    else
      (f_X6_in (r1 - 48) p1 p2).bind fun r30 => if r30 = 0 then
        (f_X6_canBegin (r1 - 48) p1 p2).bind fun r32 => if r32 = 0 then
          some (0)
        else
          some (1)
      else
        some (1)
  ) fun t4 =>
    (f_X6_takes Msp Mfo t4).bind fun r5 => (f_X6_here Mpp Mle r5.1).bind fun r6 => if r5.2 = 0 then
      Option.bind (α := Int32) (
        if r5.2 = 0 then
          some (0)
        else
          if (r1 - 48) < p1 then
            some (0)
          else
            some (1)
      ) fun t9 =>
        (zbool t9).bind fun _ => some ((r1 - 48), r5.1, t9)
    else
      if (r1 - 48) ≤ 0 then
        Option.bind (α := Int32) (
          if r5.2 = 0 then
            some (0)
          else
            if (r1 - 48) < p1 then
              some (0)
            else
              some (1)
        ) fun t14 =>
          (zbool t14).bind fun _ => some ((r1 - 48), r5.1, t14)
      else
        (f_X6_here Mpp Mle r5.1).bind fun r17 => (f_X6_in r17 48 57).bind fun r18 => if r18 = 0 then
          Option.bind (α := Int32) (
            if r5.2 = 0 then
              some (0)
            else
              if (r1 - 48) < p1 then
                some (0)
              else
                some (1)
          ) fun t21 =>
            (zbool t21).bind fun _ => some ((r1 - 48), r5.1, t21)
        else
          (f_X6_in (((10 * (r1 - 48)) + r6) - 48) p1 p2).bind fun r24 => if r24 = 0 then
            Option.bind (α := Int32) (
              if r5.2 = 0 then
                some (0)
              else
                if (r1 - 48) < p1 then
                  some (0)
                else
                  some (1)
            ) fun t27 =>
              (zbool t27).bind fun _ => some ((r1 - 48), r5.1, t27)
          else
            some ((((10 * (r1 - 48)) + r6) - 48), (r5.1 + 1), r5.2)

theorem kX6_takesNumber_131 : Cond.fieldLink RX6 131 "ZoneSamplerModel" "isForm" "Z" ∈ wsX6_takesNumber := by decide +kernel
theorem kX6_takesNumber_128 : Cond.fieldLink RX6 128 "ZoneSamplerModel" "spot" "I" ∈ wsX6_takesNumber := by decide +kernel
theorem jX6_takesNumber_X6 : ∀ w ∈ u_ws RX6 TX6 17, w ∈ wsX6_takesNumber := by decide +kernel
set_option maxHeartbeats 4000000 in
set_option maxRecDepth 100000 in
theorem c_X6_takesNumber (l : Launch) (G : va_G) (c3 : zT3) (oM : zR8) (BM : zMd) (p1 : Int32) (p2 : Int32) {r : Int32} {Msp' : Int32} {Mfo' : Int32} (hf : f_X6_takesNumber BM.2.2.2.2.2.2.1 BM.2.2.2.2.2.2.2.1 BM.2.2.2.2.2.2.2.2.2.2.1 BM.2.2.2.2.2.2.2.2.2.2.2.1 p1 p2 = some (r, Msp', Mfo')) : zM l yX6_takesNumber wsX6_takesNumber ⟨1, 0, 0, 24⟩ G c3 (zwM c3.1 c3.2.2 oM (BM.1, BM.2.1, BM.2.2.1, BM.2.2.2.1, BM.2.2.2.2.1, BM.2.2.2.2.2.1, BM.2.2.2.2.2.2.1, BM.2.2.2.2.2.2.2.1, BM.2.2.2.2.2.2.2.2.1, BM.2.2.2.2.2.2.2.2.2.1, BM.2.2.2.2.2.2.2.2.2.2.1, BM.2.2.2.2.2.2.2.2.2.2.2.1, BM.2.2.2.2.2.2.2.2.2.2.2.2.1, BM.2.2.2.2.2.2.2.2.2.2.2.2.2.1, BM.2.2.2.2.2.2.2.2.2.2.2.2.2.2.1, BM.2.2.2.2.2.2.2.2.2.2.2.2.2.2.2.1, BM.2.2.2.2.2.2.2.2.2.2.2.2.2.2.2.2)) [.ref oM.1, .int p1, .int p2] (some (.int r)) (zwM c3.1 c3.2.2 oM (BM.1, BM.2.1, BM.2.2.1, BM.2.2.2.1, BM.2.2.2.2.1, BM.2.2.2.2.2.1, BM.2.2.2.2.2.2.1, BM.2.2.2.2.2.2.2.1, BM.2.2.2.2.2.2.2.2.1, BM.2.2.2.2.2.2.2.2.2.1, Msp', Mfo', BM.2.2.2.2.2.2.2.2.2.2.2.2.1, BM.2.2.2.2.2.2.2.2.2.2.2.2.2.1, BM.2.2.2.2.2.2.2.2.2.2.2.2.2.2.1, BM.2.2.2.2.2.2.2.2.2.2.2.2.2.2.2.1, BM.2.2.2.2.2.2.2.2.2.2.2.2.2.2.2.2)) := by
  obtain ⟨Ms, Mas, Mpa, Mkn, Mke, Mik, Mpp, Mle, Mso, Mfz, Msp, Mfo, Mrd, Mrs, Mlt, Mfi, Mse⟩ := BM
  have hf : f_X6_takesNumber Mpp Mle Msp Mfo p1 p2 = some (r, Msp', Mfo') := hf
  show zM l yX6_takesNumber wsX6_takesNumber ⟨1, 0, 0, 24⟩ G c3 (zwM c3.1 c3.2.2 oM (Ms, Mas, Mpa, Mkn, Mke, Mik, Mpp, Mle, Mso, Mfz, Msp, Mfo, Mrd, Mrs, Mlt, Mfi, Mse)) [.ref oM.1, .int p1, .int p2] (some (.int r)) (zwM c3.1 c3.2.2 oM (Ms, Mas, Mpa, Mkn, Mke, Mik, Mpp, Mle, Mso, Mfz, Msp', Mfo', Mrd, Mrs, Mlt, Mfi, Mse))
  refine zM.of (cc := cX6_takesNumber) (maxL := 5) (ret := (some .int)) (by decide) rfl (Nat.le_of_ble_eq_true rfl) ?_
  intro p e s m args below meth c A ls S0 hr hlk hC hl
  have S0 : CallFix p m c cX6_takesNumber 5 s args wsX6_takesNumber RX6 := S0
  have hl : lv_has ls 5 [(0, .ref oM.1), (1, .int p1), (2, .int p2)] := hl
  have hx := S0.1
  have hb := S0.2.1
  obtain ⟨H, hH⟩ : ∃ y, y = s.heap := ⟨_, rfl⟩
  rw [← hH] at hC ⊢
  obtain ⟨locs, hlo⟩ : ∃ y : List Loc, y = [] := ⟨_, rfl⟩
  rw [← hlo] at hC ⊢
  clear hH hlo
  unfold f_X6_takesNumber at hf
  refine lv_aload_n hx hb dX6_takesNumber_0 rfl (lv_at hl 0 rfl) ?_
  obtain ⟨r1, hr1, hf⟩ := z_bind hf
  refine z_callPi (z_runV (n := 0) (rest := []) (As := []) S0 hC (c_X6_here l G c3 oM (Ms, Mas, Mpa, Mkn, Mke, Mik, Mpp, Mle, Mso, Mfz, Msp, Mfo, Mrd, Mrs, Mlt, Mfi, Mse) hr1) [0, 1, 2, 3, 4, 5, 6, 7] (by decide) rfl gX6_takesNumber_X6_here rfl rfl rfl (by decide +kernel) ⟨Nat.le_of_ble_eq_true rfl, Nat.le_of_ble_eq_true rfl⟩ (ci := 6) (q0 := 0) rfl rfl rfl hl.1 rfl (Nat.le_of_ble_eq_true rfl) dX6_takesNumber_1) hC [0, 1, 2, 3, 4, 5, 6, 7] rfl (fun H locs hC => ?_)
  refine lv_bipush (v := 48) hx hb dX6_takesNumber_4 (by decide) ?_
  refine lv_isub hx hb dX6_takesNumber_6 ?_
  refine lv_istore_n (lv' := [(3, .int (r1 - 48)), (0, .ref oM.1), (1, .int p1), (2, .int p2)]) hx hb dX6_takesNumber_7 rfl hl (by decide) rfl (fun ls hl => ?_)
  refine lv_aload_n hx hb dX6_takesNumber_8 rfl (lv_at hl 1 rfl) ?_
  refine lv_iload_n hx hb dX6_takesNumber_9 rfl (lv_at hl 0 rfl) ?_
  refine lv_iconst (v := 0) hx hb dX6_takesNumber_10 (by decide) ?_
  refine lv_bipush (v := 9) hx hb dX6_takesNumber_11 (by decide) ?_
  obtain ⟨r2, hr2, hf⟩ := z_bind hf
  refine z_callPi (z_runS (n := 3) (rest := [.ref oM.1]) (As := [.int (r1 - 48), .int 0, .int 9]) S0 hC (c_X6_in l G c3 (r1 - 48) 0 9 hr2) [] (by decide) rfl gX6_takesNumber_X6_in rfl rfl rfl (by decide +kernel) ⟨Nat.le_of_ble_eq_true rfl, Nat.le_of_ble_eq_true rfl⟩ rfl hl.1 rfl (Nat.le_of_ble_eq_true rfl) dX6_takesNumber_13) hC [] rfl (fun H locs hC => ?_)
  obtain ⟨t4, ht4, hf⟩ := z_bind hf
  have Jt4 : ∀ (H : Heap) (locs : List Loc) (ls : Array Slot), zC G c3 A s (zwM c3.1 c3.2.2 oM (Ms, Mas, Mpa, Mkn, Mke, Mik, Mpp, Mle, Mso, Mfz, Msp, Mfo, Mrd, Mrs, Mlt, Mfi, Mse)) H locs → lv_has ls 5 [(0, .ref oM.1), (1, .int p1), (2, .int p2), (3, .int (r1 - 48))] → W p l e ⟨1, 0, 0, 24⟩ s m args below meth c H locs 0 0 (MQ below (zPost G (zwM c3.1 c3.2.2 oM (Ms, Mas, Mpa, Mkn, Mke, Mik, Mpp, Mle, Mso, Mfz, Msp', Mfo', Mrd, Mrs, Mlt, Mfi, Mse)) (some (.int r)) A) args s 0 0 A) (F0 m 42 ls [.int t4, .ref oM.1]) := by
    intro H locs ls hC hl
    obtain ⟨r5, hr5, hf⟩ := z_bind hf
    refine z_callv (z_runV (n := 1) (rest := []) (As := [.int t4]) S0 hC (c_X6_takes l G c3 oM (Ms, Mas, Mpa, Mkn, Mke, Mik, Mpp, Mle, Mso, Mfz, Msp, Mfo, Mrd, Mrs, Mlt, Mfi, Mse) t4 hr5) [0, 1, 2, 3, 4, 5, 6, 7] (by decide) rfl gX6_takesNumber_X6_takes rfl rfl rfl (by decide +kernel) ⟨Nat.le_of_ble_eq_true rfl, Nat.le_of_ble_eq_true rfl⟩ (ci := 6) (q0 := 0) rfl rfl rfl hl.1 rfl (Nat.le_of_ble_eq_true rfl) dX6_takesNumber_42) hC [0, 1, 2, 3, 4, 5, 6, 7] [] [0, 1, 2, 3, 4, 5, 6, 7] rfl (wr := ([] : va_W)) rfl (by decide) (by decide) (ws2 := (zwM c3.1 c3.2.2 oM (Ms, Mas, Mpa, Mkn, Mke, Mik, Mpp, Mle, Mso, Mfz, r5.1, r5.2, Mrd, Mrs, Mlt, Mfi, Mse))) rfl (by decide) (fun H locs hC => ?_)
    refine lv_bipush (v := 10) hx hb dX6_takesNumber_45 (by decide) ?_
    refine lv_iload_n hx hb dX6_takesNumber_47 rfl (lv_at hl 3 rfl) ?_
    refine lv_imul hx hb dX6_takesNumber_48 ?_
    refine lv_aload_n hx hb dX6_takesNumber_49 rfl (lv_at hl 0 rfl) ?_
    obtain ⟨r6, hr6, hf⟩ := z_bind hf
    refine z_callPi (z_runV (n := 0) (rest := [.int (10 * (r1 - 48))]) (As := []) S0 hC (c_X6_here l G c3 oM (Ms, Mas, Mpa, Mkn, Mke, Mik, Mpp, Mle, Mso, Mfz, r5.1, r5.2, Mrd, Mrs, Mlt, Mfi, Mse) hr6) [0, 1, 2, 3, 4, 5, 6, 7] (by decide) rfl gX6_takesNumber_X6_here rfl rfl rfl (by decide +kernel) ⟨Nat.le_of_ble_eq_true rfl, Nat.le_of_ble_eq_true rfl⟩ (ci := 6) (q0 := 0) rfl rfl rfl hl.1 rfl (Nat.le_of_ble_eq_true rfl) dX6_takesNumber_50) hC [0, 1, 2, 3, 4, 5, 6, 7] rfl (fun H locs hC => ?_)
    refine lv_iadd hx hb dX6_takesNumber_53 ?_
    refine lv_bipush (v := 48) hx hb dX6_takesNumber_54 (by decide) ?_
    refine lv_isub hx hb dX6_takesNumber_56 ?_
    refine lv_istore (lv' := [(4, .int (((10 * (r1 - 48)) + r6) - 48)), (0, .ref oM.1), (1, .int p1), (2, .int p2), (3, .int (r1 - 48))]) hx hb dX6_takesNumber_57 hl (by decide) rfl (fun ls hl => ?_)
    refine lv_aload_n hx hb dX6_takesNumber_59 rfl (lv_at hl 1 rfl) ?_
    refine z_get S0 hC (ci := 6) (C := RX6) (T := TX6) (N := 17) (v := .int r5.2) jX6_takesNumber_X6 0 rfl rfl 11 (by decide) kX6_takesNumber_131 rfl rfl dX6_takesNumber_60 ?_
    refine lv_if_eq (tgt := 107) hx hb dX6_takesNumber_63 (by decide) (fun cd7 => ?_) (fun cd7 => ?_)
    · replace hf := z_pos cd7 hf
      refine lv_aload_n hx hb dX6_takesNumber_107 rfl (lv_at hl 1 rfl) ?_
      refine lv_aload_n hx hb dX6_takesNumber_108 rfl (lv_at hl 1 rfl) ?_
      refine z_get S0 hC (ci := 6) (C := RX6) (T := TX6) (N := 17) (v := .int r5.2) jX6_takesNumber_X6 0 rfl rfl 11 (by decide) kX6_takesNumber_131 rfl rfl dX6_takesNumber_109 ?_
      obtain ⟨t9, ht9, hf⟩ := z_bind hf
      have Jt9 : ∀ (H : Heap) (locs : List Loc) (ls : Array Slot), zC G c3 A s (zwM c3.1 c3.2.2 oM (Ms, Mas, Mpa, Mkn, Mke, Mik, Mpp, Mle, Mso, Mfz, r5.1, r5.2, Mrd, Mrs, Mlt, Mfi, Mse)) H locs → lv_has ls 5 [(0, .ref oM.1), (1, .int p1), (2, .int p2), (3, .int (r1 - 48)), (4, .int (((10 * (r1 - 48)) + r6) - 48))] → W p l e ⟨1, 0, 0, 24⟩ s m args below meth c H locs 0 0 (MQ below (zPost G (zwM c3.1 c3.2.2 oM (Ms, Mas, Mpa, Mkn, Mke, Mik, Mpp, Mle, Mso, Mfz, Msp', Mfo', Mrd, Mrs, Mlt, Mfi, Mse)) (some (.int r)) A) args s 0 0 A) (F0 m 125 ls [.int t9, .ref oM.1]) := by
        intro H locs ls hC hl
        obtain ⟨w10, hw10, hf⟩ := z_bind hf
        refine z_put S0 hC (ci := 6) (C := RX6) (T := TX6) (N := 17) (v := .int t9) jX6_takesNumber_X6 tyX6 tyX6_ok nmX6 0 rfl rfl 11 (by decide) kX6_takesNumber_131 rfl rfl (zbool_spec hw10) (zbool_fits hw10) (Nat.le_of_ble_eq_true rfl) dX6_takesNumber_125 (ws2 := (zwM c3.1 c3.2.2 oM (Ms, Mas, Mpa, Mkn, Mke, Mik, Mpp, Mle, Mso, Mfz, r5.1, t9, Mrd, Mrs, Mlt, Mfi, Mse))) rfl (fun H locs hC => ?_)
        refine lv_iload_n hx hb dX6_takesNumber_128 rfl (lv_at hl 3 rfl) ?_
        obtain ⟨e1, e2, e3⟩ := z_s3 hf
        subst e1
        subst e2
        subst e3
        exact z_iret S0 hr hlk hC dX6_takesNumber_129
      refine lv_if_eq (tgt := 124) hx hb dX6_takesNumber_112 (by decide) (fun cd8 => ?_) (fun cd8 => ?_)
      · replace ht9 := z_pos cd8 ht9
        refine lv_iconst (v := 0) hx hb dX6_takesNumber_124 (by decide) ?_
        have e1 := z_s1 ht9
        subst e1
        exact Jt9 H locs ls hC (lv_sub hl [1, 2, 3, 4, 0] rfl)
      · replace ht9 := z_neg cd8 ht9
        refine lv_iload_n hx hb dX6_takesNumber_115 rfl (lv_at hl 4 rfl) ?_
        refine lv_iload_n hx hb dX6_takesNumber_116 rfl (lv_at hl 2 rfl) ?_
        refine lv_icmp_lt (tgt := 124) hx hb dX6_takesNumber_117 (by decide) (fun cd11 => ?_) (fun cd11 => ?_)
        · replace ht9 := z_pos cd11 ht9
          refine lv_iconst (v := 0) hx hb dX6_takesNumber_124 (by decide) ?_
          have e1 := z_s1 ht9
          subst e1
          exact Jt9 H locs ls hC (lv_sub hl [1, 2, 3, 4, 0] rfl)
        · replace ht9 := z_neg cd11 ht9
          refine lv_iconst (v := 1) hx hb dX6_takesNumber_120 (by decide) ?_
          refine lv_goto (tgt := 125) hx hb dX6_takesNumber_121 (by decide) ?_
          have e1 := z_s1 ht9
          subst e1
          exact Jt9 H locs ls hC (lv_sub hl [1, 2, 3, 4, 0] rfl)
    · replace hf := z_neg cd7 hf
      refine lv_iload_n hx hb dX6_takesNumber_66 rfl (lv_at hl 4 rfl) ?_
      refine lv_if_le (tgt := 107) hx hb dX6_takesNumber_67 (by decide) (fun cd12 => ?_) (fun cd12 => ?_)
      · replace hf := z_pos cd12 hf
        refine lv_aload_n hx hb dX6_takesNumber_107 rfl (lv_at hl 1 rfl) ?_
        refine lv_aload_n hx hb dX6_takesNumber_108 rfl (lv_at hl 1 rfl) ?_
        refine z_get S0 hC (ci := 6) (C := RX6) (T := TX6) (N := 17) (v := .int r5.2) jX6_takesNumber_X6 0 rfl rfl 11 (by decide) kX6_takesNumber_131 rfl rfl dX6_takesNumber_109 ?_
        obtain ⟨t14, ht14, hf⟩ := z_bind hf
        have Jt14 : ∀ (H : Heap) (locs : List Loc) (ls : Array Slot), zC G c3 A s (zwM c3.1 c3.2.2 oM (Ms, Mas, Mpa, Mkn, Mke, Mik, Mpp, Mle, Mso, Mfz, r5.1, r5.2, Mrd, Mrs, Mlt, Mfi, Mse)) H locs → lv_has ls 5 [(0, .ref oM.1), (1, .int p1), (2, .int p2), (3, .int (r1 - 48)), (4, .int (((10 * (r1 - 48)) + r6) - 48))] → W p l e ⟨1, 0, 0, 24⟩ s m args below meth c H locs 0 0 (MQ below (zPost G (zwM c3.1 c3.2.2 oM (Ms, Mas, Mpa, Mkn, Mke, Mik, Mpp, Mle, Mso, Mfz, Msp', Mfo', Mrd, Mrs, Mlt, Mfi, Mse)) (some (.int r)) A) args s 0 0 A) (F0 m 125 ls [.int t14, .ref oM.1]) := by
          intro H locs ls hC hl
          obtain ⟨w15, hw15, hf⟩ := z_bind hf
          refine z_put S0 hC (ci := 6) (C := RX6) (T := TX6) (N := 17) (v := .int t14) jX6_takesNumber_X6 tyX6 tyX6_ok nmX6 0 rfl rfl 11 (by decide) kX6_takesNumber_131 rfl rfl (zbool_spec hw15) (zbool_fits hw15) (Nat.le_of_ble_eq_true rfl) dX6_takesNumber_125 (ws2 := (zwM c3.1 c3.2.2 oM (Ms, Mas, Mpa, Mkn, Mke, Mik, Mpp, Mle, Mso, Mfz, r5.1, t14, Mrd, Mrs, Mlt, Mfi, Mse))) rfl (fun H locs hC => ?_)
          refine lv_iload_n hx hb dX6_takesNumber_128 rfl (lv_at hl 3 rfl) ?_
          obtain ⟨e1, e2, e3⟩ := z_s3 hf
          subst e1
          subst e2
          subst e3
          exact z_iret S0 hr hlk hC dX6_takesNumber_129
        refine lv_if_eq (tgt := 124) hx hb dX6_takesNumber_112 (by decide) (fun cd13 => ?_) (fun cd13 => ?_)
        · replace ht14 := z_pos cd13 ht14
          refine lv_iconst (v := 0) hx hb dX6_takesNumber_124 (by decide) ?_
          have e1 := z_s1 ht14
          subst e1
          exact Jt14 H locs ls hC (lv_sub hl [1, 2, 3, 4, 0] rfl)
        · replace ht14 := z_neg cd13 ht14
          refine lv_iload_n hx hb dX6_takesNumber_115 rfl (lv_at hl 4 rfl) ?_
          refine lv_iload_n hx hb dX6_takesNumber_116 rfl (lv_at hl 2 rfl) ?_
          refine lv_icmp_lt (tgt := 124) hx hb dX6_takesNumber_117 (by decide) (fun cd16 => ?_) (fun cd16 => ?_)
          · replace ht14 := z_pos cd16 ht14
            refine lv_iconst (v := 0) hx hb dX6_takesNumber_124 (by decide) ?_
            have e1 := z_s1 ht14
            subst e1
            exact Jt14 H locs ls hC (lv_sub hl [1, 2, 3, 4, 0] rfl)
          · replace ht14 := z_neg cd16 ht14
            refine lv_iconst (v := 1) hx hb dX6_takesNumber_120 (by decide) ?_
            refine lv_goto (tgt := 125) hx hb dX6_takesNumber_121 (by decide) ?_
            have e1 := z_s1 ht14
            subst e1
            exact Jt14 H locs ls hC (lv_sub hl [1, 2, 3, 4, 0] rfl)
      · replace hf := z_neg cd12 hf
        refine lv_aload_n hx hb dX6_takesNumber_70 rfl (lv_at hl 1 rfl) ?_
        obtain ⟨r17, hr17, hf⟩ := z_bind hf
        refine z_callPi (z_runV (n := 0) (rest := []) (As := []) S0 hC (c_X6_here l G c3 oM (Ms, Mas, Mpa, Mkn, Mke, Mik, Mpp, Mle, Mso, Mfz, r5.1, r5.2, Mrd, Mrs, Mlt, Mfi, Mse) hr17) [0, 1, 2, 3, 4, 5, 6, 7] (by decide) rfl gX6_takesNumber_X6_here rfl rfl rfl (by decide +kernel) ⟨Nat.le_of_ble_eq_true rfl, Nat.le_of_ble_eq_true rfl⟩ (ci := 6) (q0 := 0) rfl rfl rfl hl.1 rfl (Nat.le_of_ble_eq_true rfl) dX6_takesNumber_71) hC [0, 1, 2, 3, 4, 5, 6, 7] rfl (fun H locs hC => ?_)
        refine lv_bipush (v := 48) hx hb dX6_takesNumber_74 (by decide) ?_
        refine lv_bipush (v := 57) hx hb dX6_takesNumber_76 (by decide) ?_
        obtain ⟨r18, hr18, hf⟩ := z_bind hf
        refine z_callPi (z_runS (n := 3) (rest := []) (As := [.int r17, .int 48, .int 57]) S0 hC (c_X6_in l G c3 r17 48 57 hr18) [] (by decide) rfl gX6_takesNumber_X6_in rfl rfl rfl (by decide +kernel) ⟨Nat.le_of_ble_eq_true rfl, Nat.le_of_ble_eq_true rfl⟩ rfl hl.1 rfl (Nat.le_of_ble_eq_true rfl) dX6_takesNumber_78) hC [] rfl (fun H locs hC => ?_)
        refine lv_if_eq (tgt := 107) hx hb dX6_takesNumber_81 (by decide) (fun cd19 => ?_) (fun cd19 => ?_)
        · replace hf := z_pos cd19 hf
          refine lv_aload_n hx hb dX6_takesNumber_107 rfl (lv_at hl 1 rfl) ?_
          refine lv_aload_n hx hb dX6_takesNumber_108 rfl (lv_at hl 1 rfl) ?_
          refine z_get S0 hC (ci := 6) (C := RX6) (T := TX6) (N := 17) (v := .int r5.2) jX6_takesNumber_X6 0 rfl rfl 11 (by decide) kX6_takesNumber_131 rfl rfl dX6_takesNumber_109 ?_
          obtain ⟨t21, ht21, hf⟩ := z_bind hf
          have Jt21 : ∀ (H : Heap) (locs : List Loc) (ls : Array Slot), zC G c3 A s (zwM c3.1 c3.2.2 oM (Ms, Mas, Mpa, Mkn, Mke, Mik, Mpp, Mle, Mso, Mfz, r5.1, r5.2, Mrd, Mrs, Mlt, Mfi, Mse)) H locs → lv_has ls 5 [(0, .ref oM.1), (1, .int p1), (2, .int p2), (3, .int (r1 - 48)), (4, .int (((10 * (r1 - 48)) + r6) - 48))] → W p l e ⟨1, 0, 0, 24⟩ s m args below meth c H locs 0 0 (MQ below (zPost G (zwM c3.1 c3.2.2 oM (Ms, Mas, Mpa, Mkn, Mke, Mik, Mpp, Mle, Mso, Mfz, Msp', Mfo', Mrd, Mrs, Mlt, Mfi, Mse)) (some (.int r)) A) args s 0 0 A) (F0 m 125 ls [.int t21, .ref oM.1]) := by
            intro H locs ls hC hl
            obtain ⟨w22, hw22, hf⟩ := z_bind hf
            refine z_put S0 hC (ci := 6) (C := RX6) (T := TX6) (N := 17) (v := .int t21) jX6_takesNumber_X6 tyX6 tyX6_ok nmX6 0 rfl rfl 11 (by decide) kX6_takesNumber_131 rfl rfl (zbool_spec hw22) (zbool_fits hw22) (Nat.le_of_ble_eq_true rfl) dX6_takesNumber_125 (ws2 := (zwM c3.1 c3.2.2 oM (Ms, Mas, Mpa, Mkn, Mke, Mik, Mpp, Mle, Mso, Mfz, r5.1, t21, Mrd, Mrs, Mlt, Mfi, Mse))) rfl (fun H locs hC => ?_)
            refine lv_iload_n hx hb dX6_takesNumber_128 rfl (lv_at hl 3 rfl) ?_
            obtain ⟨e1, e2, e3⟩ := z_s3 hf
            subst e1
            subst e2
            subst e3
            exact z_iret S0 hr hlk hC dX6_takesNumber_129
          refine lv_if_eq (tgt := 124) hx hb dX6_takesNumber_112 (by decide) (fun cd20 => ?_) (fun cd20 => ?_)
          · replace ht21 := z_pos cd20 ht21
            refine lv_iconst (v := 0) hx hb dX6_takesNumber_124 (by decide) ?_
            have e1 := z_s1 ht21
            subst e1
            exact Jt21 H locs ls hC (lv_sub hl [1, 2, 3, 4, 0] rfl)
          · replace ht21 := z_neg cd20 ht21
            refine lv_iload_n hx hb dX6_takesNumber_115 rfl (lv_at hl 4 rfl) ?_
            refine lv_iload_n hx hb dX6_takesNumber_116 rfl (lv_at hl 2 rfl) ?_
            refine lv_icmp_lt (tgt := 124) hx hb dX6_takesNumber_117 (by decide) (fun cd23 => ?_) (fun cd23 => ?_)
            · replace ht21 := z_pos cd23 ht21
              refine lv_iconst (v := 0) hx hb dX6_takesNumber_124 (by decide) ?_
              have e1 := z_s1 ht21
              subst e1
              exact Jt21 H locs ls hC (lv_sub hl [1, 2, 3, 4, 0] rfl)
            · replace ht21 := z_neg cd23 ht21
              refine lv_iconst (v := 1) hx hb dX6_takesNumber_120 (by decide) ?_
              refine lv_goto (tgt := 125) hx hb dX6_takesNumber_121 (by decide) ?_
              have e1 := z_s1 ht21
              subst e1
              exact Jt21 H locs ls hC (lv_sub hl [1, 2, 3, 4, 0] rfl)
        · replace hf := z_neg cd19 hf
          refine lv_iload hx hb dX6_takesNumber_84 (lv_at hl 0 rfl) ?_
          refine lv_iload_n hx hb dX6_takesNumber_86 rfl (lv_at hl 2 rfl) ?_
          refine lv_iload_n hx hb dX6_takesNumber_87 rfl (lv_at hl 3 rfl) ?_
          obtain ⟨r24, hr24, hf⟩ := z_bind hf
          refine z_callPi (z_runS (n := 3) (rest := []) (As := [.int (((10 * (r1 - 48)) + r6) - 48), .int p1, .int p2]) S0 hC (c_X6_in l G c3 (((10 * (r1 - 48)) + r6) - 48) p1 p2 hr24) [] (by decide) rfl gX6_takesNumber_X6_in rfl rfl rfl (by decide +kernel) ⟨Nat.le_of_ble_eq_true rfl, Nat.le_of_ble_eq_true rfl⟩ rfl hl.1 rfl (Nat.le_of_ble_eq_true rfl) dX6_takesNumber_88) hC [] rfl (fun H locs hC => ?_)
          refine lv_if_eq (tgt := 107) hx hb dX6_takesNumber_91 (by decide) (fun cd25 => ?_) (fun cd25 => ?_)
          · replace hf := z_pos cd25 hf
            refine lv_aload_n hx hb dX6_takesNumber_107 rfl (lv_at hl 1 rfl) ?_
            refine lv_aload_n hx hb dX6_takesNumber_108 rfl (lv_at hl 1 rfl) ?_
            refine z_get S0 hC (ci := 6) (C := RX6) (T := TX6) (N := 17) (v := .int r5.2) jX6_takesNumber_X6 0 rfl rfl 11 (by decide) kX6_takesNumber_131 rfl rfl dX6_takesNumber_109 ?_
            obtain ⟨t27, ht27, hf⟩ := z_bind hf
            have Jt27 : ∀ (H : Heap) (locs : List Loc) (ls : Array Slot), zC G c3 A s (zwM c3.1 c3.2.2 oM (Ms, Mas, Mpa, Mkn, Mke, Mik, Mpp, Mle, Mso, Mfz, r5.1, r5.2, Mrd, Mrs, Mlt, Mfi, Mse)) H locs → lv_has ls 5 [(0, .ref oM.1), (1, .int p1), (2, .int p2), (3, .int (r1 - 48)), (4, .int (((10 * (r1 - 48)) + r6) - 48))] → W p l e ⟨1, 0, 0, 24⟩ s m args below meth c H locs 0 0 (MQ below (zPost G (zwM c3.1 c3.2.2 oM (Ms, Mas, Mpa, Mkn, Mke, Mik, Mpp, Mle, Mso, Mfz, Msp', Mfo', Mrd, Mrs, Mlt, Mfi, Mse)) (some (.int r)) A) args s 0 0 A) (F0 m 125 ls [.int t27, .ref oM.1]) := by
              intro H locs ls hC hl
              obtain ⟨w28, hw28, hf⟩ := z_bind hf
              refine z_put S0 hC (ci := 6) (C := RX6) (T := TX6) (N := 17) (v := .int t27) jX6_takesNumber_X6 tyX6 tyX6_ok nmX6 0 rfl rfl 11 (by decide) kX6_takesNumber_131 rfl rfl (zbool_spec hw28) (zbool_fits hw28) (Nat.le_of_ble_eq_true rfl) dX6_takesNumber_125 (ws2 := (zwM c3.1 c3.2.2 oM (Ms, Mas, Mpa, Mkn, Mke, Mik, Mpp, Mle, Mso, Mfz, r5.1, t27, Mrd, Mrs, Mlt, Mfi, Mse))) rfl (fun H locs hC => ?_)
              refine lv_iload_n hx hb dX6_takesNumber_128 rfl (lv_at hl 3 rfl) ?_
              obtain ⟨e1, e2, e3⟩ := z_s3 hf
              subst e1
              subst e2
              subst e3
              exact z_iret S0 hr hlk hC dX6_takesNumber_129
            refine lv_if_eq (tgt := 124) hx hb dX6_takesNumber_112 (by decide) (fun cd26 => ?_) (fun cd26 => ?_)
            · replace ht27 := z_pos cd26 ht27
              refine lv_iconst (v := 0) hx hb dX6_takesNumber_124 (by decide) ?_
              have e1 := z_s1 ht27
              subst e1
              exact Jt27 H locs ls hC (lv_sub hl [1, 2, 3, 4, 0] rfl)
            · replace ht27 := z_neg cd26 ht27
              refine lv_iload_n hx hb dX6_takesNumber_115 rfl (lv_at hl 4 rfl) ?_
              refine lv_iload_n hx hb dX6_takesNumber_116 rfl (lv_at hl 2 rfl) ?_
              refine lv_icmp_lt (tgt := 124) hx hb dX6_takesNumber_117 (by decide) (fun cd29 => ?_) (fun cd29 => ?_)
              · replace ht27 := z_pos cd29 ht27
                refine lv_iconst (v := 0) hx hb dX6_takesNumber_124 (by decide) ?_
                have e1 := z_s1 ht27
                subst e1
                exact Jt27 H locs ls hC (lv_sub hl [1, 2, 3, 4, 0] rfl)
              · replace ht27 := z_neg cd29 ht27
                refine lv_iconst (v := 1) hx hb dX6_takesNumber_120 (by decide) ?_
                refine lv_goto (tgt := 125) hx hb dX6_takesNumber_121 (by decide) ?_
                have e1 := z_s1 ht27
                subst e1
                exact Jt27 H locs ls hC (lv_sub hl [1, 2, 3, 4, 0] rfl)
          · replace hf := z_neg cd25 hf
            refine lv_aload_n hx hb dX6_takesNumber_94 rfl (lv_at hl 1 rfl) ?_
            refine lv_dup hx hb dX6_takesNumber_95 rfl ?_
            refine z_get S0 hC (ci := 6) (C := RX6) (T := TX6) (N := 17) (v := .int r5.1) jX6_takesNumber_X6 0 rfl rfl 10 (by decide) kX6_takesNumber_128 rfl rfl dX6_takesNumber_96 ?_
            refine lv_iconst (v := 1) hx hb dX6_takesNumber_99 (by decide) ?_
            refine lv_iadd hx hb dX6_takesNumber_100 ?_
            refine z_put S0 hC (ci := 6) (C := RX6) (T := TX6) (N := 17) (v := .int (r5.1 + 1)) jX6_takesNumber_X6 tyX6 tyX6_ok nmX6 0 rfl rfl 10 (by decide) kX6_takesNumber_128 rfl rfl rfl rfl (Nat.le_of_ble_eq_true rfl) dX6_takesNumber_101 (ws2 := (zwM c3.1 c3.2.2 oM (Ms, Mas, Mpa, Mkn, Mke, Mik, Mpp, Mle, Mso, Mfz, (r5.1 + 1), r5.2, Mrd, Mrs, Mlt, Mfi, Mse))) rfl (fun H locs hC => ?_)
            refine lv_iload hx hb dX6_takesNumber_104 (lv_at hl 0 rfl) ?_
            obtain ⟨e1, e2, e3⟩ := z_s3 hf
            subst e1
            subst e2
            subst e3
            exact z_iret S0 hr hlk hC dX6_takesNumber_106
  refine lv_if_eq (tgt := 41) hx hb dX6_takesNumber_16 (by decide) (fun cd3 => ?_) (fun cd3 => ?_)
  · replace ht4 := z_pos cd3 ht4
    refine lv_iconst (v := 0) hx hb dX6_takesNumber_41 (by decide) ?_
    have e1 := z_s1 ht4
    subst e1
    exact Jt4 H locs ls hC (lv_sub hl [1, 2, 3, 0] rfl)
  · replace ht4 := z_neg cd3 ht4
    refine lv_iload_n hx hb dX6_takesNumber_19 rfl (lv_at hl 0 rfl) ?_
    refine lv_iload_n hx hb dX6_takesNumber_20 rfl (lv_at hl 2 rfl) ?_
    refine lv_iload_n hx hb dX6_takesNumber_21 rfl (lv_at hl 3 rfl) ?_
    obtain ⟨r30, hr30, ht4⟩ := z_bind ht4
    refine z_callPi (z_runS (n := 3) (rest := [.ref oM.1]) (As := [.int (r1 - 48), .int p1, .int p2]) S0 hC (c_X6_in l G c3 (r1 - 48) p1 p2 hr30) [] (by decide) rfl gX6_takesNumber_X6_in rfl rfl rfl (by decide +kernel) ⟨Nat.le_of_ble_eq_true rfl, Nat.le_of_ble_eq_true rfl⟩ rfl hl.1 rfl (Nat.le_of_ble_eq_true rfl) dX6_takesNumber_22) hC [] rfl (fun H locs hC => ?_)
    refine lv_if_ne (tgt := 37) hx hb dX6_takesNumber_25 (by decide) (fun cd31 => ?_) (fun cd31 => ?_)
    · replace ht4 := z_neg cd31 ht4
      refine lv_iconst (v := 1) hx hb dX6_takesNumber_37 (by decide) ?_
      refine lv_goto (tgt := 42) hx hb dX6_takesNumber_38 (by decide) ?_
      have e1 := z_s1 ht4
      subst e1
      exact Jt4 H locs ls hC (lv_sub hl [1, 2, 3, 0] rfl)
    · replace ht4 := z_pos cd31 ht4
      refine lv_iload_n hx hb dX6_takesNumber_28 rfl (lv_at hl 0 rfl) ?_
      refine lv_iload_n hx hb dX6_takesNumber_29 rfl (lv_at hl 2 rfl) ?_
      refine lv_iload_n hx hb dX6_takesNumber_30 rfl (lv_at hl 3 rfl) ?_
      obtain ⟨r32, hr32, ht4⟩ := z_bind ht4
      refine z_callPi (z_runS (n := 3) (rest := [.ref oM.1]) (As := [.int (r1 - 48), .int p1, .int p2]) S0 hC (c_X6_canBegin l G c3 (r1 - 48) p1 p2 hr32) [] (by decide) rfl gX6_takesNumber_X6_canBegin rfl rfl rfl (by decide +kernel) ⟨Nat.le_of_ble_eq_true rfl, Nat.le_of_ble_eq_true rfl⟩ rfl hl.1 rfl (Nat.le_of_ble_eq_true rfl) dX6_takesNumber_31) hC [] rfl (fun H locs hC => ?_)
      refine lv_if_eq (tgt := 41) hx hb dX6_takesNumber_34 (by decide) (fun cd33 => ?_) (fun cd33 => ?_)
      · replace ht4 := z_pos cd33 ht4
        refine lv_iconst (v := 0) hx hb dX6_takesNumber_41 (by decide) ?_
        have e1 := z_s1 ht4
        subst e1
        exact Jt4 H locs ls hC (lv_sub hl [1, 2, 3, 0] rfl)
      · replace ht4 := z_neg cd33 ht4
        refine lv_iconst (v := 1) hx hb dX6_takesNumber_37 (by decide) ?_
        refine lv_goto (tgt := 42) hx hb dX6_takesNumber_38 (by decide) ?_
        have e1 := z_s1 ht4
        subst e1
        exact Jt4 H locs ls hC (lv_sub hl [1, 2, 3, 0] rfl)

-- X6 takesRange
def f_X6_takesRange (Mpp : (Nat → Int32)) (Mle : Int32) (Msp : Int32) (Mfo : Int32) (Mrd : (Nat → Int32)) (p1 : Int32) (p2 : Int32) (p3 : Int32) : Option (Int32 × Int32 × (Nat → Int32)) :=
  (f_X6_takesNumber Mpp Mle Msp Mfo p2 p3).bind fun r1 => (zast 84 Mrd p1 r1.1).bind fun g2 => (f_X6_here Mpp Mle r1.2.1).bind fun r3 => Option.bind (α := Int32) (
    if r3 = 45 then
      some (1)
    else
      some (0)
  ) fun t5 =>
    (f_X6_takes r1.2.1 r1.2.2 t5).bind fun r6 => (zald 84 g2 p1).bind fun x7 => (f_X6_takesNumber Mpp Mle r6.1 r6.2 x7 p3).bind fun r8 => (zast 84 g2 (p1 + 1) r8.1).bind fun g9 => (f_X6_here Mpp Mle r8.2.1).bind fun r10 => Option.bind (α := Int32) (
      if r10 = 44 then
        some (1)
      else
        some (0)
    ) fun t12 =>
      (f_X6_takes r8.2.1 r8.2.2 t12).bind fun r13 => some (r13.1, r13.2, g9)

theorem kX6_takesRange_29 : Cond.fieldLink RX6 29 "ZoneSamplerModel" "read" "[I" ∈ wsX6_takesRange := by decide +kernel
theorem jX6_takesRange_X6 : ∀ w ∈ u_ws RX6 TX6 17, w ∈ wsX6_takesRange := by decide +kernel
set_option maxHeartbeats 4000000 in
set_option maxRecDepth 100000 in
theorem c_X6_takesRange (l : Launch) (G : va_G) (c3 : zT3) (oM : zR8) (BM : zMd) (p1 : Int32) (p2 : Int32) (p3 : Int32) {Msp' : Int32} {Mfo' : Int32} {Mrd' : (Nat → Int32)} (hf : f_X6_takesRange BM.2.2.2.2.2.2.1 BM.2.2.2.2.2.2.2.1 BM.2.2.2.2.2.2.2.2.2.2.1 BM.2.2.2.2.2.2.2.2.2.2.2.1 BM.2.2.2.2.2.2.2.2.2.2.2.2.1 p1 p2 p3 = some (Msp', Mfo', Mrd')) : zM l yX6_takesRange wsX6_takesRange ⟨2, 0, 0, 48⟩ G c3 (zwM c3.1 c3.2.2 oM (BM.1, BM.2.1, BM.2.2.1, BM.2.2.2.1, BM.2.2.2.2.1, BM.2.2.2.2.2.1, BM.2.2.2.2.2.2.1, BM.2.2.2.2.2.2.2.1, BM.2.2.2.2.2.2.2.2.1, BM.2.2.2.2.2.2.2.2.2.1, BM.2.2.2.2.2.2.2.2.2.2.1, BM.2.2.2.2.2.2.2.2.2.2.2.1, BM.2.2.2.2.2.2.2.2.2.2.2.2.1, BM.2.2.2.2.2.2.2.2.2.2.2.2.2.1, BM.2.2.2.2.2.2.2.2.2.2.2.2.2.2.1, BM.2.2.2.2.2.2.2.2.2.2.2.2.2.2.2.1, BM.2.2.2.2.2.2.2.2.2.2.2.2.2.2.2.2)) [.ref oM.1, .int p1, .int p2, .int p3] none (zwM c3.1 c3.2.2 oM (BM.1, BM.2.1, BM.2.2.1, BM.2.2.2.1, BM.2.2.2.2.1, BM.2.2.2.2.2.1, BM.2.2.2.2.2.2.1, BM.2.2.2.2.2.2.2.1, BM.2.2.2.2.2.2.2.2.1, BM.2.2.2.2.2.2.2.2.2.1, Msp', Mfo', Mrd', BM.2.2.2.2.2.2.2.2.2.2.2.2.2.1, BM.2.2.2.2.2.2.2.2.2.2.2.2.2.2.1, BM.2.2.2.2.2.2.2.2.2.2.2.2.2.2.2.1, BM.2.2.2.2.2.2.2.2.2.2.2.2.2.2.2.2)) := by
  obtain ⟨Ms, Mas, Mpa, Mkn, Mke, Mik, Mpp, Mle, Mso, Mfz, Msp, Mfo, Mrd, Mrs, Mlt, Mfi, Mse⟩ := BM
  have hf : f_X6_takesRange Mpp Mle Msp Mfo Mrd p1 p2 p3 = some (Msp', Mfo', Mrd') := hf
  show zM l yX6_takesRange wsX6_takesRange ⟨2, 0, 0, 48⟩ G c3 (zwM c3.1 c3.2.2 oM (Ms, Mas, Mpa, Mkn, Mke, Mik, Mpp, Mle, Mso, Mfz, Msp, Mfo, Mrd, Mrs, Mlt, Mfi, Mse)) [.ref oM.1, .int p1, .int p2, .int p3] none (zwM c3.1 c3.2.2 oM (Ms, Mas, Mpa, Mkn, Mke, Mik, Mpp, Mle, Mso, Mfz, Msp', Mfo', Mrd', Mrs, Mlt, Mfi, Mse))
  refine zM.of (cc := cX6_takesRange) (maxL := 4) (ret := none) (by decide) rfl (Nat.le_of_ble_eq_true rfl) ?_
  intro p e s m args below meth c A ls S0 hr hlk hC hl
  have S0 : CallFix p m c cX6_takesRange 4 s args wsX6_takesRange RX6 := S0
  have hl : lv_has ls 4 [(0, .ref oM.1), (1, .int p1), (2, .int p2), (3, .int p3)] := hl
  have hx := S0.1
  have hb := S0.2.1
  obtain ⟨H, hH⟩ : ∃ y, y = s.heap := ⟨_, rfl⟩
  rw [← hH] at hC ⊢
  obtain ⟨locs, hlo⟩ : ∃ y : List Loc, y = [] := ⟨_, rfl⟩
  rw [← hlo] at hC ⊢
  clear hH hlo
  unfold f_X6_takesRange at hf
  refine lv_aload_n hx hb dX6_takesRange_0 rfl (lv_at hl 0 rfl) ?_
  refine z_get S0 hC (ci := 6) (C := RX6) (T := TX6) (N := 17) (v := .ref oM.2.2.2.2.2.2.2) jX6_takesRange_X6 0 rfl rfl 12 (by decide) kX6_takesRange_29 rfl rfl dX6_takesRange_1 ?_
  refine lv_iload_n hx hb dX6_takesRange_4 rfl (lv_at hl 1 rfl) ?_
  refine lv_aload_n hx hb dX6_takesRange_5 rfl (lv_at hl 0 rfl) ?_
  refine lv_iload_n hx hb dX6_takesRange_6 rfl (lv_at hl 2 rfl) ?_
  refine lv_iload_n hx hb dX6_takesRange_7 rfl (lv_at hl 3 rfl) ?_
  obtain ⟨r1, hr1, hf⟩ := z_bind hf
  refine z_calli (z_runV (n := 2) (rest := [.int p1, .ref oM.2.2.2.2.2.2.2]) (As := [.int p2, .int p3]) S0 hC (c_X6_takesNumber l G c3 oM (Ms, Mas, Mpa, Mkn, Mke, Mik, Mpp, Mle, Mso, Mfz, Msp, Mfo, Mrd, Mrs, Mlt, Mfi, Mse) p2 p3 hr1) [0, 1, 2, 3, 4, 5, 6, 7] (by decide) rfl gX6_takesRange_X6_takesNumber rfl rfl rfl (by decide +kernel) ⟨Nat.le_of_ble_eq_true rfl, Nat.le_of_ble_eq_true rfl⟩ (ci := 6) (q0 := 0) rfl rfl rfl hl.1 rfl (Nat.le_of_ble_eq_true rfl) dX6_takesRange_8) hC [0, 1, 2, 3, 4, 5, 6, 7] [] [0, 1, 2, 3, 4, 5, 6, 7] rfl (wr := ([] : va_W)) rfl (by decide) (by decide) (ws2 := (zwM c3.1 c3.2.2 oM (Ms, Mas, Mpa, Mkn, Mke, Mik, Mpp, Mle, Mso, Mfz, r1.2.1, r1.2.2, Mrd, Mrs, Mlt, Mfi, Mse))) rfl (by decide) (fun H locs hC => ?_)
  obtain ⟨g2, hg2, hf⟩ := z_bind hf
  refine z_iast S0 hC 7 rfl hg2 dX6_takesRange_11 (ws2 := (zwM c3.1 c3.2.2 oM (Ms, Mas, Mpa, Mkn, Mke, Mik, Mpp, Mle, Mso, Mfz, r1.2.1, r1.2.2, g2, Mrs, Mlt, Mfi, Mse))) rfl (fun H locs hC => ?_)
  refine lv_aload_n hx hb dX6_takesRange_12 rfl (lv_at hl 0 rfl) ?_
  refine lv_aload_n hx hb dX6_takesRange_13 rfl (lv_at hl 0 rfl) ?_
  obtain ⟨r3, hr3, hf⟩ := z_bind hf
  refine z_callPi (z_runV (n := 0) (rest := [.ref oM.1]) (As := []) S0 hC (c_X6_here l G c3 oM (Ms, Mas, Mpa, Mkn, Mke, Mik, Mpp, Mle, Mso, Mfz, r1.2.1, r1.2.2, g2, Mrs, Mlt, Mfi, Mse) hr3) [0, 1, 2, 3, 4, 5, 6, 7] (by decide) rfl gX6_takesRange_X6_here rfl rfl rfl (by decide +kernel) ⟨Nat.le_of_ble_eq_true rfl, Nat.le_of_ble_eq_true rfl⟩ (ci := 6) (q0 := 0) rfl rfl rfl hl.1 rfl (Nat.le_of_ble_eq_true rfl) dX6_takesRange_14) hC [0, 1, 2, 3, 4, 5, 6, 7] rfl (fun H locs hC => ?_)
  refine lv_bipush (v := 45) hx hb dX6_takesRange_17 (by decide) ?_
  obtain ⟨t5, ht5, hf⟩ := z_bind hf
  have Jt5 : ∀ (H : Heap) (locs : List Loc) (ls : Array Slot), zC G c3 A s (zwM c3.1 c3.2.2 oM (Ms, Mas, Mpa, Mkn, Mke, Mik, Mpp, Mle, Mso, Mfz, r1.2.1, r1.2.2, g2, Mrs, Mlt, Mfi, Mse)) H locs → lv_has ls 4 [(0, .ref oM.1), (1, .int p1), (2, .int p2), (3, .int p3)] → W p l e ⟨2, 0, 0, 48⟩ s m args below meth c H locs 0 0 (MQ below (zPost G (zwM c3.1 c3.2.2 oM (Ms, Mas, Mpa, Mkn, Mke, Mik, Mpp, Mle, Mso, Mfz, Msp', Mfo', Mrd', Mrs, Mlt, Mfi, Mse)) none A) args s 0 0 A) (F0 m 27 ls [.int t5, .ref oM.1]) := by
    intro H locs ls hC hl
    obtain ⟨r6, hr6, hf⟩ := z_bind hf
    refine z_callv (z_runV (n := 1) (rest := []) (As := [.int t5]) S0 hC (c_X6_takes l G c3 oM (Ms, Mas, Mpa, Mkn, Mke, Mik, Mpp, Mle, Mso, Mfz, r1.2.1, r1.2.2, g2, Mrs, Mlt, Mfi, Mse) t5 hr6) [0, 1, 2, 3, 4, 5, 6, 7] (by decide) rfl gX6_takesRange_X6_takes rfl rfl rfl (by decide +kernel) ⟨Nat.le_of_ble_eq_true rfl, Nat.le_of_ble_eq_true rfl⟩ (ci := 6) (q0 := 0) rfl rfl rfl hl.1 rfl (Nat.le_of_ble_eq_true rfl) dX6_takesRange_27) hC [0, 1, 2, 3, 4, 5, 6, 7] [] [0, 1, 2, 3, 4, 5, 6, 7] rfl (wr := ([] : va_W)) rfl (by decide) (by decide) (ws2 := (zwM c3.1 c3.2.2 oM (Ms, Mas, Mpa, Mkn, Mke, Mik, Mpp, Mle, Mso, Mfz, r6.1, r6.2, g2, Mrs, Mlt, Mfi, Mse))) rfl (by decide) (fun H locs hC => ?_)
    refine lv_aload_n hx hb dX6_takesRange_30 rfl (lv_at hl 0 rfl) ?_
    refine z_get S0 hC (ci := 6) (C := RX6) (T := TX6) (N := 17) (v := .ref oM.2.2.2.2.2.2.2) jX6_takesRange_X6 0 rfl rfl 12 (by decide) kX6_takesRange_29 rfl rfl dX6_takesRange_31 ?_
    refine lv_iload_n hx hb dX6_takesRange_34 rfl (lv_at hl 1 rfl) ?_
    refine lv_iconst (v := 1) hx hb dX6_takesRange_35 (by decide) ?_
    refine lv_iadd hx hb dX6_takesRange_36 ?_
    refine lv_aload_n hx hb dX6_takesRange_37 rfl (lv_at hl 0 rfl) ?_
    refine lv_aload_n hx hb dX6_takesRange_38 rfl (lv_at hl 0 rfl) ?_
    refine z_get S0 hC (ci := 6) (C := RX6) (T := TX6) (N := 17) (v := .ref oM.2.2.2.2.2.2.2) jX6_takesRange_X6 0 rfl rfl 12 (by decide) kX6_takesRange_29 rfl rfl dX6_takesRange_39 ?_
    refine lv_iload_n hx hb dX6_takesRange_42 rfl (lv_at hl 1 rfl) ?_
    obtain ⟨x7, hx7, hf⟩ := z_bind hf
    refine z_iald S0 hC 7 rfl hx7 dX6_takesRange_43 ?_
    refine lv_iload_n hx hb dX6_takesRange_44 rfl (lv_at hl 3 rfl) ?_
    obtain ⟨r8, hr8, hf⟩ := z_bind hf
    refine z_calli (z_runV (n := 2) (rest := [.int (p1 + 1), .ref oM.2.2.2.2.2.2.2]) (As := [.int x7, .int p3]) S0 hC (c_X6_takesNumber l G c3 oM (Ms, Mas, Mpa, Mkn, Mke, Mik, Mpp, Mle, Mso, Mfz, r6.1, r6.2, g2, Mrs, Mlt, Mfi, Mse) x7 p3 hr8) [0, 1, 2, 3, 4, 5, 6, 7] (by decide) rfl gX6_takesRange_X6_takesNumber rfl rfl rfl (by decide +kernel) ⟨Nat.le_of_ble_eq_true rfl, Nat.le_of_ble_eq_true rfl⟩ (ci := 6) (q0 := 0) rfl rfl rfl hl.1 rfl (Nat.le_of_ble_eq_true rfl) dX6_takesRange_45) hC [0, 1, 2, 3, 4, 5, 6, 7] [] [0, 1, 2, 3, 4, 5, 6, 7] rfl (wr := ([] : va_W)) rfl (by decide) (by decide) (ws2 := (zwM c3.1 c3.2.2 oM (Ms, Mas, Mpa, Mkn, Mke, Mik, Mpp, Mle, Mso, Mfz, r8.2.1, r8.2.2, g2, Mrs, Mlt, Mfi, Mse))) rfl (by decide) (fun H locs hC => ?_)
    obtain ⟨g9, hg9, hf⟩ := z_bind hf
    refine z_iast S0 hC 7 rfl hg9 dX6_takesRange_48 (ws2 := (zwM c3.1 c3.2.2 oM (Ms, Mas, Mpa, Mkn, Mke, Mik, Mpp, Mle, Mso, Mfz, r8.2.1, r8.2.2, g9, Mrs, Mlt, Mfi, Mse))) rfl (fun H locs hC => ?_)
    refine lv_aload_n hx hb dX6_takesRange_49 rfl (lv_at hl 0 rfl) ?_
    refine lv_aload_n hx hb dX6_takesRange_50 rfl (lv_at hl 0 rfl) ?_
    obtain ⟨r10, hr10, hf⟩ := z_bind hf
    refine z_callPi (z_runV (n := 0) (rest := [.ref oM.1]) (As := []) S0 hC (c_X6_here l G c3 oM (Ms, Mas, Mpa, Mkn, Mke, Mik, Mpp, Mle, Mso, Mfz, r8.2.1, r8.2.2, g9, Mrs, Mlt, Mfi, Mse) hr10) [0, 1, 2, 3, 4, 5, 6, 7] (by decide) rfl gX6_takesRange_X6_here rfl rfl rfl (by decide +kernel) ⟨Nat.le_of_ble_eq_true rfl, Nat.le_of_ble_eq_true rfl⟩ (ci := 6) (q0 := 0) rfl rfl rfl hl.1 rfl (Nat.le_of_ble_eq_true rfl) dX6_takesRange_51) hC [0, 1, 2, 3, 4, 5, 6, 7] rfl (fun H locs hC => ?_)
    refine lv_bipush (v := 44) hx hb dX6_takesRange_54 (by decide) ?_
    obtain ⟨t12, ht12, hf⟩ := z_bind hf
    have Jt12 : ∀ (H : Heap) (locs : List Loc) (ls : Array Slot), zC G c3 A s (zwM c3.1 c3.2.2 oM (Ms, Mas, Mpa, Mkn, Mke, Mik, Mpp, Mle, Mso, Mfz, r8.2.1, r8.2.2, g9, Mrs, Mlt, Mfi, Mse)) H locs → lv_has ls 4 [(0, .ref oM.1), (1, .int p1), (2, .int p2), (3, .int p3)] → W p l e ⟨2, 0, 0, 48⟩ s m args below meth c H locs 0 0 (MQ below (zPost G (zwM c3.1 c3.2.2 oM (Ms, Mas, Mpa, Mkn, Mke, Mik, Mpp, Mle, Mso, Mfz, Msp', Mfo', Mrd', Mrs, Mlt, Mfi, Mse)) none A) args s 0 0 A) (F0 m 64 ls [.int t12, .ref oM.1]) := by
      intro H locs ls hC hl
      obtain ⟨r13, hr13, hf⟩ := z_bind hf
      refine z_callv (z_runV (n := 1) (rest := []) (As := [.int t12]) S0 hC (c_X6_takes l G c3 oM (Ms, Mas, Mpa, Mkn, Mke, Mik, Mpp, Mle, Mso, Mfz, r8.2.1, r8.2.2, g9, Mrs, Mlt, Mfi, Mse) t12 hr13) [0, 1, 2, 3, 4, 5, 6, 7] (by decide) rfl gX6_takesRange_X6_takes rfl rfl rfl (by decide +kernel) ⟨Nat.le_of_ble_eq_true rfl, Nat.le_of_ble_eq_true rfl⟩ (ci := 6) (q0 := 0) rfl rfl rfl hl.1 rfl (Nat.le_of_ble_eq_true rfl) dX6_takesRange_64) hC [0, 1, 2, 3, 4, 5, 6, 7] [] [0, 1, 2, 3, 4, 5, 6, 7] rfl (wr := ([] : va_W)) rfl (by decide) (by decide) (ws2 := (zwM c3.1 c3.2.2 oM (Ms, Mas, Mpa, Mkn, Mke, Mik, Mpp, Mle, Mso, Mfz, r13.1, r13.2, g9, Mrs, Mlt, Mfi, Mse))) rfl (by decide) (fun H locs hC => ?_)
      obtain ⟨e1, e2, e3⟩ := z_s3 hf
      subst e1
      subst e2
      subst e3
      exact z_vret S0 hr hlk hC dX6_takesRange_67
    refine lv_icmp_ne (tgt := 63) hx hb dX6_takesRange_56 (by decide) (fun cd11 => ?_) (fun cd11 => ?_)
    · replace ht12 := z_neg cd11 ht12
      refine lv_iconst (v := 0) hx hb dX6_takesRange_63 (by decide) ?_
      have e1 := z_s1 ht12
      subst e1
      exact Jt12 H locs ls hC (lv_sub hl [0, 1, 2, 3] rfl)
    · replace ht12 := z_pos cd11 ht12
      refine lv_iconst (v := 1) hx hb dX6_takesRange_59 (by decide) ?_
      refine lv_goto (tgt := 64) hx hb dX6_takesRange_60 (by decide) ?_
      have e1 := z_s1 ht12
      subst e1
      exact Jt12 H locs ls hC (lv_sub hl [0, 1, 2, 3] rfl)
  refine lv_icmp_ne (tgt := 26) hx hb dX6_takesRange_19 (by decide) (fun cd4 => ?_) (fun cd4 => ?_)
  · replace ht5 := z_neg cd4 ht5
    refine lv_iconst (v := 0) hx hb dX6_takesRange_26 (by decide) ?_
    have e1 := z_s1 ht5
    subst e1
    exact Jt5 H locs ls hC (lv_sub hl [0, 1, 2, 3] rfl)
  · replace ht5 := z_pos cd4 ht5
    refine lv_iconst (v := 1) hx hb dX6_takesRange_22 (by decide) ?_
    refine lv_goto (tgt := 27) hx hb dX6_takesRange_23 (by decide) ?_
    have e1 := z_s1 ht5
    subst e1
    exact Jt5 H locs ls hC (lv_sub hl [0, 1, 2, 3] rfl)

-- X6 takesMark
def f_X6_takesMark (Mpp : (Nat → Int32)) (Mle : Int32) (Msp : Int32) (Mfo : Int32) (p1 : Int32) (p2 : Int32) : Option (Int32 × Int32 × Int32) :=
  if Mfo = 0 then
    some (0, Msp, Mfo)
  else
    (f_X6_here Mpp Mle Msp).bind fun r2 => if r2 = p1 then
      (f_X6_takesNumber Mpp Mle (Msp + 1) Mfo 1 p2).bind fun r4 => some (r4.1, r4.2.1, r4.2.2)
    else
      some (0, Msp, Mfo)

theorem kX6_takesMark_131 : Cond.fieldLink RX6 131 "ZoneSamplerModel" "isForm" "Z" ∈ wsX6_takesMark := by decide +kernel
theorem kX6_takesMark_128 : Cond.fieldLink RX6 128 "ZoneSamplerModel" "spot" "I" ∈ wsX6_takesMark := by decide +kernel
theorem jX6_takesMark_X6 : ∀ w ∈ u_ws RX6 TX6 17, w ∈ wsX6_takesMark := by decide +kernel
set_option maxHeartbeats 4000000 in
set_option maxRecDepth 100000 in
theorem c_X6_takesMark (l : Launch) (G : va_G) (c3 : zT3) (oM : zR8) (BM : zMd) (p1 : Int32) (p2 : Int32) {r : Int32} {Msp' : Int32} {Mfo' : Int32} (hf : f_X6_takesMark BM.2.2.2.2.2.2.1 BM.2.2.2.2.2.2.2.1 BM.2.2.2.2.2.2.2.2.2.2.1 BM.2.2.2.2.2.2.2.2.2.2.2.1 p1 p2 = some (r, Msp', Mfo')) : zM l yX6_takesMark wsX6_takesMark ⟨2, 0, 0, 48⟩ G c3 (zwM c3.1 c3.2.2 oM (BM.1, BM.2.1, BM.2.2.1, BM.2.2.2.1, BM.2.2.2.2.1, BM.2.2.2.2.2.1, BM.2.2.2.2.2.2.1, BM.2.2.2.2.2.2.2.1, BM.2.2.2.2.2.2.2.2.1, BM.2.2.2.2.2.2.2.2.2.1, BM.2.2.2.2.2.2.2.2.2.2.1, BM.2.2.2.2.2.2.2.2.2.2.2.1, BM.2.2.2.2.2.2.2.2.2.2.2.2.1, BM.2.2.2.2.2.2.2.2.2.2.2.2.2.1, BM.2.2.2.2.2.2.2.2.2.2.2.2.2.2.1, BM.2.2.2.2.2.2.2.2.2.2.2.2.2.2.2.1, BM.2.2.2.2.2.2.2.2.2.2.2.2.2.2.2.2)) [.ref oM.1, .int p1, .int p2] (some (.int r)) (zwM c3.1 c3.2.2 oM (BM.1, BM.2.1, BM.2.2.1, BM.2.2.2.1, BM.2.2.2.2.1, BM.2.2.2.2.2.1, BM.2.2.2.2.2.2.1, BM.2.2.2.2.2.2.2.1, BM.2.2.2.2.2.2.2.2.1, BM.2.2.2.2.2.2.2.2.2.1, Msp', Mfo', BM.2.2.2.2.2.2.2.2.2.2.2.2.1, BM.2.2.2.2.2.2.2.2.2.2.2.2.2.1, BM.2.2.2.2.2.2.2.2.2.2.2.2.2.2.1, BM.2.2.2.2.2.2.2.2.2.2.2.2.2.2.2.1, BM.2.2.2.2.2.2.2.2.2.2.2.2.2.2.2.2)) := by
  obtain ⟨Ms, Mas, Mpa, Mkn, Mke, Mik, Mpp, Mle, Mso, Mfz, Msp, Mfo, Mrd, Mrs, Mlt, Mfi, Mse⟩ := BM
  have hf : f_X6_takesMark Mpp Mle Msp Mfo p1 p2 = some (r, Msp', Mfo') := hf
  show zM l yX6_takesMark wsX6_takesMark ⟨2, 0, 0, 48⟩ G c3 (zwM c3.1 c3.2.2 oM (Ms, Mas, Mpa, Mkn, Mke, Mik, Mpp, Mle, Mso, Mfz, Msp, Mfo, Mrd, Mrs, Mlt, Mfi, Mse)) [.ref oM.1, .int p1, .int p2] (some (.int r)) (zwM c3.1 c3.2.2 oM (Ms, Mas, Mpa, Mkn, Mke, Mik, Mpp, Mle, Mso, Mfz, Msp', Mfo', Mrd, Mrs, Mlt, Mfi, Mse))
  refine zM.of (cc := cX6_takesMark) (maxL := 3) (ret := (some .int)) (by decide) rfl (Nat.le_of_ble_eq_true rfl) ?_
  intro p e s m args below meth c A ls S0 hr hlk hC hl
  have S0 : CallFix p m c cX6_takesMark 3 s args wsX6_takesMark RX6 := S0
  have hl : lv_has ls 3 [(0, .ref oM.1), (1, .int p1), (2, .int p2)] := hl
  have hx := S0.1
  have hb := S0.2.1
  obtain ⟨H, hH⟩ : ∃ y, y = s.heap := ⟨_, rfl⟩
  rw [← hH] at hC ⊢
  obtain ⟨locs, hlo⟩ : ∃ y : List Loc, y = [] := ⟨_, rfl⟩
  rw [← hlo] at hC ⊢
  clear hH hlo
  unfold f_X6_takesMark at hf
  refine lv_aload_n hx hb dX6_takesMark_0 rfl (lv_at hl 0 rfl) ?_
  refine z_get S0 hC (ci := 6) (C := RX6) (T := TX6) (N := 17) (v := .int Mfo) jX6_takesMark_X6 0 rfl rfl 11 (by decide) kX6_takesMark_131 rfl rfl dX6_takesMark_1 ?_
  refine lv_if_eq (tgt := 15) hx hb dX6_takesMark_4 (by decide) (fun cd1 => ?_) (fun cd1 => ?_)
  · replace hf := z_pos cd1 hf
    refine lv_iconst (v := 0) hx hb dX6_takesMark_15 (by decide) ?_
    obtain ⟨e1, e2, e3⟩ := z_s3 hf
    subst e1
    subst e2
    subst e3
    exact z_iret S0 hr hlk hC dX6_takesMark_16
  · replace hf := z_neg cd1 hf
    refine lv_aload_n hx hb dX6_takesMark_7 rfl (lv_at hl 0 rfl) ?_
    obtain ⟨r2, hr2, hf⟩ := z_bind hf
    refine z_callPi (z_runV (n := 0) (rest := []) (As := []) S0 hC (c_X6_here l G c3 oM (Ms, Mas, Mpa, Mkn, Mke, Mik, Mpp, Mle, Mso, Mfz, Msp, Mfo, Mrd, Mrs, Mlt, Mfi, Mse) hr2) [0, 1, 2, 3, 4, 5, 6, 7] (by decide) rfl gX6_takesMark_X6_here rfl rfl rfl (by decide +kernel) ⟨Nat.le_of_ble_eq_true rfl, Nat.le_of_ble_eq_true rfl⟩ (ci := 6) (q0 := 0) rfl rfl rfl hl.1 rfl (Nat.le_of_ble_eq_true rfl) dX6_takesMark_8) hC [0, 1, 2, 3, 4, 5, 6, 7] rfl (fun H locs hC => ?_)
    refine lv_iload_n hx hb dX6_takesMark_11 rfl (lv_at hl 1 rfl) ?_
    refine lv_icmp_eq (tgt := 17) hx hb dX6_takesMark_12 (by decide) (fun cd3 => ?_) (fun cd3 => ?_)
    · replace hf := z_pos cd3 hf
      refine lv_aload_n hx hb dX6_takesMark_17 rfl (lv_at hl 0 rfl) ?_
      refine lv_dup hx hb dX6_takesMark_18 rfl ?_
      refine z_get S0 hC (ci := 6) (C := RX6) (T := TX6) (N := 17) (v := .int Msp) jX6_takesMark_X6 0 rfl rfl 10 (by decide) kX6_takesMark_128 rfl rfl dX6_takesMark_19 ?_
      refine lv_iconst (v := 1) hx hb dX6_takesMark_22 (by decide) ?_
      refine lv_iadd hx hb dX6_takesMark_23 ?_
      refine z_put S0 hC (ci := 6) (C := RX6) (T := TX6) (N := 17) (v := .int (Msp + 1)) jX6_takesMark_X6 tyX6 tyX6_ok nmX6 0 rfl rfl 10 (by decide) kX6_takesMark_128 rfl rfl rfl rfl (Nat.le_of_ble_eq_true rfl) dX6_takesMark_24 (ws2 := (zwM c3.1 c3.2.2 oM (Ms, Mas, Mpa, Mkn, Mke, Mik, Mpp, Mle, Mso, Mfz, (Msp + 1), Mfo, Mrd, Mrs, Mlt, Mfi, Mse))) rfl (fun H locs hC => ?_)
      refine lv_aload_n hx hb dX6_takesMark_27 rfl (lv_at hl 0 rfl) ?_
      refine lv_iconst (v := 1) hx hb dX6_takesMark_28 (by decide) ?_
      refine lv_iload_n hx hb dX6_takesMark_29 rfl (lv_at hl 2 rfl) ?_
      obtain ⟨r4, hr4, hf⟩ := z_bind hf
      refine z_calli (z_runV (n := 2) (rest := []) (As := [.int 1, .int p2]) S0 hC (c_X6_takesNumber l G c3 oM (Ms, Mas, Mpa, Mkn, Mke, Mik, Mpp, Mle, Mso, Mfz, (Msp + 1), Mfo, Mrd, Mrs, Mlt, Mfi, Mse) 1 p2 hr4) [0, 1, 2, 3, 4, 5, 6, 7] (by decide) rfl gX6_takesMark_X6_takesNumber rfl rfl rfl (by decide +kernel) ⟨Nat.le_of_ble_eq_true rfl, Nat.le_of_ble_eq_true rfl⟩ (ci := 6) (q0 := 0) rfl rfl rfl hl.1 rfl (Nat.le_of_ble_eq_true rfl) dX6_takesMark_30) hC [0, 1, 2, 3, 4, 5, 6, 7] [] [0, 1, 2, 3, 4, 5, 6, 7] rfl (wr := ([] : va_W)) rfl (by decide) (by decide) (ws2 := (zwM c3.1 c3.2.2 oM (Ms, Mas, Mpa, Mkn, Mke, Mik, Mpp, Mle, Mso, Mfz, r4.2.1, r4.2.2, Mrd, Mrs, Mlt, Mfi, Mse))) rfl (by decide) (fun H locs hC => ?_)
      obtain ⟨e1, e2, e3⟩ := z_s3 hf
      subst e1
      subst e2
      subst e3
      exact z_iret S0 hr hlk hC dX6_takesMark_33
    · replace hf := z_neg cd3 hf
      refine lv_iconst (v := 0) hx hb dX6_takesMark_15 (by decide) ?_
      obtain ⟨e1, e2, e3⟩ := z_s3 hf
      subst e1
      subst e2
      subst e3
      exact z_iret S0 hr hlk hC dX6_takesMark_16

-- X6 takesZone
def f_X6_takesZone (Mpp : (Nat → Int32)) (Mle : Int32) (Msp : Int32) (Mfo : Int32) (Mrd : (Nat → Int32)) (Mrs : Int32) : Option (Int32 × Int32 × (Nat → Int32) × Int32) :=
  (f_X6_takesRange Mpp Mle Msp Mfo Mrd ((7 * Mrs) + 0) 0 35).bind fun r1 => (f_X6_takesRange Mpp Mle r1.1 r1.2.1 r1.2.2 ((7 * Mrs) + 2) 1 9).bind fun r2 => (f_X6_takesNumber Mpp Mle r2.1 r2.2.1 1 60).bind fun r3 => (zast 84 r2.2.2 ((7 * Mrs) + 6) r3.1).bind fun g4 => (f_X6_takesMark Mpp Mle r3.2.1 r3.2.2 103 3).bind fun r5 => (zast 84 g4 ((7 * Mrs) + 4) r5.1).bind fun g6 => (f_X6_takesMark Mpp Mle r5.2.1 r5.2.2 114 4).bind fun r7 => (zast 84 g6 ((7 * Mrs) + 5) r7.1).bind fun g8 => some (r7.2.1, r7.2.2, g8, (Mrs + 1))

theorem kX6_takesZone_148 : Cond.fieldLink RX6 148 "ZoneSamplerModel" "reads" "I" ∈ wsX6_takesZone := by decide +kernel
theorem kX6_takesZone_29 : Cond.fieldLink RX6 29 "ZoneSamplerModel" "read" "[I" ∈ wsX6_takesZone := by decide +kernel
theorem jX6_takesZone_X6 : ∀ w ∈ u_ws RX6 TX6 17, w ∈ wsX6_takesZone := by decide +kernel
set_option maxHeartbeats 4000000 in
set_option maxRecDepth 100000 in
theorem c_X6_takesZone (l : Launch) (G : va_G) (c3 : zT3) (oM : zR8) (BM : zMd) {Msp' : Int32} {Mfo' : Int32} {Mrd' : (Nat → Int32)} {Mrs' : Int32} (hf : f_X6_takesZone BM.2.2.2.2.2.2.1 BM.2.2.2.2.2.2.2.1 BM.2.2.2.2.2.2.2.2.2.2.1 BM.2.2.2.2.2.2.2.2.2.2.2.1 BM.2.2.2.2.2.2.2.2.2.2.2.2.1 BM.2.2.2.2.2.2.2.2.2.2.2.2.2.1 = some (Msp', Mfo', Mrd', Mrs')) : zM l yX6_takesZone wsX6_takesZone ⟨3, 0, 0, 71⟩ G c3 (zwM c3.1 c3.2.2 oM (BM.1, BM.2.1, BM.2.2.1, BM.2.2.2.1, BM.2.2.2.2.1, BM.2.2.2.2.2.1, BM.2.2.2.2.2.2.1, BM.2.2.2.2.2.2.2.1, BM.2.2.2.2.2.2.2.2.1, BM.2.2.2.2.2.2.2.2.2.1, BM.2.2.2.2.2.2.2.2.2.2.1, BM.2.2.2.2.2.2.2.2.2.2.2.1, BM.2.2.2.2.2.2.2.2.2.2.2.2.1, BM.2.2.2.2.2.2.2.2.2.2.2.2.2.1, BM.2.2.2.2.2.2.2.2.2.2.2.2.2.2.1, BM.2.2.2.2.2.2.2.2.2.2.2.2.2.2.2.1, BM.2.2.2.2.2.2.2.2.2.2.2.2.2.2.2.2)) [.ref oM.1] none (zwM c3.1 c3.2.2 oM (BM.1, BM.2.1, BM.2.2.1, BM.2.2.2.1, BM.2.2.2.2.1, BM.2.2.2.2.2.1, BM.2.2.2.2.2.2.1, BM.2.2.2.2.2.2.2.1, BM.2.2.2.2.2.2.2.2.1, BM.2.2.2.2.2.2.2.2.2.1, Msp', Mfo', Mrd', Mrs', BM.2.2.2.2.2.2.2.2.2.2.2.2.2.2.1, BM.2.2.2.2.2.2.2.2.2.2.2.2.2.2.2.1, BM.2.2.2.2.2.2.2.2.2.2.2.2.2.2.2.2)) := by
  obtain ⟨Ms, Mas, Mpa, Mkn, Mke, Mik, Mpp, Mle, Mso, Mfz, Msp, Mfo, Mrd, Mrs, Mlt, Mfi, Mse⟩ := BM
  have hf : f_X6_takesZone Mpp Mle Msp Mfo Mrd Mrs = some (Msp', Mfo', Mrd', Mrs') := hf
  show zM l yX6_takesZone wsX6_takesZone ⟨3, 0, 0, 71⟩ G c3 (zwM c3.1 c3.2.2 oM (Ms, Mas, Mpa, Mkn, Mke, Mik, Mpp, Mle, Mso, Mfz, Msp, Mfo, Mrd, Mrs, Mlt, Mfi, Mse)) [.ref oM.1] none (zwM c3.1 c3.2.2 oM (Ms, Mas, Mpa, Mkn, Mke, Mik, Mpp, Mle, Mso, Mfz, Msp', Mfo', Mrd', Mrs', Mlt, Mfi, Mse))
  refine zM.of (cc := cX6_takesZone) (maxL := 2) (ret := none) (by decide) rfl (Nat.le_of_ble_eq_true rfl) ?_
  intro p e s m args below meth c A ls S0 hr hlk hC hl
  have S0 : CallFix p m c cX6_takesZone 2 s args wsX6_takesZone RX6 := S0
  have hl : lv_has ls 2 [(0, .ref oM.1)] := hl
  have hx := S0.1
  have hb := S0.2.1
  obtain ⟨H, hH⟩ : ∃ y, y = s.heap := ⟨_, rfl⟩
  rw [← hH] at hC ⊢
  obtain ⟨locs, hlo⟩ : ∃ y : List Loc, y = [] := ⟨_, rfl⟩
  rw [← hlo] at hC ⊢
  clear hH hlo
  unfold f_X6_takesZone at hf
  refine lv_bipush (v := 7) hx hb dX6_takesZone_0 (by decide) ?_
  refine lv_aload_n hx hb dX6_takesZone_2 rfl (lv_at hl 0 rfl) ?_
  refine z_get S0 hC (ci := 6) (C := RX6) (T := TX6) (N := 17) (v := .int Mrs) jX6_takesZone_X6 0 rfl rfl 13 (by decide) kX6_takesZone_148 rfl rfl dX6_takesZone_3 ?_
  refine lv_imul hx hb dX6_takesZone_6 ?_
  refine lv_istore_n (lv' := [(1, .int (7 * Mrs)), (0, .ref oM.1)]) hx hb dX6_takesZone_7 rfl hl (by decide) rfl (fun ls hl => ?_)
  refine lv_aload_n hx hb dX6_takesZone_8 rfl (lv_at hl 1 rfl) ?_
  refine lv_iload_n hx hb dX6_takesZone_9 rfl (lv_at hl 0 rfl) ?_
  refine lv_iconst (v := 0) hx hb dX6_takesZone_10 (by decide) ?_
  refine lv_iadd hx hb dX6_takesZone_11 ?_
  refine lv_iconst (v := 0) hx hb dX6_takesZone_12 (by decide) ?_
  refine lv_bipush (v := 35) hx hb dX6_takesZone_13 (by decide) ?_
  obtain ⟨r1, hr1, hf⟩ := z_bind hf
  refine z_callv (z_runV (n := 3) (rest := []) (As := [.int ((7 * Mrs) + 0), .int 0, .int 35]) S0 hC (c_X6_takesRange l G c3 oM (Ms, Mas, Mpa, Mkn, Mke, Mik, Mpp, Mle, Mso, Mfz, Msp, Mfo, Mrd, Mrs, Mlt, Mfi, Mse) ((7 * Mrs) + 0) 0 35 hr1) [0, 1, 2, 3, 4, 5, 6, 7] (by decide) rfl gX6_takesZone_X6_takesRange rfl rfl rfl (by decide +kernel) ⟨Nat.le_of_ble_eq_true rfl, Nat.le_of_ble_eq_true rfl⟩ (ci := 6) (q0 := 0) rfl rfl rfl hl.1 rfl (Nat.le_of_ble_eq_true rfl) dX6_takesZone_15) hC [0, 1, 2, 3, 4, 5, 6, 7] [] [0, 1, 2, 3, 4, 5, 6, 7] rfl (wr := ([] : va_W)) rfl (by decide) (by decide) (ws2 := (zwM c3.1 c3.2.2 oM (Ms, Mas, Mpa, Mkn, Mke, Mik, Mpp, Mle, Mso, Mfz, r1.1, r1.2.1, r1.2.2, Mrs, Mlt, Mfi, Mse))) rfl (by decide) (fun H locs hC => ?_)
  refine lv_aload_n hx hb dX6_takesZone_18 rfl (lv_at hl 1 rfl) ?_
  refine lv_iload_n hx hb dX6_takesZone_19 rfl (lv_at hl 0 rfl) ?_
  refine lv_iconst (v := 2) hx hb dX6_takesZone_20 (by decide) ?_
  refine lv_iadd hx hb dX6_takesZone_21 ?_
  refine lv_iconst (v := 1) hx hb dX6_takesZone_22 (by decide) ?_
  refine lv_bipush (v := 9) hx hb dX6_takesZone_23 (by decide) ?_
  obtain ⟨r2, hr2, hf⟩ := z_bind hf
  refine z_callv (z_runV (n := 3) (rest := []) (As := [.int ((7 * Mrs) + 2), .int 1, .int 9]) S0 hC (c_X6_takesRange l G c3 oM (Ms, Mas, Mpa, Mkn, Mke, Mik, Mpp, Mle, Mso, Mfz, r1.1, r1.2.1, r1.2.2, Mrs, Mlt, Mfi, Mse) ((7 * Mrs) + 2) 1 9 hr2) [0, 1, 2, 3, 4, 5, 6, 7] (by decide) rfl gX6_takesZone_X6_takesRange rfl rfl rfl (by decide +kernel) ⟨Nat.le_of_ble_eq_true rfl, Nat.le_of_ble_eq_true rfl⟩ (ci := 6) (q0 := 0) rfl rfl rfl hl.1 rfl (Nat.le_of_ble_eq_true rfl) dX6_takesZone_25) hC [0, 1, 2, 3, 4, 5, 6, 7] [] [0, 1, 2, 3, 4, 5, 6, 7] rfl (wr := ([] : va_W)) rfl (by decide) (by decide) (ws2 := (zwM c3.1 c3.2.2 oM (Ms, Mas, Mpa, Mkn, Mke, Mik, Mpp, Mle, Mso, Mfz, r2.1, r2.2.1, r2.2.2, Mrs, Mlt, Mfi, Mse))) rfl (by decide) (fun H locs hC => ?_)
  refine lv_aload_n hx hb dX6_takesZone_28 rfl (lv_at hl 1 rfl) ?_
  refine z_get S0 hC (ci := 6) (C := RX6) (T := TX6) (N := 17) (v := .ref oM.2.2.2.2.2.2.2) jX6_takesZone_X6 0 rfl rfl 12 (by decide) kX6_takesZone_29 rfl rfl dX6_takesZone_29 ?_
  refine lv_iload_n hx hb dX6_takesZone_32 rfl (lv_at hl 0 rfl) ?_
  refine lv_bipush (v := 6) hx hb dX6_takesZone_33 (by decide) ?_
  refine lv_iadd hx hb dX6_takesZone_35 ?_
  refine lv_aload_n hx hb dX6_takesZone_36 rfl (lv_at hl 1 rfl) ?_
  refine lv_iconst (v := 1) hx hb dX6_takesZone_37 (by decide) ?_
  refine lv_bipush (v := 60) hx hb dX6_takesZone_38 (by decide) ?_
  obtain ⟨r3, hr3, hf⟩ := z_bind hf
  refine z_calli (z_runV (n := 2) (rest := [.int ((7 * Mrs) + 6), .ref oM.2.2.2.2.2.2.2]) (As := [.int 1, .int 60]) S0 hC (c_X6_takesNumber l G c3 oM (Ms, Mas, Mpa, Mkn, Mke, Mik, Mpp, Mle, Mso, Mfz, r2.1, r2.2.1, r2.2.2, Mrs, Mlt, Mfi, Mse) 1 60 hr3) [0, 1, 2, 3, 4, 5, 6, 7] (by decide) rfl gX6_takesZone_X6_takesNumber rfl rfl rfl (by decide +kernel) ⟨Nat.le_of_ble_eq_true rfl, Nat.le_of_ble_eq_true rfl⟩ (ci := 6) (q0 := 0) rfl rfl rfl hl.1 rfl (Nat.le_of_ble_eq_true rfl) dX6_takesZone_40) hC [0, 1, 2, 3, 4, 5, 6, 7] [] [0, 1, 2, 3, 4, 5, 6, 7] rfl (wr := ([] : va_W)) rfl (by decide) (by decide) (ws2 := (zwM c3.1 c3.2.2 oM (Ms, Mas, Mpa, Mkn, Mke, Mik, Mpp, Mle, Mso, Mfz, r3.2.1, r3.2.2, r2.2.2, Mrs, Mlt, Mfi, Mse))) rfl (by decide) (fun H locs hC => ?_)
  obtain ⟨g4, hg4, hf⟩ := z_bind hf
  refine z_iast S0 hC 7 rfl hg4 dX6_takesZone_43 (ws2 := (zwM c3.1 c3.2.2 oM (Ms, Mas, Mpa, Mkn, Mke, Mik, Mpp, Mle, Mso, Mfz, r3.2.1, r3.2.2, g4, Mrs, Mlt, Mfi, Mse))) rfl (fun H locs hC => ?_)
  refine lv_aload_n hx hb dX6_takesZone_44 rfl (lv_at hl 1 rfl) ?_
  refine z_get S0 hC (ci := 6) (C := RX6) (T := TX6) (N := 17) (v := .ref oM.2.2.2.2.2.2.2) jX6_takesZone_X6 0 rfl rfl 12 (by decide) kX6_takesZone_29 rfl rfl dX6_takesZone_45 ?_
  refine lv_iload_n hx hb dX6_takesZone_48 rfl (lv_at hl 0 rfl) ?_
  refine lv_iconst (v := 4) hx hb dX6_takesZone_49 (by decide) ?_
  refine lv_iadd hx hb dX6_takesZone_50 ?_
  refine lv_aload_n hx hb dX6_takesZone_51 rfl (lv_at hl 1 rfl) ?_
  refine lv_bipush (v := 103) hx hb dX6_takesZone_52 (by decide) ?_
  refine lv_iconst (v := 3) hx hb dX6_takesZone_54 (by decide) ?_
  obtain ⟨r5, hr5, hf⟩ := z_bind hf
  refine z_calli (z_runV (n := 2) (rest := [.int ((7 * Mrs) + 4), .ref oM.2.2.2.2.2.2.2]) (As := [.int 103, .int 3]) S0 hC (c_X6_takesMark l G c3 oM (Ms, Mas, Mpa, Mkn, Mke, Mik, Mpp, Mle, Mso, Mfz, r3.2.1, r3.2.2, g4, Mrs, Mlt, Mfi, Mse) 103 3 hr5) [0, 1, 2, 3, 4, 5, 6, 7] (by decide) rfl gX6_takesZone_X6_takesMark rfl rfl rfl (by decide +kernel) ⟨Nat.le_of_ble_eq_true rfl, Nat.le_of_ble_eq_true rfl⟩ (ci := 6) (q0 := 0) rfl rfl rfl hl.1 rfl (Nat.le_of_ble_eq_true rfl) dX6_takesZone_55) hC [0, 1, 2, 3, 4, 5, 6, 7] [] [0, 1, 2, 3, 4, 5, 6, 7] rfl (wr := ([] : va_W)) rfl (by decide) (by decide) (ws2 := (zwM c3.1 c3.2.2 oM (Ms, Mas, Mpa, Mkn, Mke, Mik, Mpp, Mle, Mso, Mfz, r5.2.1, r5.2.2, g4, Mrs, Mlt, Mfi, Mse))) rfl (by decide) (fun H locs hC => ?_)
  obtain ⟨g6, hg6, hf⟩ := z_bind hf
  refine z_iast S0 hC 7 rfl hg6 dX6_takesZone_58 (ws2 := (zwM c3.1 c3.2.2 oM (Ms, Mas, Mpa, Mkn, Mke, Mik, Mpp, Mle, Mso, Mfz, r5.2.1, r5.2.2, g6, Mrs, Mlt, Mfi, Mse))) rfl (fun H locs hC => ?_)
  refine lv_aload_n hx hb dX6_takesZone_59 rfl (lv_at hl 1 rfl) ?_
  refine z_get S0 hC (ci := 6) (C := RX6) (T := TX6) (N := 17) (v := .ref oM.2.2.2.2.2.2.2) jX6_takesZone_X6 0 rfl rfl 12 (by decide) kX6_takesZone_29 rfl rfl dX6_takesZone_60 ?_
  refine lv_iload_n hx hb dX6_takesZone_63 rfl (lv_at hl 0 rfl) ?_
  refine lv_iconst (v := 5) hx hb dX6_takesZone_64 (by decide) ?_
  refine lv_iadd hx hb dX6_takesZone_65 ?_
  refine lv_aload_n hx hb dX6_takesZone_66 rfl (lv_at hl 1 rfl) ?_
  refine lv_bipush (v := 114) hx hb dX6_takesZone_67 (by decide) ?_
  refine lv_iconst (v := 4) hx hb dX6_takesZone_69 (by decide) ?_
  obtain ⟨r7, hr7, hf⟩ := z_bind hf
  refine z_calli (z_runV (n := 2) (rest := [.int ((7 * Mrs) + 5), .ref oM.2.2.2.2.2.2.2]) (As := [.int 114, .int 4]) S0 hC (c_X6_takesMark l G c3 oM (Ms, Mas, Mpa, Mkn, Mke, Mik, Mpp, Mle, Mso, Mfz, r5.2.1, r5.2.2, g6, Mrs, Mlt, Mfi, Mse) 114 4 hr7) [0, 1, 2, 3, 4, 5, 6, 7] (by decide) rfl gX6_takesZone_X6_takesMark rfl rfl rfl (by decide +kernel) ⟨Nat.le_of_ble_eq_true rfl, Nat.le_of_ble_eq_true rfl⟩ (ci := 6) (q0 := 0) rfl rfl rfl hl.1 rfl (Nat.le_of_ble_eq_true rfl) dX6_takesZone_70) hC [0, 1, 2, 3, 4, 5, 6, 7] [] [0, 1, 2, 3, 4, 5, 6, 7] rfl (wr := ([] : va_W)) rfl (by decide) (by decide) (ws2 := (zwM c3.1 c3.2.2 oM (Ms, Mas, Mpa, Mkn, Mke, Mik, Mpp, Mle, Mso, Mfz, r7.2.1, r7.2.2, g6, Mrs, Mlt, Mfi, Mse))) rfl (by decide) (fun H locs hC => ?_)
  obtain ⟨g8, hg8, hf⟩ := z_bind hf
  refine z_iast S0 hC 7 rfl hg8 dX6_takesZone_73 (ws2 := (zwM c3.1 c3.2.2 oM (Ms, Mas, Mpa, Mkn, Mke, Mik, Mpp, Mle, Mso, Mfz, r7.2.1, r7.2.2, g8, Mrs, Mlt, Mfi, Mse))) rfl (fun H locs hC => ?_)
  refine lv_aload_n hx hb dX6_takesZone_74 rfl (lv_at hl 1 rfl) ?_
  refine lv_dup hx hb dX6_takesZone_75 rfl ?_
  refine z_get S0 hC (ci := 6) (C := RX6) (T := TX6) (N := 17) (v := .int Mrs) jX6_takesZone_X6 0 rfl rfl 13 (by decide) kX6_takesZone_148 rfl rfl dX6_takesZone_76 ?_
  refine lv_iconst (v := 1) hx hb dX6_takesZone_79 (by decide) ?_
  refine lv_iadd hx hb dX6_takesZone_80 ?_
  refine z_put S0 hC (ci := 6) (C := RX6) (T := TX6) (N := 17) (v := .int (Mrs + 1)) jX6_takesZone_X6 tyX6 tyX6_ok nmX6 0 rfl rfl 13 (by decide) kX6_takesZone_148 rfl rfl rfl rfl (Nat.le_of_ble_eq_true rfl) dX6_takesZone_81 (ws2 := (zwM c3.1 c3.2.2 oM (Ms, Mas, Mpa, Mkn, Mke, Mik, Mpp, Mle, Mso, Mfz, r7.2.1, r7.2.2, g8, (Mrs + 1), Mlt, Mfi, Mse))) rfl (fun H locs hC => ?_)
  obtain ⟨e1, e2, e3, e4⟩ := z_s4 hf
  subst e1
  subst e2
  subst e3
  subst e4
  exact z_vret S0 hr hlk hC dX6_takesZone_84

-- X6 areZones
def f_X6_areZones_19 (Mpp : (Nat → Int32)) (Mle : Int32) : Nat → Int32 → Int32 → (Nat → Int32) → Int32 → Option (Int32 × Int32 × (Nat → Int32) × Int32)
  | 0, _, _, _, _ => none
  | fu + 1, Msp, Mfo, Mrd, Mrs =>
    if Mfo = 0 then
      some (Msp, Mfo, Mrd, Mrs)
    else
      if Mle ≤ Msp then
        some (Msp, Mfo, Mrd, Mrs)
      else
        (f_X6_here Mpp Mle Msp).bind fun r5 => Option.bind (α := Int32) (
          if r5 = 59 then
            some (1)
          else
            some (0)
        ) fun t7 =>
          (f_X6_takes Msp Mfo t7).bind fun r8 => if r8.2 = 0 then
            f_X6_areZones_19 Mpp Mle fu r8.1 r8.2 Mrd Mrs
          else
            (f_X6_takesZone Mpp Mle r8.1 r8.2 Mrd Mrs).bind fun r10 => f_X6_areZones_19 Mpp Mle fu r10.1 r10.2.1 r10.2.2.1 r10.2.2.2

theorem f_X6_areZones_19_s (Mpp : (Nat → Int32)) (Mle : Int32) (Msp : Int32) (Mfo : Int32) (Mrd : (Nat → Int32)) (Mrs : Int32) (fu : Nat) : f_X6_areZones_19 Mpp Mle (fu + 1) Msp Mfo Mrd Mrs = (
    if Mfo = 0 then
      some (Msp, Mfo, Mrd, Mrs)
    else
      if Mle ≤ Msp then
        some (Msp, Mfo, Mrd, Mrs)
      else
        (f_X6_here Mpp Mle Msp).bind fun r5 => Option.bind (α := Int32) (
          if r5 = 59 then
            some (1)
          else
            some (0)
        ) fun t7 =>
          (f_X6_takes Msp Mfo t7).bind fun r8 => if r8.2 = 0 then
            f_X6_areZones_19 Mpp Mle fu r8.1 r8.2 Mrd Mrs
          else
            (f_X6_takesZone Mpp Mle r8.1 r8.2 Mrd Mrs).bind fun r10 => f_X6_areZones_19 Mpp Mle fu r10.1 r10.2.1 r10.2.2.1 r10.2.2.2
    ) := rfl

def f_X6_areZones (Mpp : (Nat → Int32)) (Mle : Int32) (Msp : Int32) (Mfo : Int32) (Mrd : (Nat → Int32)) (Mrs : Int32) : Option (Int32 × Int32 × Int32 × (Nat → Int32) × Int32) :=
  (f_X6_takesZone Mpp Mle 0 1 Mrd 0).bind fun r1 => (f_X6_areZones_19 Mpp Mle zF r1.1 r1.2.1 r1.2.2.1 r1.2.2.2).bind fun t11 =>
    (zbool t11.2.1).bind fun _ => some (t11.2.1, t11.1, t11.2.1, t11.2.2.1, t11.2.2.2)

theorem kX6_areZones_128 : Cond.fieldLink RX6 128 "ZoneSamplerModel" "spot" "I" ∈ wsX6_areZones := by decide +kernel
theorem kX6_areZones_131 : Cond.fieldLink RX6 131 "ZoneSamplerModel" "isForm" "Z" ∈ wsX6_areZones := by decide +kernel
theorem kX6_areZones_148 : Cond.fieldLink RX6 148 "ZoneSamplerModel" "reads" "I" ∈ wsX6_areZones := by decide +kernel
theorem kX6_areZones_125 : Cond.fieldLink RX6 125 "ZoneSamplerModel" "length" "I" ∈ wsX6_areZones := by decide +kernel
theorem jX6_areZones_X6 : ∀ w ∈ u_ws RX6 TX6 17, w ∈ wsX6_areZones := by decide +kernel
set_option maxHeartbeats 4000000 in
set_option maxRecDepth 100000 in
theorem c_X6_areZones (l : Launch) (G : va_G) (c3 : zT3) (oM : zR8) (BM : zMd) {r : Int32} {Msp' : Int32} {Mfo' : Int32} {Mrd' : (Nat → Int32)} {Mrs' : Int32} (hf : f_X6_areZones BM.2.2.2.2.2.2.1 BM.2.2.2.2.2.2.2.1 BM.2.2.2.2.2.2.2.2.2.2.1 BM.2.2.2.2.2.2.2.2.2.2.2.1 BM.2.2.2.2.2.2.2.2.2.2.2.2.1 BM.2.2.2.2.2.2.2.2.2.2.2.2.2.1 = some (r, Msp', Mfo', Mrd', Mrs')) : zM l yX6_areZones wsX6_areZones ⟨4, 0, 0, 92⟩ G c3 (zwM c3.1 c3.2.2 oM (BM.1, BM.2.1, BM.2.2.1, BM.2.2.2.1, BM.2.2.2.2.1, BM.2.2.2.2.2.1, BM.2.2.2.2.2.2.1, BM.2.2.2.2.2.2.2.1, BM.2.2.2.2.2.2.2.2.1, BM.2.2.2.2.2.2.2.2.2.1, BM.2.2.2.2.2.2.2.2.2.2.1, BM.2.2.2.2.2.2.2.2.2.2.2.1, BM.2.2.2.2.2.2.2.2.2.2.2.2.1, BM.2.2.2.2.2.2.2.2.2.2.2.2.2.1, BM.2.2.2.2.2.2.2.2.2.2.2.2.2.2.1, BM.2.2.2.2.2.2.2.2.2.2.2.2.2.2.2.1, BM.2.2.2.2.2.2.2.2.2.2.2.2.2.2.2.2)) [.ref oM.1] (some (.int r)) (zwM c3.1 c3.2.2 oM (BM.1, BM.2.1, BM.2.2.1, BM.2.2.2.1, BM.2.2.2.2.1, BM.2.2.2.2.2.1, BM.2.2.2.2.2.2.1, BM.2.2.2.2.2.2.2.1, BM.2.2.2.2.2.2.2.2.1, BM.2.2.2.2.2.2.2.2.2.1, Msp', Mfo', Mrd', Mrs', BM.2.2.2.2.2.2.2.2.2.2.2.2.2.2.1, BM.2.2.2.2.2.2.2.2.2.2.2.2.2.2.2.1, BM.2.2.2.2.2.2.2.2.2.2.2.2.2.2.2.2)) := by
  obtain ⟨Ms, Mas, Mpa, Mkn, Mke, Mik, Mpp, Mle, Mso, Mfz, Msp, Mfo, Mrd, Mrs, Mlt, Mfi, Mse⟩ := BM
  have hf : f_X6_areZones Mpp Mle Msp Mfo Mrd Mrs = some (r, Msp', Mfo', Mrd', Mrs') := hf
  show zM l yX6_areZones wsX6_areZones ⟨4, 0, 0, 92⟩ G c3 (zwM c3.1 c3.2.2 oM (Ms, Mas, Mpa, Mkn, Mke, Mik, Mpp, Mle, Mso, Mfz, Msp, Mfo, Mrd, Mrs, Mlt, Mfi, Mse)) [.ref oM.1] (some (.int r)) (zwM c3.1 c3.2.2 oM (Ms, Mas, Mpa, Mkn, Mke, Mik, Mpp, Mle, Mso, Mfz, Msp', Mfo', Mrd', Mrs', Mlt, Mfi, Mse))
  refine zM.of (cc := cX6_areZones) (maxL := 1) (ret := (some .boolean)) (by decide) rfl (Nat.le_of_ble_eq_true rfl) ?_
  intro p e s m args below meth c A ls S0 hr hlk hC hl
  have S0 : CallFix p m c cX6_areZones 1 s args wsX6_areZones RX6 := S0
  have hl : lv_has ls 1 [(0, .ref oM.1)] := hl
  have hx := S0.1
  have hb := S0.2.1
  obtain ⟨H, hH⟩ : ∃ y, y = s.heap := ⟨_, rfl⟩
  rw [← hH] at hC ⊢
  obtain ⟨locs, hlo⟩ : ∃ y : List Loc, y = [] := ⟨_, rfl⟩
  rw [← hlo] at hC ⊢
  clear hH hlo
  unfold f_X6_areZones at hf
  refine lv_aload_n hx hb dX6_areZones_0 rfl (lv_at hl 0 rfl) ?_
  refine lv_iconst (v := 0) hx hb dX6_areZones_1 (by decide) ?_
  refine z_put S0 hC (ci := 6) (C := RX6) (T := TX6) (N := 17) (v := .int 0) jX6_areZones_X6 tyX6 tyX6_ok nmX6 0 rfl rfl 10 (by decide) kX6_areZones_128 rfl rfl rfl rfl (Nat.le_of_ble_eq_true rfl) dX6_areZones_2 (ws2 := (zwM c3.1 c3.2.2 oM (Ms, Mas, Mpa, Mkn, Mke, Mik, Mpp, Mle, Mso, Mfz, 0, Mfo, Mrd, Mrs, Mlt, Mfi, Mse))) rfl (fun H locs hC => ?_)
  refine lv_aload_n hx hb dX6_areZones_5 rfl (lv_at hl 0 rfl) ?_
  refine lv_iconst (v := 1) hx hb dX6_areZones_6 (by decide) ?_
  refine z_put S0 hC (ci := 6) (C := RX6) (T := TX6) (N := 17) (v := .int 1) jX6_areZones_X6 tyX6 tyX6_ok nmX6 0 rfl rfl 11 (by decide) kX6_areZones_131 rfl rfl rfl rfl (Nat.le_of_ble_eq_true rfl) dX6_areZones_7 (ws2 := (zwM c3.1 c3.2.2 oM (Ms, Mas, Mpa, Mkn, Mke, Mik, Mpp, Mle, Mso, Mfz, 0, 1, Mrd, Mrs, Mlt, Mfi, Mse))) rfl (fun H locs hC => ?_)
  refine lv_aload_n hx hb dX6_areZones_10 rfl (lv_at hl 0 rfl) ?_
  refine lv_iconst (v := 0) hx hb dX6_areZones_11 (by decide) ?_
  refine z_put S0 hC (ci := 6) (C := RX6) (T := TX6) (N := 17) (v := .int 0) jX6_areZones_X6 tyX6 tyX6_ok nmX6 0 rfl rfl 13 (by decide) kX6_areZones_148 rfl rfl rfl rfl (Nat.le_of_ble_eq_true rfl) dX6_areZones_12 (ws2 := (zwM c3.1 c3.2.2 oM (Ms, Mas, Mpa, Mkn, Mke, Mik, Mpp, Mle, Mso, Mfz, 0, 1, Mrd, 0, Mlt, Mfi, Mse))) rfl (fun H locs hC => ?_)
  refine lv_aload_n hx hb dX6_areZones_15 rfl (lv_at hl 0 rfl) ?_
  obtain ⟨r1, hr1, hf⟩ := z_bind hf
  refine z_callv (z_runV (n := 0) (rest := []) (As := []) S0 hC (c_X6_takesZone l G c3 oM (Ms, Mas, Mpa, Mkn, Mke, Mik, Mpp, Mle, Mso, Mfz, 0, 1, Mrd, 0, Mlt, Mfi, Mse) hr1) [0, 1, 2, 3, 4, 5, 6, 7] (by decide) rfl gX6_areZones_X6_takesZone rfl rfl rfl (by decide +kernel) ⟨Nat.le_of_ble_eq_true rfl, Nat.le_of_ble_eq_true rfl⟩ (ci := 6) (q0 := 0) rfl rfl rfl hl.1 rfl (Nat.le_of_ble_eq_true rfl) dX6_areZones_16) hC [0, 1, 2, 3, 4, 5, 6, 7] [] [0, 1, 2, 3, 4, 5, 6, 7] rfl (wr := ([] : va_W)) rfl (by decide) (by decide) (ws2 := (zwM c3.1 c3.2.2 oM (Ms, Mas, Mpa, Mkn, Mke, Mik, Mpp, Mle, Mso, Mfz, r1.1, r1.2.1, r1.2.2.1, r1.2.2.2, Mlt, Mfi, Mse))) rfl (by decide) (fun H locs hC => ?_)
  have L19 : ∀ (fu : Nat) (Ms : (Nat → Int32)) (Mas : (Nat → Int32)) (Mpa : (Nat → Int32)) (Mkn : Int32) (Mke : (Nat → Int32)) (Mik : Int32) (Mpp : (Nat → Int32)) (Mle : Int32) (Mso : (Nat → Int32)) (Mfz : Int32) (Msp : Int32) (Mfo : Int32) (Mrd : (Nat → Int32)) (Mrs : Int32) (Mlt : Int32) (Mfi : Int32) (Mse : Int32) (tt : Int32 × Int32 × (Nat → Int32) × Int32), f_X6_areZones_19 Mpp Mle fu Msp Mfo Mrd Mrs = some tt → ∀ (H : Heap) (locs : List Loc) (ls : Array Slot), zC G c3 A s (zwM c3.1 c3.2.2 oM (Ms, Mas, Mpa, Mkn, Mke, Mik, Mpp, Mle, Mso, Mfz, Msp, Mfo, Mrd, Mrs, Mlt, Mfi, Mse)) H locs → lv_has ls 1 [(0, .ref oM.1)] → (∀ (H : Heap) (locs : List Loc) (ls : Array Slot), zC G c3 A s (zwM c3.1 c3.2.2 oM (Ms, Mas, Mpa, Mkn, Mke, Mik, Mpp, Mle, Mso, Mfz, tt.1, tt.2.1, tt.2.2.1, tt.2.2.2, Mlt, Mfi, Mse)) H locs → lv_has ls 1 [(0, .ref oM.1)] → W p l e ⟨4, 0, 0, 92⟩ s m args below meth c H locs 0 0 (MQ below (zPost G (zwM c3.1 c3.2.2 oM (Ms, Mas, Mpa, Mkn, Mke, Mik, Mpp, Mle, Mso, Mfz, Msp', Mfo', Mrd', Mrs', Mlt, Mfi, Mse)) (some (.int r)) A) args s 0 0 A) (F0 m 69 ls [])) → W p l e ⟨4, 0, 0, 92⟩ s m args below meth c H locs 0 0 (MQ below (zPost G (zwM c3.1 c3.2.2 oM (Ms, Mas, Mpa, Mkn, Mke, Mik, Mpp, Mle, Mso, Mfz, Msp', Mfo', Mrd', Mrs', Mlt, Mfi, Mse)) (some (.int r)) A) args s 0 0 A) (F0 m 19 ls []) := by
    intro fu
    induction fu with
    | zero =>
      intro Ms Mas Mpa Mkn Mke Mik Mpp Mle Mso Mfz Msp Mfo Mrd Mrs Mlt Mfi Mse tt hf H locs ls hC hl hK
      exact (z_none hf).elim
    | succ fu ih19 =>
      intro Ms Mas Mpa Mkn Mke Mik Mpp Mle Mso Mfz Msp Mfo Mrd Mrs Mlt Mfi Mse tt hf H locs ls hC hl hK
      replace hf := (f_X6_areZones_19_s Mpp Mle Msp Mfo Mrd Mrs fu).symm.trans hf
      refine lv_aload_n hx hb dX6_areZones_19 rfl (lv_at hl 0 rfl) ?_
      refine z_get S0 hC (ci := 6) (C := RX6) (T := TX6) (N := 17) (v := .int Mfo) jX6_areZones_X6 0 rfl rfl 11 (by decide) kX6_areZones_131 rfl rfl dX6_areZones_20 ?_
      refine lv_if_eq (tgt := 69) hx hb dX6_areZones_23 (by decide) (fun cd3 => ?_) (fun cd3 => ?_)
      · replace hf := z_pos cd3 hf
        have e1 := z_s1 hf
        subst e1
        exact hK H locs ls hC (lv_sub hl [0] rfl)
      · replace hf := z_neg cd3 hf
        refine lv_aload_n hx hb dX6_areZones_26 rfl (lv_at hl 0 rfl) ?_
        refine z_get S0 hC (ci := 6) (C := RX6) (T := TX6) (N := 17) (v := .int Msp) jX6_areZones_X6 0 rfl rfl 10 (by decide) kX6_areZones_128 rfl rfl dX6_areZones_27 ?_
        refine lv_aload_n hx hb dX6_areZones_30 rfl (lv_at hl 0 rfl) ?_
        refine z_get S0 hC (ci := 6) (C := RX6) (T := TX6) (N := 17) (v := .int Mle) jX6_areZones_X6 0 rfl rfl 7 (by decide) kX6_areZones_125 rfl rfl dX6_areZones_31 ?_
        refine lv_icmp_ge (tgt := 69) hx hb dX6_areZones_34 (by decide) (fun cd4 => ?_) (fun cd4 => ?_)
        · replace hf := z_pos cd4 hf
          have e1 := z_s1 hf
          subst e1
          exact hK H locs ls hC (lv_sub hl [0] rfl)
        · replace hf := z_neg cd4 hf
          refine lv_aload_n hx hb dX6_areZones_37 rfl (lv_at hl 0 rfl) ?_
          refine lv_aload_n hx hb dX6_areZones_38 rfl (lv_at hl 0 rfl) ?_
          obtain ⟨r5, hr5, hf⟩ := z_bind hf
          refine z_callPi (z_runV (n := 0) (rest := [.ref oM.1]) (As := []) S0 hC (c_X6_here l G c3 oM (Ms, Mas, Mpa, Mkn, Mke, Mik, Mpp, Mle, Mso, Mfz, Msp, Mfo, Mrd, Mrs, Mlt, Mfi, Mse) hr5) [0, 1, 2, 3, 4, 5, 6, 7] (by decide) rfl gX6_areZones_X6_here rfl rfl rfl (by decide +kernel) ⟨Nat.le_of_ble_eq_true rfl, Nat.le_of_ble_eq_true rfl⟩ (ci := 6) (q0 := 0) rfl rfl rfl hl.1 rfl (Nat.le_of_ble_eq_true rfl) dX6_areZones_39) hC [0, 1, 2, 3, 4, 5, 6, 7] rfl (fun H locs hC => ?_)
          refine lv_bipush (v := 59) hx hb dX6_areZones_42 (by decide) ?_
          obtain ⟨t7, ht7, hf⟩ := z_bind hf
          have Jt7 : ∀ (H : Heap) (locs : List Loc) (ls : Array Slot), zC G c3 A s (zwM c3.1 c3.2.2 oM (Ms, Mas, Mpa, Mkn, Mke, Mik, Mpp, Mle, Mso, Mfz, Msp, Mfo, Mrd, Mrs, Mlt, Mfi, Mse)) H locs → lv_has ls 1 [(0, .ref oM.1)] → W p l e ⟨4, 0, 0, 92⟩ s m args below meth c H locs 0 0 (MQ below (zPost G (zwM c3.1 c3.2.2 oM (Ms, Mas, Mpa, Mkn, Mke, Mik, Mpp, Mle, Mso, Mfz, Msp', Mfo', Mrd', Mrs', Mlt, Mfi, Mse)) (some (.int r)) A) args s 0 0 A) (F0 m 52 ls [.int t7, .ref oM.1]) := by
            intro H locs ls hC hl
            obtain ⟨r8, hr8, hf⟩ := z_bind hf
            refine z_callv (z_runV (n := 1) (rest := []) (As := [.int t7]) S0 hC (c_X6_takes l G c3 oM (Ms, Mas, Mpa, Mkn, Mke, Mik, Mpp, Mle, Mso, Mfz, Msp, Mfo, Mrd, Mrs, Mlt, Mfi, Mse) t7 hr8) [0, 1, 2, 3, 4, 5, 6, 7] (by decide) rfl gX6_areZones_X6_takes rfl rfl rfl (by decide +kernel) ⟨Nat.le_of_ble_eq_true rfl, Nat.le_of_ble_eq_true rfl⟩ (ci := 6) (q0 := 0) rfl rfl rfl hl.1 rfl (Nat.le_of_ble_eq_true rfl) dX6_areZones_52) hC [0, 1, 2, 3, 4, 5, 6, 7] [] [0, 1, 2, 3, 4, 5, 6, 7] rfl (wr := ([] : va_W)) rfl (by decide) (by decide) (ws2 := (zwM c3.1 c3.2.2 oM (Ms, Mas, Mpa, Mkn, Mke, Mik, Mpp, Mle, Mso, Mfz, r8.1, r8.2, Mrd, Mrs, Mlt, Mfi, Mse))) rfl (by decide) (fun H locs hC => ?_)
            refine lv_aload_n hx hb dX6_areZones_55 rfl (lv_at hl 0 rfl) ?_
            refine z_get S0 hC (ci := 6) (C := RX6) (T := TX6) (N := 17) (v := .int r8.2) jX6_areZones_X6 0 rfl rfl 11 (by decide) kX6_areZones_131 rfl rfl dX6_areZones_56 ?_
            refine lv_if_eq (tgt := 19) hx hb dX6_areZones_59 (by decide) (fun cd9 => ?_) (fun cd9 => ?_)
            · replace hf := z_pos cd9 hf
              exact ih19 Ms Mas Mpa Mkn Mke Mik Mpp Mle Mso Mfz r8.1 r8.2 Mrd Mrs Mlt Mfi Mse _ hf H locs ls hC (lv_sub hl [0] rfl) hK
            · replace hf := z_neg cd9 hf
              refine lv_aload_n hx hb dX6_areZones_62 rfl (lv_at hl 0 rfl) ?_
              obtain ⟨r10, hr10, hf⟩ := z_bind hf
              refine z_callv (z_runV (n := 0) (rest := []) (As := []) S0 hC (c_X6_takesZone l G c3 oM (Ms, Mas, Mpa, Mkn, Mke, Mik, Mpp, Mle, Mso, Mfz, r8.1, r8.2, Mrd, Mrs, Mlt, Mfi, Mse) hr10) [0, 1, 2, 3, 4, 5, 6, 7] (by decide) rfl gX6_areZones_X6_takesZone rfl rfl rfl (by decide +kernel) ⟨Nat.le_of_ble_eq_true rfl, Nat.le_of_ble_eq_true rfl⟩ (ci := 6) (q0 := 0) rfl rfl rfl hl.1 rfl (Nat.le_of_ble_eq_true rfl) dX6_areZones_63) hC [0, 1, 2, 3, 4, 5, 6, 7] [] [0, 1, 2, 3, 4, 5, 6, 7] rfl (wr := ([] : va_W)) rfl (by decide) (by decide) (ws2 := (zwM c3.1 c3.2.2 oM (Ms, Mas, Mpa, Mkn, Mke, Mik, Mpp, Mle, Mso, Mfz, r10.1, r10.2.1, r10.2.2.1, r10.2.2.2, Mlt, Mfi, Mse))) rfl (by decide) (fun H locs hC => ?_)
              refine lv_goto (tgt := 19) hx hb dX6_areZones_66 (by decide) ?_
              exact ih19 Ms Mas Mpa Mkn Mke Mik Mpp Mle Mso Mfz r10.1 r10.2.1 r10.2.2.1 r10.2.2.2 Mlt Mfi Mse _ hf H locs ls hC (lv_sub hl [0] rfl) hK
          refine lv_icmp_ne (tgt := 51) hx hb dX6_areZones_44 (by decide) (fun cd6 => ?_) (fun cd6 => ?_)
          · replace ht7 := z_neg cd6 ht7
            refine lv_iconst (v := 0) hx hb dX6_areZones_51 (by decide) ?_
            have e1 := z_s1 ht7
            subst e1
            exact Jt7 H locs ls hC (lv_sub hl [0] rfl)
          · replace ht7 := z_pos cd6 ht7
            refine lv_iconst (v := 1) hx hb dX6_areZones_47 (by decide) ?_
            refine lv_goto (tgt := 52) hx hb dX6_areZones_48 (by decide) ?_
            have e1 := z_s1 ht7
            subst e1
            exact Jt7 H locs ls hC (lv_sub hl [0] rfl)
  obtain ⟨t11, ht11, hf⟩ := z_bind hf
  refine L19 zF Ms Mas Mpa Mkn Mke Mik Mpp Mle Mso Mfz r1.1 r1.2.1 r1.2.2.1 r1.2.2.2 Mlt Mfi Mse t11 ht11 H locs ls hC (lv_sub hl [0] rfl) (fun H locs ls hC hl => ?_)
  refine lv_aload_n hx hb dX6_areZones_69 rfl (lv_at hl 0 rfl) ?_
  refine z_get S0 hC (ci := 6) (C := RX6) (T := TX6) (N := 17) (v := .int t11.2.1) jX6_areZones_X6 0 rfl rfl 11 (by decide) kX6_areZones_131 rfl rfl dX6_areZones_70 ?_
  obtain ⟨w12, hw12, hf⟩ := z_bind hf
  obtain ⟨e1, e2, e3, e4, e5⟩ := z_s5 hf
  subst e1
  subst e2
  subst e3
  subst e4
  subst e5
  exact z_zret S0 hr hlk (zbool_spec hw12) hC dX6_areZones_73

-- X6 takesDeed
def f_X6_takesDeed (Mpp : (Nat → Int32)) (Mle : Int32) (Msp : Int32) (Mfo : Int32) (Mlt : Int32) (Mfi : Int32) (Mse : Int32) : Option (Int32 × Int32 × Int32 × Int32 × Int32) :=
  (f_X6_here Mpp Mle Msp).bind fun r1 => Option.bind (α := Int32) (
    if r1 = 110 then
      some (1)
    else
      if r1 = 111 then
        some (1)
      else
        if r1 = 112 then
          some (1)
        else
          if r1 = 116 then
            some (1)
          else
            some (0)
  ) fun t3 =>
    (f_X6_takes Msp Mfo t3).bind fun r4 => Option.bind (α := Int32 × Int32 × Int32) (
      if r1 = 110 then
        (f_X6_takesNumber Mpp Mle r4.1 r4.2 0 35).bind fun r16 => some (r16.2.1, r16.2.2, r16.1)
      else
        if r1 = 111 then
          (f_X6_takesNumber Mpp Mle r4.1 r4.2 0 35).bind fun r18 => some (r18.2.1, r18.2.2, r18.1)
        else
          some (r4.1, r4.2, Mfi)
    ) fun t6 =>
      Option.bind (α := Int32 × Int32 × Int32) (
        if r1 = 110 then
          (f_X6_here Mpp Mle t6.1).bind fun r11 => Option.bind (α := Int32) (
            if r11 = 46 then
              some (1)
            else
              some (0)
          ) fun t13 =>
            (f_X6_takes t6.1 t6.2.1 t13).bind fun r14 => (f_X6_takesNumber Mpp Mle r14.1 r14.2 1 9).bind fun r15 => some (r15.2.1, r15.2.2, r15.1)
        else
          some (t6.1, t6.2.1, Mse)
      ) fun t8 =>
        if r1 = 116 then
          (f_X6_takesNumber Mpp Mle t8.1 t8.2.1 1 99).bind fun r10 => some (r10.2.1, r10.2.2, r1, r10.1, t8.2.2)
        else
          some (t8.1, t8.2.1, r1, t6.2.2, t8.2.2)

theorem kX6_takesDeed_160 : Cond.fieldLink RX6 160 "ZoneSamplerModel" "letter" "I" ∈ wsX6_takesDeed := by decide +kernel
theorem kX6_takesDeed_163 : Cond.fieldLink RX6 163 "ZoneSamplerModel" "first" "I" ∈ wsX6_takesDeed := by decide +kernel
theorem kX6_takesDeed_166 : Cond.fieldLink RX6 166 "ZoneSamplerModel" "second" "I" ∈ wsX6_takesDeed := by decide +kernel
theorem jX6_takesDeed_X6 : ∀ w ∈ u_ws RX6 TX6 17, w ∈ wsX6_takesDeed := by decide +kernel
set_option maxHeartbeats 4000000 in
set_option maxRecDepth 100000 in
theorem c_X6_takesDeed (l : Launch) (G : va_G) (c3 : zT3) (oM : zR8) (BM : zMd) {Msp' : Int32} {Mfo' : Int32} {Mlt' : Int32} {Mfi' : Int32} {Mse' : Int32} (hf : f_X6_takesDeed BM.2.2.2.2.2.2.1 BM.2.2.2.2.2.2.2.1 BM.2.2.2.2.2.2.2.2.2.2.1 BM.2.2.2.2.2.2.2.2.2.2.2.1 BM.2.2.2.2.2.2.2.2.2.2.2.2.2.2.1 BM.2.2.2.2.2.2.2.2.2.2.2.2.2.2.2.1 BM.2.2.2.2.2.2.2.2.2.2.2.2.2.2.2.2 = some (Msp', Mfo', Mlt', Mfi', Mse')) : zM l yX6_takesDeed wsX6_takesDeed ⟨2, 0, 0, 48⟩ G c3 (zwM c3.1 c3.2.2 oM (BM.1, BM.2.1, BM.2.2.1, BM.2.2.2.1, BM.2.2.2.2.1, BM.2.2.2.2.2.1, BM.2.2.2.2.2.2.1, BM.2.2.2.2.2.2.2.1, BM.2.2.2.2.2.2.2.2.1, BM.2.2.2.2.2.2.2.2.2.1, BM.2.2.2.2.2.2.2.2.2.2.1, BM.2.2.2.2.2.2.2.2.2.2.2.1, BM.2.2.2.2.2.2.2.2.2.2.2.2.1, BM.2.2.2.2.2.2.2.2.2.2.2.2.2.1, BM.2.2.2.2.2.2.2.2.2.2.2.2.2.2.1, BM.2.2.2.2.2.2.2.2.2.2.2.2.2.2.2.1, BM.2.2.2.2.2.2.2.2.2.2.2.2.2.2.2.2)) [.ref oM.1] none (zwM c3.1 c3.2.2 oM (BM.1, BM.2.1, BM.2.2.1, BM.2.2.2.1, BM.2.2.2.2.1, BM.2.2.2.2.2.1, BM.2.2.2.2.2.2.1, BM.2.2.2.2.2.2.2.1, BM.2.2.2.2.2.2.2.2.1, BM.2.2.2.2.2.2.2.2.2.1, Msp', Mfo', BM.2.2.2.2.2.2.2.2.2.2.2.2.1, BM.2.2.2.2.2.2.2.2.2.2.2.2.2.1, Mlt', Mfi', Mse')) := by
  obtain ⟨Ms, Mas, Mpa, Mkn, Mke, Mik, Mpp, Mle, Mso, Mfz, Msp, Mfo, Mrd, Mrs, Mlt, Mfi, Mse⟩ := BM
  have hf : f_X6_takesDeed Mpp Mle Msp Mfo Mlt Mfi Mse = some (Msp', Mfo', Mlt', Mfi', Mse') := hf
  show zM l yX6_takesDeed wsX6_takesDeed ⟨2, 0, 0, 48⟩ G c3 (zwM c3.1 c3.2.2 oM (Ms, Mas, Mpa, Mkn, Mke, Mik, Mpp, Mle, Mso, Mfz, Msp, Mfo, Mrd, Mrs, Mlt, Mfi, Mse)) [.ref oM.1] none (zwM c3.1 c3.2.2 oM (Ms, Mas, Mpa, Mkn, Mke, Mik, Mpp, Mle, Mso, Mfz, Msp', Mfo', Mrd, Mrs, Mlt', Mfi', Mse'))
  refine zM.of (cc := cX6_takesDeed) (maxL := 1) (ret := none) (by decide) rfl (Nat.le_of_ble_eq_true rfl) ?_
  intro p e s m args below meth c A ls S0 hr hlk hC hl
  have S0 : CallFix p m c cX6_takesDeed 1 s args wsX6_takesDeed RX6 := S0
  have hl : lv_has ls 1 [(0, .ref oM.1)] := hl
  have hx := S0.1
  have hb := S0.2.1
  obtain ⟨H, hH⟩ : ∃ y, y = s.heap := ⟨_, rfl⟩
  rw [← hH] at hC ⊢
  obtain ⟨locs, hlo⟩ : ∃ y : List Loc, y = [] := ⟨_, rfl⟩
  rw [← hlo] at hC ⊢
  clear hH hlo
  unfold f_X6_takesDeed at hf
  refine lv_aload_n hx hb dX6_takesDeed_0 rfl (lv_at hl 0 rfl) ?_
  refine lv_aload_n hx hb dX6_takesDeed_1 rfl (lv_at hl 0 rfl) ?_
  obtain ⟨r1, hr1, hf⟩ := z_bind hf
  refine z_callPi (z_runV (n := 0) (rest := [.ref oM.1]) (As := []) S0 hC (c_X6_here l G c3 oM (Ms, Mas, Mpa, Mkn, Mke, Mik, Mpp, Mle, Mso, Mfz, Msp, Mfo, Mrd, Mrs, Mlt, Mfi, Mse) hr1) [0, 1, 2, 3, 4, 5, 6, 7] (by decide) rfl gX6_takesDeed_X6_here rfl rfl rfl (by decide +kernel) ⟨Nat.le_of_ble_eq_true rfl, Nat.le_of_ble_eq_true rfl⟩ (ci := 6) (q0 := 0) rfl rfl rfl hl.1 rfl (Nat.le_of_ble_eq_true rfl) dX6_takesDeed_2) hC [0, 1, 2, 3, 4, 5, 6, 7] rfl (fun H locs hC => ?_)
  refine z_put S0 hC (ci := 6) (C := RX6) (T := TX6) (N := 17) (v := .int r1) jX6_takesDeed_X6 tyX6 tyX6_ok nmX6 0 rfl rfl 14 (by decide) kX6_takesDeed_160 rfl rfl rfl rfl (Nat.le_of_ble_eq_true rfl) dX6_takesDeed_5 (ws2 := (zwM c3.1 c3.2.2 oM (Ms, Mas, Mpa, Mkn, Mke, Mik, Mpp, Mle, Mso, Mfz, Msp, Mfo, Mrd, Mrs, r1, Mfi, Mse))) rfl (fun H locs hC => ?_)
  refine lv_aload_n hx hb dX6_takesDeed_8 rfl (lv_at hl 0 rfl) ?_
  refine lv_aload_n hx hb dX6_takesDeed_9 rfl (lv_at hl 0 rfl) ?_
  refine z_get S0 hC (ci := 6) (C := RX6) (T := TX6) (N := 17) (v := .int r1) jX6_takesDeed_X6 0 rfl rfl 14 (by decide) kX6_takesDeed_160 rfl rfl dX6_takesDeed_10 ?_
  refine lv_bipush (v := 110) hx hb dX6_takesDeed_13 (by decide) ?_
  obtain ⟨t3, ht3, hf⟩ := z_bind hf
  have Jt3 : ∀ (H : Heap) (locs : List Loc) (ls : Array Slot), zC G c3 A s (zwM c3.1 c3.2.2 oM (Ms, Mas, Mpa, Mkn, Mke, Mik, Mpp, Mle, Mso, Mfz, Msp, Mfo, Mrd, Mrs, r1, Mfi, Mse)) H locs → lv_has ls 1 [(0, .ref oM.1)] → W p l e ⟨2, 0, 0, 48⟩ s m args below meth c H locs 0 0 (MQ below (zPost G (zwM c3.1 c3.2.2 oM (Ms, Mas, Mpa, Mkn, Mke, Mik, Mpp, Mle, Mso, Mfz, Msp', Mfo', Mrd, Mrs, Mlt', Mfi', Mse')) none A) args s 0 0 A) (F0 m 50 ls [.int t3, .ref oM.1]) := by
    intro H locs ls hC hl
    obtain ⟨r4, hr4, hf⟩ := z_bind hf
    refine z_callv (z_runV (n := 1) (rest := []) (As := [.int t3]) S0 hC (c_X6_takes l G c3 oM (Ms, Mas, Mpa, Mkn, Mke, Mik, Mpp, Mle, Mso, Mfz, Msp, Mfo, Mrd, Mrs, r1, Mfi, Mse) t3 hr4) [0, 1, 2, 3, 4, 5, 6, 7] (by decide) rfl gX6_takesDeed_X6_takes rfl rfl rfl (by decide +kernel) ⟨Nat.le_of_ble_eq_true rfl, Nat.le_of_ble_eq_true rfl⟩ (ci := 6) (q0 := 0) rfl rfl rfl hl.1 rfl (Nat.le_of_ble_eq_true rfl) dX6_takesDeed_50) hC [0, 1, 2, 3, 4, 5, 6, 7] [] [0, 1, 2, 3, 4, 5, 6, 7] rfl (wr := ([] : va_W)) rfl (by decide) (by decide) (ws2 := (zwM c3.1 c3.2.2 oM (Ms, Mas, Mpa, Mkn, Mke, Mik, Mpp, Mle, Mso, Mfz, r4.1, r4.2, Mrd, Mrs, r1, Mfi, Mse))) rfl (by decide) (fun H locs hC => ?_)
    refine lv_aload_n hx hb dX6_takesDeed_53 rfl (lv_at hl 0 rfl) ?_
    refine z_get S0 hC (ci := 6) (C := RX6) (T := TX6) (N := 17) (v := .int r1) jX6_takesDeed_X6 0 rfl rfl 14 (by decide) kX6_takesDeed_160 rfl rfl dX6_takesDeed_54 ?_
    refine lv_bipush (v := 110) hx hb dX6_takesDeed_57 (by decide) ?_
    obtain ⟨t6, ht6, hf⟩ := z_bind hf
    have Jt6 : ∀ (H : Heap) (locs : List Loc) (ls : Array Slot), zC G c3 A s (zwM c3.1 c3.2.2 oM (Ms, Mas, Mpa, Mkn, Mke, Mik, Mpp, Mle, Mso, Mfz, t6.1, t6.2.1, Mrd, Mrs, r1, t6.2.2, Mse)) H locs → lv_has ls 1 [(0, .ref oM.1)] → W p l e ⟨2, 0, 0, 48⟩ s m args below meth c H locs 0 0 (MQ below (zPost G (zwM c3.1 c3.2.2 oM (Ms, Mas, Mpa, Mkn, Mke, Mik, Mpp, Mle, Mso, Mfz, Msp', Mfo', Mrd, Mrs, Mlt', Mfi', Mse')) none A) args s 0 0 A) (F0 m 82 ls []) := by
      intro H locs ls hC hl
      refine lv_aload_n hx hb dX6_takesDeed_82 rfl (lv_at hl 0 rfl) ?_
      refine z_get S0 hC (ci := 6) (C := RX6) (T := TX6) (N := 17) (v := .int r1) jX6_takesDeed_X6 0 rfl rfl 14 (by decide) kX6_takesDeed_160 rfl rfl dX6_takesDeed_83 ?_
      refine lv_bipush (v := 110) hx hb dX6_takesDeed_86 (by decide) ?_
      obtain ⟨t8, ht8, hf⟩ := z_bind hf
      have Jt8 : ∀ (H : Heap) (locs : List Loc) (ls : Array Slot), zC G c3 A s (zwM c3.1 c3.2.2 oM (Ms, Mas, Mpa, Mkn, Mke, Mik, Mpp, Mle, Mso, Mfz, t8.1, t8.2.1, Mrd, Mrs, r1, t6.2.2, t8.2.2)) H locs → lv_has ls 1 [(0, .ref oM.1)] → W p l e ⟨2, 0, 0, 48⟩ s m args below meth c H locs 0 0 (MQ below (zPost G (zwM c3.1 c3.2.2 oM (Ms, Mas, Mpa, Mkn, Mke, Mik, Mpp, Mle, Mso, Mfz, Msp', Mfo', Mrd, Mrs, Mlt', Mfi', Mse')) none A) args s 0 0 A) (F0 m 120 ls []) := by
        intro H locs ls hC hl
        refine lv_aload_n hx hb dX6_takesDeed_120 rfl (lv_at hl 0 rfl) ?_
        refine z_get S0 hC (ci := 6) (C := RX6) (T := TX6) (N := 17) (v := .int r1) jX6_takesDeed_X6 0 rfl rfl 14 (by decide) kX6_takesDeed_160 rfl rfl dX6_takesDeed_121 ?_
        refine lv_bipush (v := 116) hx hb dX6_takesDeed_124 (by decide) ?_
        refine lv_icmp_ne (tgt := 140) hx hb dX6_takesDeed_126 (by decide) (fun cd9 => ?_) (fun cd9 => ?_)
        · replace hf := z_neg cd9 hf
          obtain ⟨e1, e2, e3, e4, e5⟩ := z_s5 hf
          subst e1
          subst e2
          subst e3
          subst e4
          subst e5
          exact z_vret S0 hr hlk hC dX6_takesDeed_140
        · replace hf := z_pos cd9 hf
          refine lv_aload_n hx hb dX6_takesDeed_129 rfl (lv_at hl 0 rfl) ?_
          refine lv_aload_n hx hb dX6_takesDeed_130 rfl (lv_at hl 0 rfl) ?_
          refine lv_iconst (v := 1) hx hb dX6_takesDeed_131 (by decide) ?_
          refine lv_bipush (v := 99) hx hb dX6_takesDeed_132 (by decide) ?_
          obtain ⟨r10, hr10, hf⟩ := z_bind hf
          refine z_calli (z_runV (n := 2) (rest := [.ref oM.1]) (As := [.int 1, .int 99]) S0 hC (c_X6_takesNumber l G c3 oM (Ms, Mas, Mpa, Mkn, Mke, Mik, Mpp, Mle, Mso, Mfz, t8.1, t8.2.1, Mrd, Mrs, r1, t6.2.2, t8.2.2) 1 99 hr10) [0, 1, 2, 3, 4, 5, 6, 7] (by decide) rfl gX6_takesDeed_X6_takesNumber rfl rfl rfl (by decide +kernel) ⟨Nat.le_of_ble_eq_true rfl, Nat.le_of_ble_eq_true rfl⟩ (ci := 6) (q0 := 0) rfl rfl rfl hl.1 rfl (Nat.le_of_ble_eq_true rfl) dX6_takesDeed_134) hC [0, 1, 2, 3, 4, 5, 6, 7] [] [0, 1, 2, 3, 4, 5, 6, 7] rfl (wr := ([] : va_W)) rfl (by decide) (by decide) (ws2 := (zwM c3.1 c3.2.2 oM (Ms, Mas, Mpa, Mkn, Mke, Mik, Mpp, Mle, Mso, Mfz, r10.2.1, r10.2.2, Mrd, Mrs, r1, t6.2.2, t8.2.2))) rfl (by decide) (fun H locs hC => ?_)
          refine z_put S0 hC (ci := 6) (C := RX6) (T := TX6) (N := 17) (v := .int r10.1) jX6_takesDeed_X6 tyX6 tyX6_ok nmX6 0 rfl rfl 15 (by decide) kX6_takesDeed_163 rfl rfl rfl rfl (Nat.le_of_ble_eq_true rfl) dX6_takesDeed_137 (ws2 := (zwM c3.1 c3.2.2 oM (Ms, Mas, Mpa, Mkn, Mke, Mik, Mpp, Mle, Mso, Mfz, r10.2.1, r10.2.2, Mrd, Mrs, r1, r10.1, t8.2.2))) rfl (fun H locs hC => ?_)
          obtain ⟨e1, e2, e3, e4, e5⟩ := z_s5 hf
          subst e1
          subst e2
          subst e3
          subst e4
          subst e5
          exact z_vret S0 hr hlk hC dX6_takesDeed_140
      refine lv_icmp_ne (tgt := 120) hx hb dX6_takesDeed_88 (by decide) (fun cd7 => ?_) (fun cd7 => ?_)
      · replace ht8 := z_neg cd7 ht8
        have e1 := z_s1 ht8
        subst e1
        exact Jt8 H locs ls hC (lv_sub hl [0] rfl)
      · replace ht8 := z_pos cd7 ht8
        refine lv_aload_n hx hb dX6_takesDeed_91 rfl (lv_at hl 0 rfl) ?_
        refine lv_aload_n hx hb dX6_takesDeed_92 rfl (lv_at hl 0 rfl) ?_
        obtain ⟨r11, hr11, ht8⟩ := z_bind ht8
        refine z_callPi (z_runV (n := 0) (rest := [.ref oM.1]) (As := []) S0 hC (c_X6_here l G c3 oM (Ms, Mas, Mpa, Mkn, Mke, Mik, Mpp, Mle, Mso, Mfz, t6.1, t6.2.1, Mrd, Mrs, r1, t6.2.2, Mse) hr11) [0, 1, 2, 3, 4, 5, 6, 7] (by decide) rfl gX6_takesDeed_X6_here rfl rfl rfl (by decide +kernel) ⟨Nat.le_of_ble_eq_true rfl, Nat.le_of_ble_eq_true rfl⟩ (ci := 6) (q0 := 0) rfl rfl rfl hl.1 rfl (Nat.le_of_ble_eq_true rfl) dX6_takesDeed_93) hC [0, 1, 2, 3, 4, 5, 6, 7] rfl (fun H locs hC => ?_)
        refine lv_bipush (v := 46) hx hb dX6_takesDeed_96 (by decide) ?_
        obtain ⟨t13, ht13, ht8⟩ := z_bind ht8
        have Jt13 : ∀ (H : Heap) (locs : List Loc) (ls : Array Slot), zC G c3 A s (zwM c3.1 c3.2.2 oM (Ms, Mas, Mpa, Mkn, Mke, Mik, Mpp, Mle, Mso, Mfz, t6.1, t6.2.1, Mrd, Mrs, r1, t6.2.2, Mse)) H locs → lv_has ls 1 [(0, .ref oM.1)] → W p l e ⟨2, 0, 0, 48⟩ s m args below meth c H locs 0 0 (MQ below (zPost G (zwM c3.1 c3.2.2 oM (Ms, Mas, Mpa, Mkn, Mke, Mik, Mpp, Mle, Mso, Mfz, Msp', Mfo', Mrd, Mrs, Mlt', Mfi', Mse')) none A) args s 0 0 A) (F0 m 106 ls [.int t13, .ref oM.1]) := by
          intro H locs ls hC hl
          obtain ⟨r14, hr14, ht8⟩ := z_bind ht8
          refine z_callv (z_runV (n := 1) (rest := []) (As := [.int t13]) S0 hC (c_X6_takes l G c3 oM (Ms, Mas, Mpa, Mkn, Mke, Mik, Mpp, Mle, Mso, Mfz, t6.1, t6.2.1, Mrd, Mrs, r1, t6.2.2, Mse) t13 hr14) [0, 1, 2, 3, 4, 5, 6, 7] (by decide) rfl gX6_takesDeed_X6_takes rfl rfl rfl (by decide +kernel) ⟨Nat.le_of_ble_eq_true rfl, Nat.le_of_ble_eq_true rfl⟩ (ci := 6) (q0 := 0) rfl rfl rfl hl.1 rfl (Nat.le_of_ble_eq_true rfl) dX6_takesDeed_106) hC [0, 1, 2, 3, 4, 5, 6, 7] [] [0, 1, 2, 3, 4, 5, 6, 7] rfl (wr := ([] : va_W)) rfl (by decide) (by decide) (ws2 := (zwM c3.1 c3.2.2 oM (Ms, Mas, Mpa, Mkn, Mke, Mik, Mpp, Mle, Mso, Mfz, r14.1, r14.2, Mrd, Mrs, r1, t6.2.2, Mse))) rfl (by decide) (fun H locs hC => ?_)
          refine lv_aload_n hx hb dX6_takesDeed_109 rfl (lv_at hl 0 rfl) ?_
          refine lv_aload_n hx hb dX6_takesDeed_110 rfl (lv_at hl 0 rfl) ?_
          refine lv_iconst (v := 1) hx hb dX6_takesDeed_111 (by decide) ?_
          refine lv_bipush (v := 9) hx hb dX6_takesDeed_112 (by decide) ?_
          obtain ⟨r15, hr15, ht8⟩ := z_bind ht8
          refine z_calli (z_runV (n := 2) (rest := [.ref oM.1]) (As := [.int 1, .int 9]) S0 hC (c_X6_takesNumber l G c3 oM (Ms, Mas, Mpa, Mkn, Mke, Mik, Mpp, Mle, Mso, Mfz, r14.1, r14.2, Mrd, Mrs, r1, t6.2.2, Mse) 1 9 hr15) [0, 1, 2, 3, 4, 5, 6, 7] (by decide) rfl gX6_takesDeed_X6_takesNumber rfl rfl rfl (by decide +kernel) ⟨Nat.le_of_ble_eq_true rfl, Nat.le_of_ble_eq_true rfl⟩ (ci := 6) (q0 := 0) rfl rfl rfl hl.1 rfl (Nat.le_of_ble_eq_true rfl) dX6_takesDeed_114) hC [0, 1, 2, 3, 4, 5, 6, 7] [] [0, 1, 2, 3, 4, 5, 6, 7] rfl (wr := ([] : va_W)) rfl (by decide) (by decide) (ws2 := (zwM c3.1 c3.2.2 oM (Ms, Mas, Mpa, Mkn, Mke, Mik, Mpp, Mle, Mso, Mfz, r15.2.1, r15.2.2, Mrd, Mrs, r1, t6.2.2, Mse))) rfl (by decide) (fun H locs hC => ?_)
          refine z_put S0 hC (ci := 6) (C := RX6) (T := TX6) (N := 17) (v := .int r15.1) jX6_takesDeed_X6 tyX6 tyX6_ok nmX6 0 rfl rfl 16 (by decide) kX6_takesDeed_166 rfl rfl rfl rfl (Nat.le_of_ble_eq_true rfl) dX6_takesDeed_117 (ws2 := (zwM c3.1 c3.2.2 oM (Ms, Mas, Mpa, Mkn, Mke, Mik, Mpp, Mle, Mso, Mfz, r15.2.1, r15.2.2, Mrd, Mrs, r1, t6.2.2, r15.1))) rfl (fun H locs hC => ?_)
          have e1 := z_s1 ht8
          subst e1
          exact Jt8 H locs ls hC (lv_sub hl [0] rfl)
        refine lv_icmp_ne (tgt := 105) hx hb dX6_takesDeed_98 (by decide) (fun cd12 => ?_) (fun cd12 => ?_)
        · replace ht13 := z_neg cd12 ht13
          refine lv_iconst (v := 0) hx hb dX6_takesDeed_105 (by decide) ?_
          have e1 := z_s1 ht13
          subst e1
          exact Jt13 H locs ls hC (lv_sub hl [0] rfl)
        · replace ht13 := z_pos cd12 ht13
          refine lv_iconst (v := 1) hx hb dX6_takesDeed_101 (by decide) ?_
          refine lv_goto (tgt := 106) hx hb dX6_takesDeed_102 (by decide) ?_
          have e1 := z_s1 ht13
          subst e1
          exact Jt13 H locs ls hC (lv_sub hl [0] rfl)
    refine lv_icmp_eq (tgt := 71) hx hb dX6_takesDeed_59 (by decide) (fun cd5 => ?_) (fun cd5 => ?_)
    · replace ht6 := z_pos cd5 ht6
      refine lv_aload_n hx hb dX6_takesDeed_71 rfl (lv_at hl 0 rfl) ?_
      refine lv_aload_n hx hb dX6_takesDeed_72 rfl (lv_at hl 0 rfl) ?_
      refine lv_iconst (v := 0) hx hb dX6_takesDeed_73 (by decide) ?_
      refine lv_bipush (v := 35) hx hb dX6_takesDeed_74 (by decide) ?_
      obtain ⟨r16, hr16, ht6⟩ := z_bind ht6
      refine z_calli (z_runV (n := 2) (rest := [.ref oM.1]) (As := [.int 0, .int 35]) S0 hC (c_X6_takesNumber l G c3 oM (Ms, Mas, Mpa, Mkn, Mke, Mik, Mpp, Mle, Mso, Mfz, r4.1, r4.2, Mrd, Mrs, r1, Mfi, Mse) 0 35 hr16) [0, 1, 2, 3, 4, 5, 6, 7] (by decide) rfl gX6_takesDeed_X6_takesNumber rfl rfl rfl (by decide +kernel) ⟨Nat.le_of_ble_eq_true rfl, Nat.le_of_ble_eq_true rfl⟩ (ci := 6) (q0 := 0) rfl rfl rfl hl.1 rfl (Nat.le_of_ble_eq_true rfl) dX6_takesDeed_76) hC [0, 1, 2, 3, 4, 5, 6, 7] [] [0, 1, 2, 3, 4, 5, 6, 7] rfl (wr := ([] : va_W)) rfl (by decide) (by decide) (ws2 := (zwM c3.1 c3.2.2 oM (Ms, Mas, Mpa, Mkn, Mke, Mik, Mpp, Mle, Mso, Mfz, r16.2.1, r16.2.2, Mrd, Mrs, r1, Mfi, Mse))) rfl (by decide) (fun H locs hC => ?_)
      refine z_put S0 hC (ci := 6) (C := RX6) (T := TX6) (N := 17) (v := .int r16.1) jX6_takesDeed_X6 tyX6 tyX6_ok nmX6 0 rfl rfl 15 (by decide) kX6_takesDeed_163 rfl rfl rfl rfl (Nat.le_of_ble_eq_true rfl) dX6_takesDeed_79 (ws2 := (zwM c3.1 c3.2.2 oM (Ms, Mas, Mpa, Mkn, Mke, Mik, Mpp, Mle, Mso, Mfz, r16.2.1, r16.2.2, Mrd, Mrs, r1, r16.1, Mse))) rfl (fun H locs hC => ?_)
      have e1 := z_s1 ht6
      subst e1
      exact Jt6 H locs ls hC (lv_sub hl [0] rfl)
    · replace ht6 := z_neg cd5 ht6
      refine lv_aload_n hx hb dX6_takesDeed_62 rfl (lv_at hl 0 rfl) ?_
      refine z_get S0 hC (ci := 6) (C := RX6) (T := TX6) (N := 17) (v := .int r1) jX6_takesDeed_X6 0 rfl rfl 14 (by decide) kX6_takesDeed_160 rfl rfl dX6_takesDeed_63 ?_
      refine lv_bipush (v := 111) hx hb dX6_takesDeed_66 (by decide) ?_
      refine lv_icmp_ne (tgt := 82) hx hb dX6_takesDeed_68 (by decide) (fun cd17 => ?_) (fun cd17 => ?_)
      · replace ht6 := z_neg cd17 ht6
        have e1 := z_s1 ht6
        subst e1
        exact Jt6 H locs ls hC (lv_sub hl [0] rfl)
      · replace ht6 := z_pos cd17 ht6
        refine lv_aload_n hx hb dX6_takesDeed_71 rfl (lv_at hl 0 rfl) ?_
        refine lv_aload_n hx hb dX6_takesDeed_72 rfl (lv_at hl 0 rfl) ?_
        refine lv_iconst (v := 0) hx hb dX6_takesDeed_73 (by decide) ?_
        refine lv_bipush (v := 35) hx hb dX6_takesDeed_74 (by decide) ?_
        obtain ⟨r18, hr18, ht6⟩ := z_bind ht6
        refine z_calli (z_runV (n := 2) (rest := [.ref oM.1]) (As := [.int 0, .int 35]) S0 hC (c_X6_takesNumber l G c3 oM (Ms, Mas, Mpa, Mkn, Mke, Mik, Mpp, Mle, Mso, Mfz, r4.1, r4.2, Mrd, Mrs, r1, Mfi, Mse) 0 35 hr18) [0, 1, 2, 3, 4, 5, 6, 7] (by decide) rfl gX6_takesDeed_X6_takesNumber rfl rfl rfl (by decide +kernel) ⟨Nat.le_of_ble_eq_true rfl, Nat.le_of_ble_eq_true rfl⟩ (ci := 6) (q0 := 0) rfl rfl rfl hl.1 rfl (Nat.le_of_ble_eq_true rfl) dX6_takesDeed_76) hC [0, 1, 2, 3, 4, 5, 6, 7] [] [0, 1, 2, 3, 4, 5, 6, 7] rfl (wr := ([] : va_W)) rfl (by decide) (by decide) (ws2 := (zwM c3.1 c3.2.2 oM (Ms, Mas, Mpa, Mkn, Mke, Mik, Mpp, Mle, Mso, Mfz, r18.2.1, r18.2.2, Mrd, Mrs, r1, Mfi, Mse))) rfl (by decide) (fun H locs hC => ?_)
        refine z_put S0 hC (ci := 6) (C := RX6) (T := TX6) (N := 17) (v := .int r18.1) jX6_takesDeed_X6 tyX6 tyX6_ok nmX6 0 rfl rfl 15 (by decide) kX6_takesDeed_163 rfl rfl rfl rfl (Nat.le_of_ble_eq_true rfl) dX6_takesDeed_79 (ws2 := (zwM c3.1 c3.2.2 oM (Ms, Mas, Mpa, Mkn, Mke, Mik, Mpp, Mle, Mso, Mfz, r18.2.1, r18.2.2, Mrd, Mrs, r1, r18.1, Mse))) rfl (fun H locs hC => ?_)
        have e1 := z_s1 ht6
        subst e1
        exact Jt6 H locs ls hC (lv_sub hl [0] rfl)
  refine lv_icmp_eq (tgt := 45) hx hb dX6_takesDeed_15 (by decide) (fun cd2 => ?_) (fun cd2 => ?_)
  · replace ht3 := z_pos cd2 ht3
    refine lv_iconst (v := 1) hx hb dX6_takesDeed_45 (by decide) ?_
    refine lv_goto (tgt := 50) hx hb dX6_takesDeed_46 (by decide) ?_
    have e1 := z_s1 ht3
    subst e1
    exact Jt3 H locs ls hC (lv_sub hl [0] rfl)
  · replace ht3 := z_neg cd2 ht3
    refine lv_aload_n hx hb dX6_takesDeed_18 rfl (lv_at hl 0 rfl) ?_
    refine z_get S0 hC (ci := 6) (C := RX6) (T := TX6) (N := 17) (v := .int r1) jX6_takesDeed_X6 0 rfl rfl 14 (by decide) kX6_takesDeed_160 rfl rfl dX6_takesDeed_19 ?_
    refine lv_bipush (v := 111) hx hb dX6_takesDeed_22 (by decide) ?_
    refine lv_icmp_eq (tgt := 45) hx hb dX6_takesDeed_24 (by decide) (fun cd19 => ?_) (fun cd19 => ?_)
    · replace ht3 := z_pos cd19 ht3
      refine lv_iconst (v := 1) hx hb dX6_takesDeed_45 (by decide) ?_
      refine lv_goto (tgt := 50) hx hb dX6_takesDeed_46 (by decide) ?_
      have e1 := z_s1 ht3
      subst e1
      exact Jt3 H locs ls hC (lv_sub hl [0] rfl)
    · replace ht3 := z_neg cd19 ht3
      refine lv_aload_n hx hb dX6_takesDeed_27 rfl (lv_at hl 0 rfl) ?_
      refine z_get S0 hC (ci := 6) (C := RX6) (T := TX6) (N := 17) (v := .int r1) jX6_takesDeed_X6 0 rfl rfl 14 (by decide) kX6_takesDeed_160 rfl rfl dX6_takesDeed_28 ?_
      refine lv_bipush (v := 112) hx hb dX6_takesDeed_31 (by decide) ?_
      refine lv_icmp_eq (tgt := 45) hx hb dX6_takesDeed_33 (by decide) (fun cd20 => ?_) (fun cd20 => ?_)
      · replace ht3 := z_pos cd20 ht3
        refine lv_iconst (v := 1) hx hb dX6_takesDeed_45 (by decide) ?_
        refine lv_goto (tgt := 50) hx hb dX6_takesDeed_46 (by decide) ?_
        have e1 := z_s1 ht3
        subst e1
        exact Jt3 H locs ls hC (lv_sub hl [0] rfl)
      · replace ht3 := z_neg cd20 ht3
        refine lv_aload_n hx hb dX6_takesDeed_36 rfl (lv_at hl 0 rfl) ?_
        refine z_get S0 hC (ci := 6) (C := RX6) (T := TX6) (N := 17) (v := .int r1) jX6_takesDeed_X6 0 rfl rfl 14 (by decide) kX6_takesDeed_160 rfl rfl dX6_takesDeed_37 ?_
        refine lv_bipush (v := 116) hx hb dX6_takesDeed_40 (by decide) ?_
        refine lv_icmp_ne (tgt := 49) hx hb dX6_takesDeed_42 (by decide) (fun cd21 => ?_) (fun cd21 => ?_)
        · replace ht3 := z_neg cd21 ht3
          refine lv_iconst (v := 0) hx hb dX6_takesDeed_49 (by decide) ?_
          have e1 := z_s1 ht3
          subst e1
          exact Jt3 H locs ls hC (lv_sub hl [0] rfl)
        · replace ht3 := z_pos cd21 ht3
          refine lv_iconst (v := 1) hx hb dX6_takesDeed_45 (by decide) ?_
          refine lv_goto (tgt := 50) hx hb dX6_takesDeed_46 (by decide) ?_
          have e1 := z_s1 ht3
          subst e1
          exact Jt3 H locs ls hC (lv_sub hl [0] rfl)

-- X6 isScore
def f_X6_isScore_14 (Mpp : (Nat → Int32)) (Mle : Int32) : Nat → Int32 → Int32 → Int32 → Int32 → Int32 → Option (Int32 × Int32 × Int32 × Int32 × Int32)
  | 0, _, _, _, _, _ => none
  | fu + 1, Msp, Mfo, Mlt, Mfi, Mse =>
    if Mfo = 0 then
      some (Msp, Mfo, Mlt, Mfi, Mse)
    else
      if Mle ≤ Msp then
        some (Msp, Mfo, Mlt, Mfi, Mse)
      else
        (f_X6_here Mpp Mle Msp).bind fun r5 => Option.bind (α := Int32) (
          if r5 = 59 then
            some (1)
          else
            some (0)
        ) fun t7 =>
          (f_X6_takes Msp Mfo t7).bind fun r8 => if r8.2 = 0 then
            f_X6_isScore_14 Mpp Mle fu r8.1 r8.2 Mlt Mfi Mse
          else
            (f_X6_takesDeed Mpp Mle r8.1 r8.2 Mlt Mfi Mse).bind fun r10 => f_X6_isScore_14 Mpp Mle fu r10.1 r10.2.1 r10.2.2.1 r10.2.2.2.1 r10.2.2.2.2

theorem f_X6_isScore_14_s (Mpp : (Nat → Int32)) (Mle : Int32) (Msp : Int32) (Mfo : Int32) (Mlt : Int32) (Mfi : Int32) (Mse : Int32) (fu : Nat) : f_X6_isScore_14 Mpp Mle (fu + 1) Msp Mfo Mlt Mfi Mse = (
    if Mfo = 0 then
      some (Msp, Mfo, Mlt, Mfi, Mse)
    else
      if Mle ≤ Msp then
        some (Msp, Mfo, Mlt, Mfi, Mse)
      else
        (f_X6_here Mpp Mle Msp).bind fun r5 => Option.bind (α := Int32) (
          if r5 = 59 then
            some (1)
          else
            some (0)
        ) fun t7 =>
          (f_X6_takes Msp Mfo t7).bind fun r8 => if r8.2 = 0 then
            f_X6_isScore_14 Mpp Mle fu r8.1 r8.2 Mlt Mfi Mse
          else
            (f_X6_takesDeed Mpp Mle r8.1 r8.2 Mlt Mfi Mse).bind fun r10 => f_X6_isScore_14 Mpp Mle fu r10.1 r10.2.1 r10.2.2.1 r10.2.2.2.1 r10.2.2.2.2
    ) := rfl

def f_X6_isScore (Mpp : (Nat → Int32)) (Mle : Int32) (Msp : Int32) (Mfo : Int32) (Mlt : Int32) (Mfi : Int32) (Mse : Int32) : Option (Int32 × Int32 × Int32 × Int32 × Int32 × Int32) :=
  (f_X6_takesDeed Mpp Mle 0 1 Mlt Mfi Mse).bind fun r1 => (f_X6_isScore_14 Mpp Mle zF r1.1 r1.2.1 r1.2.2.1 r1.2.2.2.1 r1.2.2.2.2).bind fun t11 =>
    (zbool t11.2.1).bind fun _ => some (t11.2.1, t11.1, t11.2.1, t11.2.2.1, t11.2.2.2.1, t11.2.2.2.2)

theorem kX6_isScore_128 : Cond.fieldLink RX6 128 "ZoneSamplerModel" "spot" "I" ∈ wsX6_isScore := by decide +kernel
theorem kX6_isScore_131 : Cond.fieldLink RX6 131 "ZoneSamplerModel" "isForm" "Z" ∈ wsX6_isScore := by decide +kernel
theorem kX6_isScore_125 : Cond.fieldLink RX6 125 "ZoneSamplerModel" "length" "I" ∈ wsX6_isScore := by decide +kernel
theorem jX6_isScore_X6 : ∀ w ∈ u_ws RX6 TX6 17, w ∈ wsX6_isScore := by decide +kernel
set_option maxHeartbeats 4000000 in
set_option maxRecDepth 100000 in
theorem c_X6_isScore (l : Launch) (G : va_G) (c3 : zT3) (oM : zR8) (BM : zMd) {r : Int32} {Msp' : Int32} {Mfo' : Int32} {Mlt' : Int32} {Mfi' : Int32} {Mse' : Int32} (hf : f_X6_isScore BM.2.2.2.2.2.2.1 BM.2.2.2.2.2.2.2.1 BM.2.2.2.2.2.2.2.2.2.2.1 BM.2.2.2.2.2.2.2.2.2.2.2.1 BM.2.2.2.2.2.2.2.2.2.2.2.2.2.2.1 BM.2.2.2.2.2.2.2.2.2.2.2.2.2.2.2.1 BM.2.2.2.2.2.2.2.2.2.2.2.2.2.2.2.2 = some (r, Msp', Mfo', Mlt', Mfi', Mse')) : zM l yX6_isScore wsX6_isScore ⟨3, 0, 0, 68⟩ G c3 (zwM c3.1 c3.2.2 oM (BM.1, BM.2.1, BM.2.2.1, BM.2.2.2.1, BM.2.2.2.2.1, BM.2.2.2.2.2.1, BM.2.2.2.2.2.2.1, BM.2.2.2.2.2.2.2.1, BM.2.2.2.2.2.2.2.2.1, BM.2.2.2.2.2.2.2.2.2.1, BM.2.2.2.2.2.2.2.2.2.2.1, BM.2.2.2.2.2.2.2.2.2.2.2.1, BM.2.2.2.2.2.2.2.2.2.2.2.2.1, BM.2.2.2.2.2.2.2.2.2.2.2.2.2.1, BM.2.2.2.2.2.2.2.2.2.2.2.2.2.2.1, BM.2.2.2.2.2.2.2.2.2.2.2.2.2.2.2.1, BM.2.2.2.2.2.2.2.2.2.2.2.2.2.2.2.2)) [.ref oM.1] (some (.int r)) (zwM c3.1 c3.2.2 oM (BM.1, BM.2.1, BM.2.2.1, BM.2.2.2.1, BM.2.2.2.2.1, BM.2.2.2.2.2.1, BM.2.2.2.2.2.2.1, BM.2.2.2.2.2.2.2.1, BM.2.2.2.2.2.2.2.2.1, BM.2.2.2.2.2.2.2.2.2.1, Msp', Mfo', BM.2.2.2.2.2.2.2.2.2.2.2.2.1, BM.2.2.2.2.2.2.2.2.2.2.2.2.2.1, Mlt', Mfi', Mse')) := by
  obtain ⟨Ms, Mas, Mpa, Mkn, Mke, Mik, Mpp, Mle, Mso, Mfz, Msp, Mfo, Mrd, Mrs, Mlt, Mfi, Mse⟩ := BM
  have hf : f_X6_isScore Mpp Mle Msp Mfo Mlt Mfi Mse = some (r, Msp', Mfo', Mlt', Mfi', Mse') := hf
  show zM l yX6_isScore wsX6_isScore ⟨3, 0, 0, 68⟩ G c3 (zwM c3.1 c3.2.2 oM (Ms, Mas, Mpa, Mkn, Mke, Mik, Mpp, Mle, Mso, Mfz, Msp, Mfo, Mrd, Mrs, Mlt, Mfi, Mse)) [.ref oM.1] (some (.int r)) (zwM c3.1 c3.2.2 oM (Ms, Mas, Mpa, Mkn, Mke, Mik, Mpp, Mle, Mso, Mfz, Msp', Mfo', Mrd, Mrs, Mlt', Mfi', Mse'))
  refine zM.of (cc := cX6_isScore) (maxL := 1) (ret := (some .boolean)) (by decide) rfl (Nat.le_of_ble_eq_true rfl) ?_
  intro p e s m args below meth c A ls S0 hr hlk hC hl
  have S0 : CallFix p m c cX6_isScore 1 s args wsX6_isScore RX6 := S0
  have hl : lv_has ls 1 [(0, .ref oM.1)] := hl
  have hx := S0.1
  have hb := S0.2.1
  obtain ⟨H, hH⟩ : ∃ y, y = s.heap := ⟨_, rfl⟩
  rw [← hH] at hC ⊢
  obtain ⟨locs, hlo⟩ : ∃ y : List Loc, y = [] := ⟨_, rfl⟩
  rw [← hlo] at hC ⊢
  clear hH hlo
  unfold f_X6_isScore at hf
  refine lv_aload_n hx hb dX6_isScore_0 rfl (lv_at hl 0 rfl) ?_
  refine lv_iconst (v := 0) hx hb dX6_isScore_1 (by decide) ?_
  refine z_put S0 hC (ci := 6) (C := RX6) (T := TX6) (N := 17) (v := .int 0) jX6_isScore_X6 tyX6 tyX6_ok nmX6 0 rfl rfl 10 (by decide) kX6_isScore_128 rfl rfl rfl rfl (Nat.le_of_ble_eq_true rfl) dX6_isScore_2 (ws2 := (zwM c3.1 c3.2.2 oM (Ms, Mas, Mpa, Mkn, Mke, Mik, Mpp, Mle, Mso, Mfz, 0, Mfo, Mrd, Mrs, Mlt, Mfi, Mse))) rfl (fun H locs hC => ?_)
  refine lv_aload_n hx hb dX6_isScore_5 rfl (lv_at hl 0 rfl) ?_
  refine lv_iconst (v := 1) hx hb dX6_isScore_6 (by decide) ?_
  refine z_put S0 hC (ci := 6) (C := RX6) (T := TX6) (N := 17) (v := .int 1) jX6_isScore_X6 tyX6 tyX6_ok nmX6 0 rfl rfl 11 (by decide) kX6_isScore_131 rfl rfl rfl rfl (Nat.le_of_ble_eq_true rfl) dX6_isScore_7 (ws2 := (zwM c3.1 c3.2.2 oM (Ms, Mas, Mpa, Mkn, Mke, Mik, Mpp, Mle, Mso, Mfz, 0, 1, Mrd, Mrs, Mlt, Mfi, Mse))) rfl (fun H locs hC => ?_)
  refine lv_aload_n hx hb dX6_isScore_10 rfl (lv_at hl 0 rfl) ?_
  obtain ⟨r1, hr1, hf⟩ := z_bind hf
  refine z_callv (z_runV (n := 0) (rest := []) (As := []) S0 hC (c_X6_takesDeed l G c3 oM (Ms, Mas, Mpa, Mkn, Mke, Mik, Mpp, Mle, Mso, Mfz, 0, 1, Mrd, Mrs, Mlt, Mfi, Mse) hr1) [0, 1, 2, 3, 4, 5, 6, 7] (by decide) rfl gX6_isScore_X6_takesDeed rfl rfl rfl (by decide +kernel) ⟨Nat.le_of_ble_eq_true rfl, Nat.le_of_ble_eq_true rfl⟩ (ci := 6) (q0 := 0) rfl rfl rfl hl.1 rfl (Nat.le_of_ble_eq_true rfl) dX6_isScore_11) hC [0, 1, 2, 3, 4, 5, 6, 7] [] [0, 1, 2, 3, 4, 5, 6, 7] rfl (wr := ([] : va_W)) rfl (by decide) (by decide) (ws2 := (zwM c3.1 c3.2.2 oM (Ms, Mas, Mpa, Mkn, Mke, Mik, Mpp, Mle, Mso, Mfz, r1.1, r1.2.1, Mrd, Mrs, r1.2.2.1, r1.2.2.2.1, r1.2.2.2.2))) rfl (by decide) (fun H locs hC => ?_)
  have L14 : ∀ (fu : Nat) (Ms : (Nat → Int32)) (Mas : (Nat → Int32)) (Mpa : (Nat → Int32)) (Mkn : Int32) (Mke : (Nat → Int32)) (Mik : Int32) (Mpp : (Nat → Int32)) (Mle : Int32) (Mso : (Nat → Int32)) (Mfz : Int32) (Msp : Int32) (Mfo : Int32) (Mrd : (Nat → Int32)) (Mrs : Int32) (Mlt : Int32) (Mfi : Int32) (Mse : Int32) (tt : Int32 × Int32 × Int32 × Int32 × Int32), f_X6_isScore_14 Mpp Mle fu Msp Mfo Mlt Mfi Mse = some tt → ∀ (H : Heap) (locs : List Loc) (ls : Array Slot), zC G c3 A s (zwM c3.1 c3.2.2 oM (Ms, Mas, Mpa, Mkn, Mke, Mik, Mpp, Mle, Mso, Mfz, Msp, Mfo, Mrd, Mrs, Mlt, Mfi, Mse)) H locs → lv_has ls 1 [(0, .ref oM.1)] → (∀ (H : Heap) (locs : List Loc) (ls : Array Slot), zC G c3 A s (zwM c3.1 c3.2.2 oM (Ms, Mas, Mpa, Mkn, Mke, Mik, Mpp, Mle, Mso, Mfz, tt.1, tt.2.1, Mrd, Mrs, tt.2.2.1, tt.2.2.2.1, tt.2.2.2.2)) H locs → lv_has ls 1 [(0, .ref oM.1)] → W p l e ⟨3, 0, 0, 68⟩ s m args below meth c H locs 0 0 (MQ below (zPost G (zwM c3.1 c3.2.2 oM (Ms, Mas, Mpa, Mkn, Mke, Mik, Mpp, Mle, Mso, Mfz, Msp', Mfo', Mrd, Mrs, Mlt', Mfi', Mse')) (some (.int r)) A) args s 0 0 A) (F0 m 64 ls [])) → W p l e ⟨3, 0, 0, 68⟩ s m args below meth c H locs 0 0 (MQ below (zPost G (zwM c3.1 c3.2.2 oM (Ms, Mas, Mpa, Mkn, Mke, Mik, Mpp, Mle, Mso, Mfz, Msp', Mfo', Mrd, Mrs, Mlt', Mfi', Mse')) (some (.int r)) A) args s 0 0 A) (F0 m 14 ls []) := by
    intro fu
    induction fu with
    | zero =>
      intro Ms Mas Mpa Mkn Mke Mik Mpp Mle Mso Mfz Msp Mfo Mrd Mrs Mlt Mfi Mse tt hf H locs ls hC hl hK
      exact (z_none hf).elim
    | succ fu ih14 =>
      intro Ms Mas Mpa Mkn Mke Mik Mpp Mle Mso Mfz Msp Mfo Mrd Mrs Mlt Mfi Mse tt hf H locs ls hC hl hK
      replace hf := (f_X6_isScore_14_s Mpp Mle Msp Mfo Mlt Mfi Mse fu).symm.trans hf
      refine lv_aload_n hx hb dX6_isScore_14 rfl (lv_at hl 0 rfl) ?_
      refine z_get S0 hC (ci := 6) (C := RX6) (T := TX6) (N := 17) (v := .int Mfo) jX6_isScore_X6 0 rfl rfl 11 (by decide) kX6_isScore_131 rfl rfl dX6_isScore_15 ?_
      refine lv_if_eq (tgt := 64) hx hb dX6_isScore_18 (by decide) (fun cd3 => ?_) (fun cd3 => ?_)
      · replace hf := z_pos cd3 hf
        have e1 := z_s1 hf
        subst e1
        exact hK H locs ls hC (lv_sub hl [0] rfl)
      · replace hf := z_neg cd3 hf
        refine lv_aload_n hx hb dX6_isScore_21 rfl (lv_at hl 0 rfl) ?_
        refine z_get S0 hC (ci := 6) (C := RX6) (T := TX6) (N := 17) (v := .int Msp) jX6_isScore_X6 0 rfl rfl 10 (by decide) kX6_isScore_128 rfl rfl dX6_isScore_22 ?_
        refine lv_aload_n hx hb dX6_isScore_25 rfl (lv_at hl 0 rfl) ?_
        refine z_get S0 hC (ci := 6) (C := RX6) (T := TX6) (N := 17) (v := .int Mle) jX6_isScore_X6 0 rfl rfl 7 (by decide) kX6_isScore_125 rfl rfl dX6_isScore_26 ?_
        refine lv_icmp_ge (tgt := 64) hx hb dX6_isScore_29 (by decide) (fun cd4 => ?_) (fun cd4 => ?_)
        · replace hf := z_pos cd4 hf
          have e1 := z_s1 hf
          subst e1
          exact hK H locs ls hC (lv_sub hl [0] rfl)
        · replace hf := z_neg cd4 hf
          refine lv_aload_n hx hb dX6_isScore_32 rfl (lv_at hl 0 rfl) ?_
          refine lv_aload_n hx hb dX6_isScore_33 rfl (lv_at hl 0 rfl) ?_
          obtain ⟨r5, hr5, hf⟩ := z_bind hf
          refine z_callPi (z_runV (n := 0) (rest := [.ref oM.1]) (As := []) S0 hC (c_X6_here l G c3 oM (Ms, Mas, Mpa, Mkn, Mke, Mik, Mpp, Mle, Mso, Mfz, Msp, Mfo, Mrd, Mrs, Mlt, Mfi, Mse) hr5) [0, 1, 2, 3, 4, 5, 6, 7] (by decide) rfl gX6_isScore_X6_here rfl rfl rfl (by decide +kernel) ⟨Nat.le_of_ble_eq_true rfl, Nat.le_of_ble_eq_true rfl⟩ (ci := 6) (q0 := 0) rfl rfl rfl hl.1 rfl (Nat.le_of_ble_eq_true rfl) dX6_isScore_34) hC [0, 1, 2, 3, 4, 5, 6, 7] rfl (fun H locs hC => ?_)
          refine lv_bipush (v := 59) hx hb dX6_isScore_37 (by decide) ?_
          obtain ⟨t7, ht7, hf⟩ := z_bind hf
          have Jt7 : ∀ (H : Heap) (locs : List Loc) (ls : Array Slot), zC G c3 A s (zwM c3.1 c3.2.2 oM (Ms, Mas, Mpa, Mkn, Mke, Mik, Mpp, Mle, Mso, Mfz, Msp, Mfo, Mrd, Mrs, Mlt, Mfi, Mse)) H locs → lv_has ls 1 [(0, .ref oM.1)] → W p l e ⟨3, 0, 0, 68⟩ s m args below meth c H locs 0 0 (MQ below (zPost G (zwM c3.1 c3.2.2 oM (Ms, Mas, Mpa, Mkn, Mke, Mik, Mpp, Mle, Mso, Mfz, Msp', Mfo', Mrd, Mrs, Mlt', Mfi', Mse')) (some (.int r)) A) args s 0 0 A) (F0 m 47 ls [.int t7, .ref oM.1]) := by
            intro H locs ls hC hl
            obtain ⟨r8, hr8, hf⟩ := z_bind hf
            refine z_callv (z_runV (n := 1) (rest := []) (As := [.int t7]) S0 hC (c_X6_takes l G c3 oM (Ms, Mas, Mpa, Mkn, Mke, Mik, Mpp, Mle, Mso, Mfz, Msp, Mfo, Mrd, Mrs, Mlt, Mfi, Mse) t7 hr8) [0, 1, 2, 3, 4, 5, 6, 7] (by decide) rfl gX6_isScore_X6_takes rfl rfl rfl (by decide +kernel) ⟨Nat.le_of_ble_eq_true rfl, Nat.le_of_ble_eq_true rfl⟩ (ci := 6) (q0 := 0) rfl rfl rfl hl.1 rfl (Nat.le_of_ble_eq_true rfl) dX6_isScore_47) hC [0, 1, 2, 3, 4, 5, 6, 7] [] [0, 1, 2, 3, 4, 5, 6, 7] rfl (wr := ([] : va_W)) rfl (by decide) (by decide) (ws2 := (zwM c3.1 c3.2.2 oM (Ms, Mas, Mpa, Mkn, Mke, Mik, Mpp, Mle, Mso, Mfz, r8.1, r8.2, Mrd, Mrs, Mlt, Mfi, Mse))) rfl (by decide) (fun H locs hC => ?_)
            refine lv_aload_n hx hb dX6_isScore_50 rfl (lv_at hl 0 rfl) ?_
            refine z_get S0 hC (ci := 6) (C := RX6) (T := TX6) (N := 17) (v := .int r8.2) jX6_isScore_X6 0 rfl rfl 11 (by decide) kX6_isScore_131 rfl rfl dX6_isScore_51 ?_
            refine lv_if_eq (tgt := 14) hx hb dX6_isScore_54 (by decide) (fun cd9 => ?_) (fun cd9 => ?_)
            · replace hf := z_pos cd9 hf
              exact ih14 Ms Mas Mpa Mkn Mke Mik Mpp Mle Mso Mfz r8.1 r8.2 Mrd Mrs Mlt Mfi Mse _ hf H locs ls hC (lv_sub hl [0] rfl) hK
            · replace hf := z_neg cd9 hf
              refine lv_aload_n hx hb dX6_isScore_57 rfl (lv_at hl 0 rfl) ?_
              obtain ⟨r10, hr10, hf⟩ := z_bind hf
              refine z_callv (z_runV (n := 0) (rest := []) (As := []) S0 hC (c_X6_takesDeed l G c3 oM (Ms, Mas, Mpa, Mkn, Mke, Mik, Mpp, Mle, Mso, Mfz, r8.1, r8.2, Mrd, Mrs, Mlt, Mfi, Mse) hr10) [0, 1, 2, 3, 4, 5, 6, 7] (by decide) rfl gX6_isScore_X6_takesDeed rfl rfl rfl (by decide +kernel) ⟨Nat.le_of_ble_eq_true rfl, Nat.le_of_ble_eq_true rfl⟩ (ci := 6) (q0 := 0) rfl rfl rfl hl.1 rfl (Nat.le_of_ble_eq_true rfl) dX6_isScore_58) hC [0, 1, 2, 3, 4, 5, 6, 7] [] [0, 1, 2, 3, 4, 5, 6, 7] rfl (wr := ([] : va_W)) rfl (by decide) (by decide) (ws2 := (zwM c3.1 c3.2.2 oM (Ms, Mas, Mpa, Mkn, Mke, Mik, Mpp, Mle, Mso, Mfz, r10.1, r10.2.1, Mrd, Mrs, r10.2.2.1, r10.2.2.2.1, r10.2.2.2.2))) rfl (by decide) (fun H locs hC => ?_)
              refine lv_goto (tgt := 14) hx hb dX6_isScore_61 (by decide) ?_
              exact ih14 Ms Mas Mpa Mkn Mke Mik Mpp Mle Mso Mfz r10.1 r10.2.1 Mrd Mrs r10.2.2.1 r10.2.2.2.1 r10.2.2.2.2 _ hf H locs ls hC (lv_sub hl [0] rfl) hK
          refine lv_icmp_ne (tgt := 46) hx hb dX6_isScore_39 (by decide) (fun cd6 => ?_) (fun cd6 => ?_)
          · replace ht7 := z_neg cd6 ht7
            refine lv_iconst (v := 0) hx hb dX6_isScore_46 (by decide) ?_
            have e1 := z_s1 ht7
            subst e1
            exact Jt7 H locs ls hC (lv_sub hl [0] rfl)
          · replace ht7 := z_pos cd6 ht7
            refine lv_iconst (v := 1) hx hb dX6_isScore_42 (by decide) ?_
            refine lv_goto (tgt := 47) hx hb dX6_isScore_43 (by decide) ?_
            have e1 := z_s1 ht7
            subst e1
            exact Jt7 H locs ls hC (lv_sub hl [0] rfl)
  obtain ⟨t11, ht11, hf⟩ := z_bind hf
  refine L14 zF Ms Mas Mpa Mkn Mke Mik Mpp Mle Mso Mfz r1.1 r1.2.1 Mrd Mrs r1.2.2.1 r1.2.2.2.1 r1.2.2.2.2 t11 ht11 H locs ls hC (lv_sub hl [0] rfl) (fun H locs ls hC hl => ?_)
  refine lv_aload_n hx hb dX6_isScore_64 rfl (lv_at hl 0 rfl) ?_
  refine z_get S0 hC (ci := 6) (C := RX6) (T := TX6) (N := 17) (v := .int t11.2.1) jX6_isScore_X6 0 rfl rfl 11 (by decide) kX6_isScore_131 rfl rfl dX6_isScore_65 ?_
  obtain ⟨w12, hw12, hf⟩ := z_bind hf
  obtain ⟨e1, e2, e3, e4, e5, e6⟩ := z_s6 hf
  subst e1
  subst e2
  subst e3
  subst e4
  subst e5
  subst e6
  exact z_zret S0 hr hlk (zbool_spec hw12) hC dX6_isScore_68

-- X6 fault
def f_X6_fault (Mpp : (Nat → Int32)) (Mle : Int32) (Msp : Int32) (Mfo : Int32) (Mrd : (Nat → Int32)) (Mrs : Int32) (Mlt : Int32) (Mfi : Int32) (Mse : Int32) (p1 : Int32) : Option (Int32 × Int32 × Int32 × (Nat → Int32) × Int32 × Int32 × Int32 × Int32) :=
  (f_X6_in p1 0 1).bind fun r1 => if r1 = 0 then
    some ((-1), Msp, Mfo, Mrd, Mrs, Mlt, Mfi, Mse)
  else
    if p1 = 0 then
      (f_X6_areZones Mpp Mle Msp Mfo Mrd Mrs).bind fun r6 => if r6.1 = 0 then
        some (r6.2.1, r6.2.1, r6.2.2.1, r6.2.2.2.1, r6.2.2.2.2, Mlt, Mfi, Mse)
      else
        some ((-4), r6.2.1, r6.2.2.1, r6.2.2.2.1, r6.2.2.2.2, Mlt, Mfi, Mse)
    else
      (f_X6_isScore Mpp Mle Msp Mfo Mlt Mfi Mse).bind fun r4 => if r4.1 = 0 then
        some (r4.2.1, r4.2.1, r4.2.2.1, Mrd, Mrs, r4.2.2.2.1, r4.2.2.2.2.1, r4.2.2.2.2.2)
      else
        some ((-4), r4.2.1, r4.2.2.1, Mrd, Mrs, r4.2.2.2.1, r4.2.2.2.2.1, r4.2.2.2.2.2)

theorem kX6_fault_128 : Cond.fieldLink RX6 128 "ZoneSamplerModel" "spot" "I" ∈ wsX6_fault := by decide +kernel
theorem jX6_fault_X6 : ∀ w ∈ u_ws RX6 TX6 17, w ∈ wsX6_fault := by decide +kernel
set_option maxHeartbeats 4000000 in
set_option maxRecDepth 100000 in
theorem c_X6_fault (l : Launch) (G : va_G) (c3 : zT3) (oM : zR8) (BM : zMd) (p1 : Int32) {r : Int32} {Msp' : Int32} {Mfo' : Int32} {Mrd' : (Nat → Int32)} {Mrs' : Int32} {Mlt' : Int32} {Mfi' : Int32} {Mse' : Int32} (hf : f_X6_fault BM.2.2.2.2.2.2.1 BM.2.2.2.2.2.2.2.1 BM.2.2.2.2.2.2.2.2.2.2.1 BM.2.2.2.2.2.2.2.2.2.2.2.1 BM.2.2.2.2.2.2.2.2.2.2.2.2.1 BM.2.2.2.2.2.2.2.2.2.2.2.2.2.1 BM.2.2.2.2.2.2.2.2.2.2.2.2.2.2.1 BM.2.2.2.2.2.2.2.2.2.2.2.2.2.2.2.1 BM.2.2.2.2.2.2.2.2.2.2.2.2.2.2.2.2 p1 = some (r, Msp', Mfo', Mrd', Mrs', Mlt', Mfi', Mse')) : zM l yX6_fault wsX6_fault ⟨5, 0, 0, 112⟩ G c3 (zwM c3.1 c3.2.2 oM (BM.1, BM.2.1, BM.2.2.1, BM.2.2.2.1, BM.2.2.2.2.1, BM.2.2.2.2.2.1, BM.2.2.2.2.2.2.1, BM.2.2.2.2.2.2.2.1, BM.2.2.2.2.2.2.2.2.1, BM.2.2.2.2.2.2.2.2.2.1, BM.2.2.2.2.2.2.2.2.2.2.1, BM.2.2.2.2.2.2.2.2.2.2.2.1, BM.2.2.2.2.2.2.2.2.2.2.2.2.1, BM.2.2.2.2.2.2.2.2.2.2.2.2.2.1, BM.2.2.2.2.2.2.2.2.2.2.2.2.2.2.1, BM.2.2.2.2.2.2.2.2.2.2.2.2.2.2.2.1, BM.2.2.2.2.2.2.2.2.2.2.2.2.2.2.2.2)) [.ref oM.1, .int p1] (some (.int r)) (zwM c3.1 c3.2.2 oM (BM.1, BM.2.1, BM.2.2.1, BM.2.2.2.1, BM.2.2.2.2.1, BM.2.2.2.2.2.1, BM.2.2.2.2.2.2.1, BM.2.2.2.2.2.2.2.1, BM.2.2.2.2.2.2.2.2.1, BM.2.2.2.2.2.2.2.2.2.1, Msp', Mfo', Mrd', Mrs', Mlt', Mfi', Mse')) := by
  obtain ⟨Ms, Mas, Mpa, Mkn, Mke, Mik, Mpp, Mle, Mso, Mfz, Msp, Mfo, Mrd, Mrs, Mlt, Mfi, Mse⟩ := BM
  have hf : f_X6_fault Mpp Mle Msp Mfo Mrd Mrs Mlt Mfi Mse p1 = some (r, Msp', Mfo', Mrd', Mrs', Mlt', Mfi', Mse') := hf
  show zM l yX6_fault wsX6_fault ⟨5, 0, 0, 112⟩ G c3 (zwM c3.1 c3.2.2 oM (Ms, Mas, Mpa, Mkn, Mke, Mik, Mpp, Mle, Mso, Mfz, Msp, Mfo, Mrd, Mrs, Mlt, Mfi, Mse)) [.ref oM.1, .int p1] (some (.int r)) (zwM c3.1 c3.2.2 oM (Ms, Mas, Mpa, Mkn, Mke, Mik, Mpp, Mle, Mso, Mfz, Msp', Mfo', Mrd', Mrs', Mlt', Mfi', Mse'))
  refine zM.of (cc := cX6_fault) (maxL := 2) (ret := (some .int)) (by decide) rfl (Nat.le_of_ble_eq_true rfl) ?_
  intro p e s m args below meth c A ls S0 hr hlk hC hl
  have S0 : CallFix p m c cX6_fault 2 s args wsX6_fault RX6 := S0
  have hl : lv_has ls 2 [(0, .ref oM.1), (1, .int p1)] := hl
  have hx := S0.1
  have hb := S0.2.1
  obtain ⟨H, hH⟩ : ∃ y, y = s.heap := ⟨_, rfl⟩
  rw [← hH] at hC ⊢
  obtain ⟨locs, hlo⟩ : ∃ y : List Loc, y = [] := ⟨_, rfl⟩
  rw [← hlo] at hC ⊢
  clear hH hlo
  unfold f_X6_fault at hf
  refine lv_iload_n hx hb dX6_fault_0 rfl (lv_at hl 1 rfl) ?_
  refine lv_iconst (v := 0) hx hb dX6_fault_1 (by decide) ?_
  refine lv_iconst (v := 1) hx hb dX6_fault_2 (by decide) ?_
  obtain ⟨r1, hr1, hf⟩ := z_bind hf
  refine z_callPi (z_runS (n := 3) (rest := []) (As := [.int p1, .int 0, .int 1]) S0 hC (c_X6_in l G c3 p1 0 1 hr1) [] (by decide) rfl gX6_fault_X6_in rfl rfl rfl (by decide +kernel) ⟨Nat.le_of_ble_eq_true rfl, Nat.le_of_ble_eq_true rfl⟩ rfl hl.1 rfl (Nat.le_of_ble_eq_true rfl) dX6_fault_3) hC [] rfl (fun H locs hC => ?_)
  refine lv_if_ne (tgt := 11) hx hb dX6_fault_6 (by decide) (fun cd2 => ?_) (fun cd2 => ?_)
  · replace hf := z_neg cd2 hf
    refine lv_iload_n hx hb dX6_fault_11 rfl (lv_at hl 1 rfl) ?_
    refine lv_if_ne (tgt := 25) hx hb dX6_fault_12 (by decide) (fun cd3 => ?_) (fun cd3 => ?_)
    · replace hf := z_neg cd3 hf
      refine lv_aload_n hx hb dX6_fault_25 rfl (lv_at hl 0 rfl) ?_
      obtain ⟨r4, hr4, hf⟩ := z_bind hf
      refine z_calli (z_runV (n := 0) (rest := []) (As := []) S0 hC (c_X6_isScore l G c3 oM (Ms, Mas, Mpa, Mkn, Mke, Mik, Mpp, Mle, Mso, Mfz, Msp, Mfo, Mrd, Mrs, Mlt, Mfi, Mse) hr4) [0, 1, 2, 3, 4, 5, 6, 7] (by decide) rfl gX6_fault_X6_isScore rfl rfl rfl (by decide +kernel) ⟨Nat.le_of_ble_eq_true rfl, Nat.le_of_ble_eq_true rfl⟩ (ci := 6) (q0 := 0) rfl rfl rfl hl.1 rfl (Nat.le_of_ble_eq_true rfl) dX6_fault_26) hC [0, 1, 2, 3, 4, 5, 6, 7] [] [0, 1, 2, 3, 4, 5, 6, 7] rfl (wr := ([] : va_W)) rfl (by decide) (by decide) (ws2 := (zwM c3.1 c3.2.2 oM (Ms, Mas, Mpa, Mkn, Mke, Mik, Mpp, Mle, Mso, Mfz, r4.2.1, r4.2.2.1, Mrd, Mrs, r4.2.2.2.1, r4.2.2.2.2.1, r4.2.2.2.2.2))) rfl (by decide) (fun H locs hC => ?_)
      refine lv_if_eq (tgt := 37) hx hb dX6_fault_29 (by decide) (fun cd5 => ?_) (fun cd5 => ?_)
      · replace hf := z_pos cd5 hf
        refine lv_aload_n hx hb dX6_fault_37 rfl (lv_at hl 0 rfl) ?_
        refine z_get S0 hC (ci := 6) (C := RX6) (T := TX6) (N := 17) (v := .int r4.2.1) jX6_fault_X6 0 rfl rfl 10 (by decide) kX6_fault_128 rfl rfl dX6_fault_38 ?_
        obtain ⟨e1, e2, e3, e4, e5, e6, e7, e8⟩ := z_s8 hf
        subst e1
        subst e2
        subst e3
        subst e4
        subst e5
        subst e6
        subst e7
        subst e8
        exact z_iret S0 hr hlk hC dX6_fault_41
      · replace hf := z_neg cd5 hf
        refine lv_bipush (v := (-4)) hx hb dX6_fault_32 (by decide) ?_
        refine lv_goto (tgt := 41) hx hb dX6_fault_34 (by decide) ?_
        obtain ⟨e1, e2, e3, e4, e5, e6, e7, e8⟩ := z_s8 hf
        subst e1
        subst e2
        subst e3
        subst e4
        subst e5
        subst e6
        subst e7
        subst e8
        exact z_iret S0 hr hlk hC dX6_fault_41
    · replace hf := z_pos cd3 hf
      refine lv_aload_n hx hb dX6_fault_15 rfl (lv_at hl 0 rfl) ?_
      obtain ⟨r6, hr6, hf⟩ := z_bind hf
      refine z_calli (z_runV (n := 0) (rest := []) (As := []) S0 hC (c_X6_areZones l G c3 oM (Ms, Mas, Mpa, Mkn, Mke, Mik, Mpp, Mle, Mso, Mfz, Msp, Mfo, Mrd, Mrs, Mlt, Mfi, Mse) hr6) [0, 1, 2, 3, 4, 5, 6, 7] (by decide) rfl gX6_fault_X6_areZones rfl rfl rfl (by decide +kernel) ⟨Nat.le_of_ble_eq_true rfl, Nat.le_of_ble_eq_true rfl⟩ (ci := 6) (q0 := 0) rfl rfl rfl hl.1 rfl (Nat.le_of_ble_eq_true rfl) dX6_fault_16) hC [0, 1, 2, 3, 4, 5, 6, 7] [] [0, 1, 2, 3, 4, 5, 6, 7] rfl (wr := ([] : va_W)) rfl (by decide) (by decide) (ws2 := (zwM c3.1 c3.2.2 oM (Ms, Mas, Mpa, Mkn, Mke, Mik, Mpp, Mle, Mso, Mfz, r6.2.1, r6.2.2.1, r6.2.2.2.1, r6.2.2.2.2, Mlt, Mfi, Mse))) rfl (by decide) (fun H locs hC => ?_)
      refine lv_if_eq (tgt := 37) hx hb dX6_fault_19 (by decide) (fun cd7 => ?_) (fun cd7 => ?_)
      · replace hf := z_pos cd7 hf
        refine lv_aload_n hx hb dX6_fault_37 rfl (lv_at hl 0 rfl) ?_
        refine z_get S0 hC (ci := 6) (C := RX6) (T := TX6) (N := 17) (v := .int r6.2.1) jX6_fault_X6 0 rfl rfl 10 (by decide) kX6_fault_128 rfl rfl dX6_fault_38 ?_
        obtain ⟨e1, e2, e3, e4, e5, e6, e7, e8⟩ := z_s8 hf
        subst e1
        subst e2
        subst e3
        subst e4
        subst e5
        subst e6
        subst e7
        subst e8
        exact z_iret S0 hr hlk hC dX6_fault_41
      · replace hf := z_neg cd7 hf
        refine lv_goto (tgt := 32) hx hb dX6_fault_22 (by decide) ?_
        refine lv_bipush (v := (-4)) hx hb dX6_fault_32 (by decide) ?_
        refine lv_goto (tgt := 41) hx hb dX6_fault_34 (by decide) ?_
        obtain ⟨e1, e2, e3, e4, e5, e6, e7, e8⟩ := z_s8 hf
        subst e1
        subst e2
        subst e3
        subst e4
        subst e5
        subst e6
        subst e7
        subst e8
        exact z_iret S0 hr hlk hC dX6_fault_41
  · replace hf := z_pos cd2 hf
    refine lv_iconst (v := (-1)) hx hb dX6_fault_9 (by decide) ?_
    obtain ⟨e1, e2, e3, e4, e5, e6, e7, e8⟩ := z_s8 hf
    subst e1
    subst e2
    subst e3
    subst e4
    subst e5
    subst e6
    subst e7
    subst e8
    exact z_iret S0 hr hlk hC dX6_fault_10

-- X6 load
def f_X6_load_35 (Mrd : (Nat → Int32)) (Mrs : Int32) : Nat → Int32 → (Nat → Int32) → Option (Int32 × (Nat → Int32))
  | 0, _, _ => none
  | fu + 1, y1, Ms =>
    if Mrs ≤ y1 then
      some (y1, Ms)
    else
      (zald 84 Mrd (7 * y1)).bind fun x8 => (zald 84 Mrd ((7 * y1) + 1)).bind fun x9 => (zald 84 Mrd ((7 * y1) + 2)).bind fun x10 => (zald 84 Mrd ((7 * y1) + 3)).bind fun x11 => (f_X6_addsZone Ms x8 x9 x10 x11).bind fun r12 => (zald 150 r12 0).bind fun x13 => (zald 84 Mrd ((7 * y1) + 4)).bind fun x14 => (f_X6_laysZone r12 (x13 - 1) 4 x14).bind fun r15 => (zald 150 r15 0).bind fun x16 => (zald 84 Mrd ((7 * y1) + 5)).bind fun x17 => (f_X6_laysZone r15 (x16 - 1) 5 x17).bind fun r18 => (zald 150 r18 0).bind fun x19 => (zald 84 Mrd ((7 * y1) + 6)).bind fun x20 => (f_X6_laysZone r18 (x19 - 1) 6 x20).bind fun r21 => f_X6_load_35 Mrd Mrs fu (y1 + 1) r21

theorem f_X6_load_35_s (Mrd : (Nat → Int32)) (Mrs : Int32) (y1 : Int32) (Ms : (Nat → Int32)) (fu : Nat) : f_X6_load_35 Mrd Mrs (fu + 1) y1 Ms = (
    if Mrs ≤ y1 then
      some (y1, Ms)
    else
      (zald 84 Mrd (7 * y1)).bind fun x8 => (zald 84 Mrd ((7 * y1) + 1)).bind fun x9 => (zald 84 Mrd ((7 * y1) + 2)).bind fun x10 => (zald 84 Mrd ((7 * y1) + 3)).bind fun x11 => (f_X6_addsZone Ms x8 x9 x10 x11).bind fun r12 => (zald 150 r12 0).bind fun x13 => (zald 84 Mrd ((7 * y1) + 4)).bind fun x14 => (f_X6_laysZone r12 (x13 - 1) 4 x14).bind fun r15 => (zald 150 r15 0).bind fun x16 => (zald 84 Mrd ((7 * y1) + 5)).bind fun x17 => (f_X6_laysZone r15 (x16 - 1) 5 x17).bind fun r18 => (zald 150 r18 0).bind fun x19 => (zald 84 Mrd ((7 * y1) + 6)).bind fun x20 => (f_X6_laysZone r18 (x19 - 1) 6 x20).bind fun r21 => f_X6_load_35 Mrd Mrs fu (y1 + 1) r21
    ) := rfl

def f_X6_load (Ms : (Nat → Int32)) (Mpa : (Nat → Int32)) (Mkn : Int32) (Mpp : (Nat → Int32)) (Mle : Int32) (Msp : Int32) (Mfo : Int32) (Mrd : (Nat → Int32)) (Mrs : Int32) : Option (Int32 × (Nat → Int32) × (Nat → Int32) × Int32 × Int32 × Int32 × Int32 × (Nat → Int32) × Int32) :=
  (f_X6_areZones Mpp Mle Msp Mfo Mrd Mrs).bind fun r1 => if r1.1 = 0 then
    some ((-2), Ms, Mpa, Mkn, Mle, r1.2.1, r1.2.2.1, r1.2.2.2.1, r1.2.2.2.2)
  else
    (zald 150 Ms 0).bind fun x3 => if (x3 + r1.2.2.2.2) ≤ 10 then
      (f_X6_records Ms Mpa Mkn).bind fun r5 => (f_X6_load_35 r1.2.2.2.1 r1.2.2.2.2 zF 0 Ms).bind fun t22 =>
        (zald 150 t22.2 0).bind fun x23 => some (x23, t22.2, r5.1, r5.2, 0, r1.2.1, r1.2.2.1, r1.2.2.2.1, r1.2.2.2.2)
    else
      some ((-3), Ms, Mpa, Mkn, Mle, r1.2.1, r1.2.2.1, r1.2.2.2.1, r1.2.2.2.2)

theorem kX6_load_7 : Cond.fieldLink RX6 7 "ZoneSamplerModel" "s" "[I" ∈ wsX6_load := by decide +kernel
theorem kX6_load_148 : Cond.fieldLink RX6 148 "ZoneSamplerModel" "reads" "I" ∈ wsX6_load := by decide +kernel
theorem kX6_load_29 : Cond.fieldLink RX6 29 "ZoneSamplerModel" "read" "[I" ∈ wsX6_load := by decide +kernel
theorem kX6_load_125 : Cond.fieldLink RX6 125 "ZoneSamplerModel" "length" "I" ∈ wsX6_load := by decide +kernel
theorem jX6_load_X6 : ∀ w ∈ u_ws RX6 TX6 17, w ∈ wsX6_load := by decide +kernel
set_option maxHeartbeats 4000000 in
set_option maxRecDepth 100000 in
theorem c_X6_load (l : Launch) (G : va_G) (c3 : zT3) (oM : zR8) (BM : zMd) {r : Int32} {Ms' : (Nat → Int32)} {Mpa' : (Nat → Int32)} {Mkn' : Int32} {Mle' : Int32} {Msp' : Int32} {Mfo' : Int32} {Mrd' : (Nat → Int32)} {Mrs' : Int32} (hf : f_X6_load BM.1 BM.2.2.1 BM.2.2.2.1 BM.2.2.2.2.2.2.1 BM.2.2.2.2.2.2.2.1 BM.2.2.2.2.2.2.2.2.2.2.1 BM.2.2.2.2.2.2.2.2.2.2.2.1 BM.2.2.2.2.2.2.2.2.2.2.2.2.1 BM.2.2.2.2.2.2.2.2.2.2.2.2.2.1 = some (r, Ms', Mpa', Mkn', Mle', Msp', Mfo', Mrd', Mrs')) : zM l yX6_load wsX6_load ⟨5, 0, 0, 112⟩ G c3 (zwM c3.1 c3.2.2 oM (BM.1, BM.2.1, BM.2.2.1, BM.2.2.2.1, BM.2.2.2.2.1, BM.2.2.2.2.2.1, BM.2.2.2.2.2.2.1, BM.2.2.2.2.2.2.2.1, BM.2.2.2.2.2.2.2.2.1, BM.2.2.2.2.2.2.2.2.2.1, BM.2.2.2.2.2.2.2.2.2.2.1, BM.2.2.2.2.2.2.2.2.2.2.2.1, BM.2.2.2.2.2.2.2.2.2.2.2.2.1, BM.2.2.2.2.2.2.2.2.2.2.2.2.2.1, BM.2.2.2.2.2.2.2.2.2.2.2.2.2.2.1, BM.2.2.2.2.2.2.2.2.2.2.2.2.2.2.2.1, BM.2.2.2.2.2.2.2.2.2.2.2.2.2.2.2.2)) [.ref oM.1] (some (.int r)) (zwM c3.1 c3.2.2 oM (Ms', BM.2.1, Mpa', Mkn', BM.2.2.2.2.1, BM.2.2.2.2.2.1, BM.2.2.2.2.2.2.1, Mle', BM.2.2.2.2.2.2.2.2.1, BM.2.2.2.2.2.2.2.2.2.1, Msp', Mfo', Mrd', Mrs', BM.2.2.2.2.2.2.2.2.2.2.2.2.2.2.1, BM.2.2.2.2.2.2.2.2.2.2.2.2.2.2.2.1, BM.2.2.2.2.2.2.2.2.2.2.2.2.2.2.2.2)) := by
  obtain ⟨Ms, Mas, Mpa, Mkn, Mke, Mik, Mpp, Mle, Mso, Mfz, Msp, Mfo, Mrd, Mrs, Mlt, Mfi, Mse⟩ := BM
  have hf : f_X6_load Ms Mpa Mkn Mpp Mle Msp Mfo Mrd Mrs = some (r, Ms', Mpa', Mkn', Mle', Msp', Mfo', Mrd', Mrs') := hf
  show zM l yX6_load wsX6_load ⟨5, 0, 0, 112⟩ G c3 (zwM c3.1 c3.2.2 oM (Ms, Mas, Mpa, Mkn, Mke, Mik, Mpp, Mle, Mso, Mfz, Msp, Mfo, Mrd, Mrs, Mlt, Mfi, Mse)) [.ref oM.1] (some (.int r)) (zwM c3.1 c3.2.2 oM (Ms', Mas, Mpa', Mkn', Mke, Mik, Mpp, Mle', Mso, Mfz, Msp', Mfo', Mrd', Mrs', Mlt, Mfi, Mse))
  refine zM.of (cc := cX6_load) (maxL := 3) (ret := (some .int)) (by decide) rfl (Nat.le_of_ble_eq_true rfl) ?_
  intro p e s m args below meth c A ls S0 hr hlk hC hl
  have S0 : CallFix p m c cX6_load 3 s args wsX6_load RX6 := S0
  have hl : lv_has ls 3 [(0, .ref oM.1)] := hl
  have hx := S0.1
  have hb := S0.2.1
  obtain ⟨H, hH⟩ : ∃ y, y = s.heap := ⟨_, rfl⟩
  rw [← hH] at hC ⊢
  obtain ⟨locs, hlo⟩ : ∃ y : List Loc, y = [] := ⟨_, rfl⟩
  rw [← hlo] at hC ⊢
  clear hH hlo
  unfold f_X6_load at hf
  refine lv_aload_n hx hb dX6_load_0 rfl (lv_at hl 0 rfl) ?_
  obtain ⟨r1, hr1, hf⟩ := z_bind hf
  refine z_calli (z_runV (n := 0) (rest := []) (As := []) S0 hC (c_X6_areZones l G c3 oM (Ms, Mas, Mpa, Mkn, Mke, Mik, Mpp, Mle, Mso, Mfz, Msp, Mfo, Mrd, Mrs, Mlt, Mfi, Mse) hr1) [0, 1, 2, 3, 4, 5, 6, 7] (by decide) rfl gX6_load_X6_areZones rfl rfl rfl (by decide +kernel) ⟨Nat.le_of_ble_eq_true rfl, Nat.le_of_ble_eq_true rfl⟩ (ci := 6) (q0 := 0) rfl rfl rfl hl.1 rfl (Nat.le_of_ble_eq_true rfl) dX6_load_1) hC [0, 1, 2, 3, 4, 5, 6, 7] [] [0, 1, 2, 3, 4, 5, 6, 7] rfl (wr := ([] : va_W)) rfl (by decide) (by decide) (ws2 := (zwM c3.1 c3.2.2 oM (Ms, Mas, Mpa, Mkn, Mke, Mik, Mpp, Mle, Mso, Mfz, r1.2.1, r1.2.2.1, r1.2.2.2.1, r1.2.2.2.2, Mlt, Mfi, Mse))) rfl (by decide) (fun H locs hC => ?_)
  refine lv_if_ne (tgt := 10) hx hb dX6_load_4 (by decide) (fun cd2 => ?_) (fun cd2 => ?_)
  · replace hf := z_neg cd2 hf
    refine lv_aload_n hx hb dX6_load_10 rfl (lv_at hl 0 rfl) ?_
    refine z_get S0 hC (ci := 6) (C := RX6) (T := TX6) (N := 17) (v := .ref oM.2.1) jX6_load_X6 0 rfl rfl 0 (by decide) kX6_load_7 rfl rfl dX6_load_11 ?_
    refine lv_iconst (v := 0) hx hb dX6_load_14 (by decide) ?_
    obtain ⟨x3, hx3, hf⟩ := z_bind hf
    refine z_iald S0 hC 1 rfl hx3 dX6_load_15 ?_
    refine lv_aload_n hx hb dX6_load_16 rfl (lv_at hl 0 rfl) ?_
    refine z_get S0 hC (ci := 6) (C := RX6) (T := TX6) (N := 17) (v := .int r1.2.2.2.2) jX6_load_X6 0 rfl rfl 13 (by decide) kX6_load_148 rfl rfl dX6_load_17 ?_
    refine lv_iadd hx hb dX6_load_20 ?_
    refine lv_bipush (v := 10) hx hb dX6_load_21 (by decide) ?_
    refine lv_icmp_le (tgt := 29) hx hb dX6_load_23 (by decide) (fun cd4 => ?_) (fun cd4 => ?_)
    · replace hf := z_pos cd4 hf
      refine lv_aload_n hx hb dX6_load_29 rfl (lv_at hl 0 rfl) ?_
      obtain ⟨r5, hr5, hf⟩ := z_bind hf
      refine z_callv (z_runV (n := 0) (rest := []) (As := []) S0 hC (c_X6_records l G c3 oM (Ms, Mas, Mpa, Mkn, Mke, Mik, Mpp, Mle, Mso, Mfz, r1.2.1, r1.2.2.1, r1.2.2.2.1, r1.2.2.2.2, Mlt, Mfi, Mse) hr5) [0, 1, 2, 3, 4, 5, 6, 7] (by decide) rfl gX6_load_X6_records rfl rfl rfl (by decide +kernel) ⟨Nat.le_of_ble_eq_true rfl, Nat.le_of_ble_eq_true rfl⟩ (ci := 6) (q0 := 0) rfl rfl rfl hl.1 rfl (Nat.le_of_ble_eq_true rfl) dX6_load_30) hC [0, 1, 2, 3, 4, 5, 6, 7] [] [0, 1, 2, 3, 4, 5, 6, 7] rfl (wr := ([] : va_W)) rfl (by decide) (by decide) (ws2 := (zwM c3.1 c3.2.2 oM (Ms, Mas, r5.1, r5.2, Mke, Mik, Mpp, Mle, Mso, Mfz, r1.2.1, r1.2.2.1, r1.2.2.2.1, r1.2.2.2.2, Mlt, Mfi, Mse))) rfl (by decide) (fun H locs hC => ?_)
      refine lv_iconst (v := 0) hx hb dX6_load_33 (by decide) ?_
      refine lv_istore_n (lv' := [(1, .int 0), (0, .ref oM.1)]) hx hb dX6_load_34 rfl hl (by decide) rfl (fun ls hl => ?_)
      have L35 : ∀ (fu : Nat) (y1 : Int32) (Ms : (Nat → Int32)) (Mas : (Nat → Int32)) (Mpa : (Nat → Int32)) (Mkn : Int32) (Mke : (Nat → Int32)) (Mik : Int32) (Mpp : (Nat → Int32)) (Mle : Int32) (Mso : (Nat → Int32)) (Mfz : Int32) (Msp : Int32) (Mfo : Int32) (Mrd : (Nat → Int32)) (Mrs : Int32) (Mlt : Int32) (Mfi : Int32) (Mse : Int32) (tt : Int32 × (Nat → Int32)), f_X6_load_35 Mrd Mrs fu y1 Ms = some tt → ∀ (H : Heap) (locs : List Loc) (ls : Array Slot), zC G c3 A s (zwM c3.1 c3.2.2 oM (Ms, Mas, Mpa, Mkn, Mke, Mik, Mpp, Mle, Mso, Mfz, Msp, Mfo, Mrd, Mrs, Mlt, Mfi, Mse)) H locs → lv_has ls 3 [(0, .ref oM.1), (1, .int y1)] → (∀ (H : Heap) (locs : List Loc) (ls : Array Slot), zC G c3 A s (zwM c3.1 c3.2.2 oM (tt.2, Mas, Mpa, Mkn, Mke, Mik, Mpp, Mle, Mso, Mfz, Msp, Mfo, Mrd, Mrs, Mlt, Mfi, Mse)) H locs → lv_has ls 3 [(0, .ref oM.1), (1, .int tt.1)] → W p l e ⟨5, 0, 0, 112⟩ s m args below meth c H locs 0 0 (MQ below (zPost G (zwM c3.1 c3.2.2 oM (Ms', Mas, Mpa', Mkn', Mke, Mik, Mpp, Mle', Mso, Mfz, Msp', Mfo', Mrd', Mrs', Mlt, Mfi, Mse)) (some (.int r)) A) args s 0 0 A) (F0 m 153 ls [])) → W p l e ⟨5, 0, 0, 112⟩ s m args below meth c H locs 0 0 (MQ below (zPost G (zwM c3.1 c3.2.2 oM (Ms', Mas, Mpa', Mkn', Mke, Mik, Mpp, Mle', Mso, Mfz, Msp', Mfo', Mrd', Mrs', Mlt, Mfi, Mse)) (some (.int r)) A) args s 0 0 A) (F0 m 35 ls []) := by
        intro fu
        induction fu with
        | zero =>
          intro y1 Ms Mas Mpa Mkn Mke Mik Mpp Mle Mso Mfz Msp Mfo Mrd Mrs Mlt Mfi Mse tt hf H locs ls hC hl hK
          exact (z_none hf).elim
        | succ fu ih35 =>
          intro y1 Ms Mas Mpa Mkn Mke Mik Mpp Mle Mso Mfz Msp Mfo Mrd Mrs Mlt Mfi Mse tt hf H locs ls hC hl hK
          replace hf := (f_X6_load_35_s Mrd Mrs y1 Ms fu).symm.trans hf
          refine lv_iload_n hx hb dX6_load_35 rfl (lv_at hl 1 rfl) ?_
          refine lv_aload_n hx hb dX6_load_36 rfl (lv_at hl 0 rfl) ?_
          refine z_get S0 hC (ci := 6) (C := RX6) (T := TX6) (N := 17) (v := .int Mrs) jX6_load_X6 0 rfl rfl 13 (by decide) kX6_load_148 rfl rfl dX6_load_37 ?_
          refine lv_icmp_ge (tgt := 153) hx hb dX6_load_40 (by decide) (fun cd7 => ?_) (fun cd7 => ?_)
          · replace hf := z_pos cd7 hf
            have e1 := z_s1 hf
            subst e1
            exact hK H locs ls hC (lv_sub hl [0, 1] rfl)
          · replace hf := z_neg cd7 hf
            refine lv_bipush (v := 7) hx hb dX6_load_43 (by decide) ?_
            refine lv_iload_n hx hb dX6_load_45 rfl (lv_at hl 1 rfl) ?_
            refine lv_imul hx hb dX6_load_46 ?_
            refine lv_istore_n (lv' := [(2, .int (7 * y1)), (0, .ref oM.1), (1, .int y1)]) hx hb dX6_load_47 rfl hl (by decide) rfl (fun ls hl => ?_)
            refine lv_aload_n hx hb dX6_load_48 rfl (lv_at hl 1 rfl) ?_
            refine lv_aload_n hx hb dX6_load_49 rfl (lv_at hl 1 rfl) ?_
            refine z_get S0 hC (ci := 6) (C := RX6) (T := TX6) (N := 17) (v := .ref oM.2.2.2.2.2.2.2) jX6_load_X6 0 rfl rfl 12 (by decide) kX6_load_29 rfl rfl dX6_load_50 ?_
            refine lv_iload_n hx hb dX6_load_53 rfl (lv_at hl 0 rfl) ?_
            obtain ⟨x8, hx8, hf⟩ := z_bind hf
            refine z_iald S0 hC 7 rfl hx8 dX6_load_54 ?_
            refine lv_aload_n hx hb dX6_load_55 rfl (lv_at hl 1 rfl) ?_
            refine z_get S0 hC (ci := 6) (C := RX6) (T := TX6) (N := 17) (v := .ref oM.2.2.2.2.2.2.2) jX6_load_X6 0 rfl rfl 12 (by decide) kX6_load_29 rfl rfl dX6_load_56 ?_
            refine lv_iload_n hx hb dX6_load_59 rfl (lv_at hl 0 rfl) ?_
            refine lv_iconst (v := 1) hx hb dX6_load_60 (by decide) ?_
            refine lv_iadd hx hb dX6_load_61 ?_
            obtain ⟨x9, hx9, hf⟩ := z_bind hf
            refine z_iald S0 hC 7 rfl hx9 dX6_load_62 ?_
            refine lv_aload_n hx hb dX6_load_63 rfl (lv_at hl 1 rfl) ?_
            refine z_get S0 hC (ci := 6) (C := RX6) (T := TX6) (N := 17) (v := .ref oM.2.2.2.2.2.2.2) jX6_load_X6 0 rfl rfl 12 (by decide) kX6_load_29 rfl rfl dX6_load_64 ?_
            refine lv_iload_n hx hb dX6_load_67 rfl (lv_at hl 0 rfl) ?_
            refine lv_iconst (v := 2) hx hb dX6_load_68 (by decide) ?_
            refine lv_iadd hx hb dX6_load_69 ?_
            obtain ⟨x10, hx10, hf⟩ := z_bind hf
            refine z_iald S0 hC 7 rfl hx10 dX6_load_70 ?_
            refine lv_aload_n hx hb dX6_load_71 rfl (lv_at hl 1 rfl) ?_
            refine z_get S0 hC (ci := 6) (C := RX6) (T := TX6) (N := 17) (v := .ref oM.2.2.2.2.2.2.2) jX6_load_X6 0 rfl rfl 12 (by decide) kX6_load_29 rfl rfl dX6_load_72 ?_
            refine lv_iload_n hx hb dX6_load_75 rfl (lv_at hl 0 rfl) ?_
            refine lv_iconst (v := 3) hx hb dX6_load_76 (by decide) ?_
            refine lv_iadd hx hb dX6_load_77 ?_
            obtain ⟨x11, hx11, hf⟩ := z_bind hf
            refine z_iald S0 hC 7 rfl hx11 dX6_load_78 ?_
            obtain ⟨r12, hr12, hf⟩ := z_bind hf
            refine z_callv (z_runV (n := 4) (rest := []) (As := [.int x8, .int x9, .int x10, .int x11]) S0 hC (c_X6_addsZone l G c3 oM (Ms, Mas, Mpa, Mkn, Mke, Mik, Mpp, Mle, Mso, Mfz, Msp, Mfo, Mrd, Mrs, Mlt, Mfi, Mse) x8 x9 x10 x11 hr12) [0, 1, 2, 3, 4, 5, 6, 7] (by decide) rfl gX6_load_X6_addsZone rfl rfl rfl (by decide +kernel) ⟨Nat.le_of_ble_eq_true rfl, Nat.le_of_ble_eq_true rfl⟩ (ci := 6) (q0 := 0) rfl rfl rfl hl.1 rfl (Nat.le_of_ble_eq_true rfl) dX6_load_79) hC [0, 1, 2, 3, 4, 5, 6, 7] [] [0, 1, 2, 3, 4, 5, 6, 7] rfl (wr := ([] : va_W)) rfl (by decide) (by decide) (ws2 := (zwM c3.1 c3.2.2 oM (r12, Mas, Mpa, Mkn, Mke, Mik, Mpp, Mle, Mso, Mfz, Msp, Mfo, Mrd, Mrs, Mlt, Mfi, Mse))) rfl (by decide) (fun H locs hC => ?_)
            refine lv_aload_n hx hb dX6_load_82 rfl (lv_at hl 1 rfl) ?_
            refine lv_aload_n hx hb dX6_load_83 rfl (lv_at hl 1 rfl) ?_
            refine z_get S0 hC (ci := 6) (C := RX6) (T := TX6) (N := 17) (v := .ref oM.2.1) jX6_load_X6 0 rfl rfl 0 (by decide) kX6_load_7 rfl rfl dX6_load_84 ?_
            refine lv_iconst (v := 0) hx hb dX6_load_87 (by decide) ?_
            obtain ⟨x13, hx13, hf⟩ := z_bind hf
            refine z_iald S0 hC 1 rfl hx13 dX6_load_88 ?_
            refine lv_iconst (v := 1) hx hb dX6_load_89 (by decide) ?_
            refine lv_isub hx hb dX6_load_90 ?_
            refine lv_iconst (v := 4) hx hb dX6_load_91 (by decide) ?_
            refine lv_aload_n hx hb dX6_load_92 rfl (lv_at hl 1 rfl) ?_
            refine z_get S0 hC (ci := 6) (C := RX6) (T := TX6) (N := 17) (v := .ref oM.2.2.2.2.2.2.2) jX6_load_X6 0 rfl rfl 12 (by decide) kX6_load_29 rfl rfl dX6_load_93 ?_
            refine lv_iload_n hx hb dX6_load_96 rfl (lv_at hl 0 rfl) ?_
            refine lv_iconst (v := 4) hx hb dX6_load_97 (by decide) ?_
            refine lv_iadd hx hb dX6_load_98 ?_
            obtain ⟨x14, hx14, hf⟩ := z_bind hf
            refine z_iald S0 hC 7 rfl hx14 dX6_load_99 ?_
            obtain ⟨r15, hr15, hf⟩ := z_bind hf
            refine z_callv (z_runV (n := 3) (rest := []) (As := [.int (x13 - 1), .int 4, .int x14]) S0 hC (c_X6_laysZone l G c3 oM (r12, Mas, Mpa, Mkn, Mke, Mik, Mpp, Mle, Mso, Mfz, Msp, Mfo, Mrd, Mrs, Mlt, Mfi, Mse) (x13 - 1) 4 x14 hr15) [0, 1, 2, 3, 4, 5, 6, 7] (by decide) rfl gX6_load_X6_laysZone rfl rfl rfl (by decide +kernel) ⟨Nat.le_of_ble_eq_true rfl, Nat.le_of_ble_eq_true rfl⟩ (ci := 6) (q0 := 0) rfl rfl rfl hl.1 rfl (Nat.le_of_ble_eq_true rfl) dX6_load_100) hC [0, 1, 2, 3, 4, 5, 6, 7] [] [0, 1, 2, 3, 4, 5, 6, 7] rfl (wr := ([] : va_W)) rfl (by decide) (by decide) (ws2 := (zwM c3.1 c3.2.2 oM (r15, Mas, Mpa, Mkn, Mke, Mik, Mpp, Mle, Mso, Mfz, Msp, Mfo, Mrd, Mrs, Mlt, Mfi, Mse))) rfl (by decide) (fun H locs hC => ?_)
            refine lv_aload_n hx hb dX6_load_103 rfl (lv_at hl 1 rfl) ?_
            refine lv_aload_n hx hb dX6_load_104 rfl (lv_at hl 1 rfl) ?_
            refine z_get S0 hC (ci := 6) (C := RX6) (T := TX6) (N := 17) (v := .ref oM.2.1) jX6_load_X6 0 rfl rfl 0 (by decide) kX6_load_7 rfl rfl dX6_load_105 ?_
            refine lv_iconst (v := 0) hx hb dX6_load_108 (by decide) ?_
            obtain ⟨x16, hx16, hf⟩ := z_bind hf
            refine z_iald S0 hC 1 rfl hx16 dX6_load_109 ?_
            refine lv_iconst (v := 1) hx hb dX6_load_110 (by decide) ?_
            refine lv_isub hx hb dX6_load_111 ?_
            refine lv_iconst (v := 5) hx hb dX6_load_112 (by decide) ?_
            refine lv_aload_n hx hb dX6_load_113 rfl (lv_at hl 1 rfl) ?_
            refine z_get S0 hC (ci := 6) (C := RX6) (T := TX6) (N := 17) (v := .ref oM.2.2.2.2.2.2.2) jX6_load_X6 0 rfl rfl 12 (by decide) kX6_load_29 rfl rfl dX6_load_114 ?_
            refine lv_iload_n hx hb dX6_load_117 rfl (lv_at hl 0 rfl) ?_
            refine lv_iconst (v := 5) hx hb dX6_load_118 (by decide) ?_
            refine lv_iadd hx hb dX6_load_119 ?_
            obtain ⟨x17, hx17, hf⟩ := z_bind hf
            refine z_iald S0 hC 7 rfl hx17 dX6_load_120 ?_
            obtain ⟨r18, hr18, hf⟩ := z_bind hf
            refine z_callv (z_runV (n := 3) (rest := []) (As := [.int (x16 - 1), .int 5, .int x17]) S0 hC (c_X6_laysZone l G c3 oM (r15, Mas, Mpa, Mkn, Mke, Mik, Mpp, Mle, Mso, Mfz, Msp, Mfo, Mrd, Mrs, Mlt, Mfi, Mse) (x16 - 1) 5 x17 hr18) [0, 1, 2, 3, 4, 5, 6, 7] (by decide) rfl gX6_load_X6_laysZone rfl rfl rfl (by decide +kernel) ⟨Nat.le_of_ble_eq_true rfl, Nat.le_of_ble_eq_true rfl⟩ (ci := 6) (q0 := 0) rfl rfl rfl hl.1 rfl (Nat.le_of_ble_eq_true rfl) dX6_load_121) hC [0, 1, 2, 3, 4, 5, 6, 7] [] [0, 1, 2, 3, 4, 5, 6, 7] rfl (wr := ([] : va_W)) rfl (by decide) (by decide) (ws2 := (zwM c3.1 c3.2.2 oM (r18, Mas, Mpa, Mkn, Mke, Mik, Mpp, Mle, Mso, Mfz, Msp, Mfo, Mrd, Mrs, Mlt, Mfi, Mse))) rfl (by decide) (fun H locs hC => ?_)
            refine lv_aload_n hx hb dX6_load_124 rfl (lv_at hl 1 rfl) ?_
            refine lv_aload_n hx hb dX6_load_125 rfl (lv_at hl 1 rfl) ?_
            refine z_get S0 hC (ci := 6) (C := RX6) (T := TX6) (N := 17) (v := .ref oM.2.1) jX6_load_X6 0 rfl rfl 0 (by decide) kX6_load_7 rfl rfl dX6_load_126 ?_
            refine lv_iconst (v := 0) hx hb dX6_load_129 (by decide) ?_
            obtain ⟨x19, hx19, hf⟩ := z_bind hf
            refine z_iald S0 hC 1 rfl hx19 dX6_load_130 ?_
            refine lv_iconst (v := 1) hx hb dX6_load_131 (by decide) ?_
            refine lv_isub hx hb dX6_load_132 ?_
            refine lv_bipush (v := 6) hx hb dX6_load_133 (by decide) ?_
            refine lv_aload_n hx hb dX6_load_135 rfl (lv_at hl 1 rfl) ?_
            refine z_get S0 hC (ci := 6) (C := RX6) (T := TX6) (N := 17) (v := .ref oM.2.2.2.2.2.2.2) jX6_load_X6 0 rfl rfl 12 (by decide) kX6_load_29 rfl rfl dX6_load_136 ?_
            refine lv_iload_n hx hb dX6_load_139 rfl (lv_at hl 0 rfl) ?_
            refine lv_bipush (v := 6) hx hb dX6_load_140 (by decide) ?_
            refine lv_iadd hx hb dX6_load_142 ?_
            obtain ⟨x20, hx20, hf⟩ := z_bind hf
            refine z_iald S0 hC 7 rfl hx20 dX6_load_143 ?_
            obtain ⟨r21, hr21, hf⟩ := z_bind hf
            refine z_callv (z_runV (n := 3) (rest := []) (As := [.int (x19 - 1), .int 6, .int x20]) S0 hC (c_X6_laysZone l G c3 oM (r18, Mas, Mpa, Mkn, Mke, Mik, Mpp, Mle, Mso, Mfz, Msp, Mfo, Mrd, Mrs, Mlt, Mfi, Mse) (x19 - 1) 6 x20 hr21) [0, 1, 2, 3, 4, 5, 6, 7] (by decide) rfl gX6_load_X6_laysZone rfl rfl rfl (by decide +kernel) ⟨Nat.le_of_ble_eq_true rfl, Nat.le_of_ble_eq_true rfl⟩ (ci := 6) (q0 := 0) rfl rfl rfl hl.1 rfl (Nat.le_of_ble_eq_true rfl) dX6_load_144) hC [0, 1, 2, 3, 4, 5, 6, 7] [] [0, 1, 2, 3, 4, 5, 6, 7] rfl (wr := ([] : va_W)) rfl (by decide) (by decide) (ws2 := (zwM c3.1 c3.2.2 oM (r21, Mas, Mpa, Mkn, Mke, Mik, Mpp, Mle, Mso, Mfz, Msp, Mfo, Mrd, Mrs, Mlt, Mfi, Mse))) rfl (by decide) (fun H locs hC => ?_)
            refine lv_iinc (v := (y1 + 1)) (lv' := [(1, .int (y1 + 1)), (2, .int (7 * y1)), (0, .ref oM.1)]) hx hb dX6_load_147 hl (k := 2) rfl rfl (by decide) rfl (fun ls hl => ?_)
            refine lv_goto (tgt := 35) hx hb dX6_load_150 (by decide) ?_
            exact ih35 (y1 + 1) r21 Mas Mpa Mkn Mke Mik Mpp Mle Mso Mfz Msp Mfo Mrd Mrs Mlt Mfi Mse _ hf H locs ls hC (lv_sub hl [2, 0] rfl) hK
      obtain ⟨t22, ht22, hf⟩ := z_bind hf
      refine L35 zF 0 Ms Mas r5.1 r5.2 Mke Mik Mpp Mle Mso Mfz r1.2.1 r1.2.2.1 r1.2.2.2.1 r1.2.2.2.2 Mlt Mfi Mse t22 ht22 H locs ls hC (lv_sub hl [1, 0] rfl) (fun H locs ls hC hl => ?_)
      refine lv_aload_n hx hb dX6_load_153 rfl (lv_at hl 0 rfl) ?_
      refine lv_iconst (v := 0) hx hb dX6_load_154 (by decide) ?_
      refine z_put S0 hC (ci := 6) (C := RX6) (T := TX6) (N := 17) (v := .int 0) jX6_load_X6 tyX6 tyX6_ok nmX6 0 rfl rfl 7 (by decide) kX6_load_125 rfl rfl rfl rfl (Nat.le_of_ble_eq_true rfl) dX6_load_155 (ws2 := (zwM c3.1 c3.2.2 oM (t22.2, Mas, r5.1, r5.2, Mke, Mik, Mpp, 0, Mso, Mfz, r1.2.1, r1.2.2.1, r1.2.2.2.1, r1.2.2.2.2, Mlt, Mfi, Mse))) rfl (fun H locs hC => ?_)
      refine lv_aload_n hx hb dX6_load_158 rfl (lv_at hl 0 rfl) ?_
      refine z_get S0 hC (ci := 6) (C := RX6) (T := TX6) (N := 17) (v := .ref oM.2.1) jX6_load_X6 0 rfl rfl 0 (by decide) kX6_load_7 rfl rfl dX6_load_159 ?_
      refine lv_iconst (v := 0) hx hb dX6_load_162 (by decide) ?_
      obtain ⟨x23, hx23, hf⟩ := z_bind hf
      refine z_iald S0 hC 1 rfl hx23 dX6_load_163 ?_
      obtain ⟨e1, e2, e3, e4, e5, e6, e7, e8, e9⟩ := z_s9 hf
      subst e1
      subst e2
      subst e3
      subst e4
      subst e5
      subst e6
      subst e7
      subst e8
      subst e9
      exact z_iret S0 hr hlk hC dX6_load_164
    · replace hf := z_neg cd4 hf
      refine lv_bipush (v := (-3)) hx hb dX6_load_26 (by decide) ?_
      obtain ⟨e1, e2, e3, e4, e5, e6, e7, e8, e9⟩ := z_s9 hf
      subst e1
      subst e2
      subst e3
      subst e4
      subst e5
      subst e6
      subst e7
      subst e8
      subst e9
      exact z_iret S0 hr hlk hC dX6_load_28
  · replace hf := z_pos cd2 hf
    refine lv_bipush (v := (-2)) hx hb dX6_load_7 (by decide) ?_
    obtain ⟨e1, e2, e3, e4, e5, e6, e7, e8, e9⟩ := z_s9 hf
    subst e1
    subst e2
    subst e3
    subst e4
    subst e5
    subst e6
    subst e7
    subst e8
    subst e9
    exact z_iret S0 hr hlk hC dX6_load_9

-- X6 doesDeed
def f_X6_doesDeed (Ms : (Nat → Int32)) (Mso : (Nat → Int32)) (Mfz : Int32) (Mlt : Int32) (Mfi : Int32) (Mse : Int32) : Option ((Nat → Int32) × (Nat → Int32) × Int32) :=
  if Mlt = 110 then
    (f_X6_goHit Ms Mso Mfz Mfi Mse).bind fun r2 => some (r2.2.1, r2.2.2.1, r2.2.2.2)
  else
    if Mlt = 111 then
      (f_X6_goLet Ms Mfi).bind fun r4 => some (r4.2, Mso, Mfz)
    else
      if Mlt = 112 then
        (f_X6_goPedal Ms).bind fun r6 => some (r6.2, Mso, Mfz)
      else
        (f_X6_goPass Ms Mfi).bind fun r7 => some (r7.2, Mso, Mfz)

theorem kX6_doesDeed_160 : Cond.fieldLink RX6 160 "ZoneSamplerModel" "letter" "I" ∈ wsX6_doesDeed := by decide +kernel
theorem kX6_doesDeed_163 : Cond.fieldLink RX6 163 "ZoneSamplerModel" "first" "I" ∈ wsX6_doesDeed := by decide +kernel
theorem kX6_doesDeed_166 : Cond.fieldLink RX6 166 "ZoneSamplerModel" "second" "I" ∈ wsX6_doesDeed := by decide +kernel
theorem jX6_doesDeed_X6 : ∀ w ∈ u_ws RX6 TX6 17, w ∈ wsX6_doesDeed := by decide +kernel
set_option maxHeartbeats 4000000 in
set_option maxRecDepth 100000 in
theorem c_X6_doesDeed (l : Launch) (G : va_G) (c3 : zT3) (oM : zR8) (BM : zMd) {Ms' : (Nat → Int32)} {Mso' : (Nat → Int32)} {Mfz' : Int32} (hf : f_X6_doesDeed BM.1 BM.2.2.2.2.2.2.2.2.1 BM.2.2.2.2.2.2.2.2.2.1 BM.2.2.2.2.2.2.2.2.2.2.2.2.2.2.1 BM.2.2.2.2.2.2.2.2.2.2.2.2.2.2.2.1 BM.2.2.2.2.2.2.2.2.2.2.2.2.2.2.2.2 = some (Ms', Mso', Mfz')) : zM l yX6_doesDeed wsX6_doesDeed ⟨5, 0, 0, 120⟩ G c3 (zwM c3.1 c3.2.2 oM (BM.1, BM.2.1, BM.2.2.1, BM.2.2.2.1, BM.2.2.2.2.1, BM.2.2.2.2.2.1, BM.2.2.2.2.2.2.1, BM.2.2.2.2.2.2.2.1, BM.2.2.2.2.2.2.2.2.1, BM.2.2.2.2.2.2.2.2.2.1, BM.2.2.2.2.2.2.2.2.2.2.1, BM.2.2.2.2.2.2.2.2.2.2.2.1, BM.2.2.2.2.2.2.2.2.2.2.2.2.1, BM.2.2.2.2.2.2.2.2.2.2.2.2.2.1, BM.2.2.2.2.2.2.2.2.2.2.2.2.2.2.1, BM.2.2.2.2.2.2.2.2.2.2.2.2.2.2.2.1, BM.2.2.2.2.2.2.2.2.2.2.2.2.2.2.2.2)) [.ref oM.1] none (zwM c3.1 c3.2.2 oM (Ms', BM.2.1, BM.2.2.1, BM.2.2.2.1, BM.2.2.2.2.1, BM.2.2.2.2.2.1, BM.2.2.2.2.2.2.1, BM.2.2.2.2.2.2.2.1, Mso', Mfz', BM.2.2.2.2.2.2.2.2.2.2.1, BM.2.2.2.2.2.2.2.2.2.2.2.1, BM.2.2.2.2.2.2.2.2.2.2.2.2.1, BM.2.2.2.2.2.2.2.2.2.2.2.2.2.1, BM.2.2.2.2.2.2.2.2.2.2.2.2.2.2.1, BM.2.2.2.2.2.2.2.2.2.2.2.2.2.2.2.1, BM.2.2.2.2.2.2.2.2.2.2.2.2.2.2.2.2)) := by
  obtain ⟨Ms, Mas, Mpa, Mkn, Mke, Mik, Mpp, Mle, Mso, Mfz, Msp, Mfo, Mrd, Mrs, Mlt, Mfi, Mse⟩ := BM
  have hf : f_X6_doesDeed Ms Mso Mfz Mlt Mfi Mse = some (Ms', Mso', Mfz') := hf
  show zM l yX6_doesDeed wsX6_doesDeed ⟨5, 0, 0, 120⟩ G c3 (zwM c3.1 c3.2.2 oM (Ms, Mas, Mpa, Mkn, Mke, Mik, Mpp, Mle, Mso, Mfz, Msp, Mfo, Mrd, Mrs, Mlt, Mfi, Mse)) [.ref oM.1] none (zwM c3.1 c3.2.2 oM (Ms', Mas, Mpa, Mkn, Mke, Mik, Mpp, Mle, Mso', Mfz', Msp, Mfo, Mrd, Mrs, Mlt, Mfi, Mse))
  refine zM.of (cc := cX6_doesDeed) (maxL := 5) (ret := none) (by decide) rfl (Nat.le_of_ble_eq_true rfl) ?_
  intro p e s m args below meth c A ls S0 hr hlk hC hl
  have S0 : CallFix p m c cX6_doesDeed 5 s args wsX6_doesDeed RX6 := S0
  have hl : lv_has ls 5 [(0, .ref oM.1)] := hl
  have hx := S0.1
  have hb := S0.2.1
  obtain ⟨H, hH⟩ : ∃ y, y = s.heap := ⟨_, rfl⟩
  rw [← hH] at hC ⊢
  obtain ⟨locs, hlo⟩ : ∃ y : List Loc, y = [] := ⟨_, rfl⟩
  rw [← hlo] at hC ⊢
  clear hH hlo
  unfold f_X6_doesDeed at hf
  refine lv_aload_n hx hb dX6_doesDeed_0 rfl (lv_at hl 0 rfl) ?_
  refine z_get S0 hC (ci := 6) (C := RX6) (T := TX6) (N := 17) (v := .int Mlt) jX6_doesDeed_X6 0 rfl rfl 14 (by decide) kX6_doesDeed_160 rfl rfl dX6_doesDeed_1 ?_
  by_cases cd1 : Mlt = 110
  · replace hf := z_pos cd1 hf
    refine lv_tableIn (off := 28) (tgt := 32) hx hb dX6_doesDeed_4 (by rw [cd1]; decide) (by rw [cd1]; decide) (by rw [cd1]; rfl) (by decide) ?_
    refine lv_aload_n hx hb dX6_doesDeed_32 rfl (lv_at hl 0 rfl) ?_
    refine lv_aload_n hx hb dX6_doesDeed_33 rfl (lv_at hl 0 rfl) ?_
    refine z_get S0 hC (ci := 6) (C := RX6) (T := TX6) (N := 17) (v := .int Mfi) jX6_doesDeed_X6 0 rfl rfl 15 (by decide) kX6_doesDeed_163 rfl rfl dX6_doesDeed_34 ?_
    refine lv_aload_n hx hb dX6_doesDeed_37 rfl (lv_at hl 0 rfl) ?_
    refine z_get S0 hC (ci := 6) (C := RX6) (T := TX6) (N := 17) (v := .int Mse) jX6_doesDeed_X6 0 rfl rfl 16 (by decide) kX6_doesDeed_166 rfl rfl dX6_doesDeed_38 ?_
    obtain ⟨r2, hr2, hf⟩ := z_bind hf
    refine z_calli (z_runV (n := 2) (rest := []) (As := [.int Mfi, .int Mse]) S0 hC (c_X6_goHit l G c3 oM (Ms, Mas, Mpa, Mkn, Mke, Mik, Mpp, Mle, Mso, Mfz, Msp, Mfo, Mrd, Mrs, Mlt, Mfi, Mse) Mfi Mse hr2) [0, 1, 2, 3, 4, 5, 6, 7] (by decide) rfl gX6_doesDeed_X6_goHit rfl rfl rfl (by decide +kernel) ⟨Nat.le_of_ble_eq_true rfl, Nat.le_of_ble_eq_true rfl⟩ (ci := 6) (q0 := 0) rfl rfl rfl hl.1 rfl (Nat.le_of_ble_eq_true rfl) dX6_doesDeed_41) hC [0, 1, 2, 3, 4, 5, 6, 7] [] [0, 1, 2, 3, 4, 5, 6, 7] rfl (wr := ([] : va_W)) rfl (by decide) (by decide) (ws2 := (zwM c3.1 c3.2.2 oM (r2.2.1, Mas, Mpa, Mkn, Mke, Mik, Mpp, Mle, r2.2.2.1, r2.2.2.2, Msp, Mfo, Mrd, Mrs, Mlt, Mfi, Mse))) rfl (by decide) (fun H locs hC => ?_)
    refine lv_istore_n (lv' := [(1, .int r2.1), (0, .ref oM.1)]) hx hb dX6_doesDeed_44 rfl hl (by decide) rfl (fun ls hl => ?_)
    refine lv_goto (tgt := 78) hx hb dX6_doesDeed_45 (by decide) ?_
    obtain ⟨e1, e2, e3⟩ := z_s3 hf
    subst e1
    subst e2
    subst e3
    exact z_vret S0 hr hlk hC dX6_doesDeed_78
  replace hf := z_neg cd1 hf
  by_cases cd3 : Mlt = 111
  · replace hf := z_pos cd3 hf
    refine lv_tableIn (off := 44) (tgt := 48) hx hb dX6_doesDeed_4 (by rw [cd3]; decide) (by rw [cd3]; decide) (by rw [cd3]; rfl) (by decide) ?_
    refine lv_aload_n hx hb dX6_doesDeed_48 rfl (lv_at hl 0 rfl) ?_
    refine lv_aload_n hx hb dX6_doesDeed_49 rfl (lv_at hl 0 rfl) ?_
    refine z_get S0 hC (ci := 6) (C := RX6) (T := TX6) (N := 17) (v := .int Mfi) jX6_doesDeed_X6 0 rfl rfl 15 (by decide) kX6_doesDeed_163 rfl rfl dX6_doesDeed_50 ?_
    obtain ⟨r4, hr4, hf⟩ := z_bind hf
    refine z_calli (z_runV (n := 1) (rest := []) (As := [.int Mfi]) S0 hC (c_X6_goLet l G c3 oM (Ms, Mas, Mpa, Mkn, Mke, Mik, Mpp, Mle, Mso, Mfz, Msp, Mfo, Mrd, Mrs, Mlt, Mfi, Mse) Mfi hr4) [0, 1, 2, 3, 4, 5, 6, 7] (by decide) rfl gX6_doesDeed_X6_goLet rfl rfl rfl (by decide +kernel) ⟨Nat.le_of_ble_eq_true rfl, Nat.le_of_ble_eq_true rfl⟩ (ci := 6) (q0 := 0) rfl rfl rfl hl.1 rfl (Nat.le_of_ble_eq_true rfl) dX6_doesDeed_53) hC [0, 1, 2, 3, 4, 5, 6, 7] [] [0, 1, 2, 3, 4, 5, 6, 7] rfl (wr := ([] : va_W)) rfl (by decide) (by decide) (ws2 := (zwM c3.1 c3.2.2 oM (r4.2, Mas, Mpa, Mkn, Mke, Mik, Mpp, Mle, Mso, Mfz, Msp, Mfo, Mrd, Mrs, Mlt, Mfi, Mse))) rfl (by decide) (fun H locs hC => ?_)
    refine lv_istore_n (lv' := [(2, .int r4.1), (0, .ref oM.1)]) hx hb dX6_doesDeed_56 rfl hl (by decide) rfl (fun ls hl => ?_)
    refine lv_goto (tgt := 78) hx hb dX6_doesDeed_57 (by decide) ?_
    obtain ⟨e1, e2, e3⟩ := z_s3 hf
    subst e1
    subst e2
    subst e3
    exact z_vret S0 hr hlk hC dX6_doesDeed_78
  replace hf := z_neg cd3 hf
  by_cases cd5 : Mlt = 112
  · replace hf := z_pos cd5 hf
    refine lv_tableIn (off := 56) (tgt := 60) hx hb dX6_doesDeed_4 (by rw [cd5]; decide) (by rw [cd5]; decide) (by rw [cd5]; rfl) (by decide) ?_
    refine lv_aload_n hx hb dX6_doesDeed_60 rfl (lv_at hl 0 rfl) ?_
    obtain ⟨r6, hr6, hf⟩ := z_bind hf
    refine z_calli (z_runV (n := 0) (rest := []) (As := []) S0 hC (c_X6_goPedal l G c3 oM (Ms, Mas, Mpa, Mkn, Mke, Mik, Mpp, Mle, Mso, Mfz, Msp, Mfo, Mrd, Mrs, Mlt, Mfi, Mse) hr6) [0, 1, 2, 3, 4, 5, 6, 7] (by decide) rfl gX6_doesDeed_X6_goPedal rfl rfl rfl (by decide +kernel) ⟨Nat.le_of_ble_eq_true rfl, Nat.le_of_ble_eq_true rfl⟩ (ci := 6) (q0 := 0) rfl rfl rfl hl.1 rfl (Nat.le_of_ble_eq_true rfl) dX6_doesDeed_61) hC [0, 1, 2, 3, 4, 5, 6, 7] [] [0, 1, 2, 3, 4, 5, 6, 7] rfl (wr := ([] : va_W)) rfl (by decide) (by decide) (ws2 := (zwM c3.1 c3.2.2 oM (r6.2, Mas, Mpa, Mkn, Mke, Mik, Mpp, Mle, Mso, Mfz, Msp, Mfo, Mrd, Mrs, Mlt, Mfi, Mse))) rfl (by decide) (fun H locs hC => ?_)
    refine lv_istore_n (lv' := [(3, .int r6.1), (0, .ref oM.1)]) hx hb dX6_doesDeed_64 rfl hl (by decide) rfl (fun ls hl => ?_)
    refine lv_goto (tgt := 78) hx hb dX6_doesDeed_65 (by decide) ?_
    obtain ⟨e1, e2, e3⟩ := z_s3 hf
    subst e1
    subst e2
    subst e3
    exact z_vret S0 hr hlk hC dX6_doesDeed_78
  replace hf := z_neg cd5 hf
  have D4 : W p l e ⟨5, 0, 0, 120⟩ s m args below meth c H locs 0 0 (MQ below (zPost G (zwM c3.1 c3.2.2 oM (Ms', Mas, Mpa, Mkn, Mke, Mik, Mpp, Mle, Mso', Mfz', Msp, Mfo, Mrd, Mrs, Mlt, Mfi, Mse)) none A) args s 0 0 A) (F0 m 68 ls []) := by
    refine lv_aload_n hx hb dX6_doesDeed_68 rfl (lv_at hl 0 rfl) ?_
    refine lv_aload_n hx hb dX6_doesDeed_69 rfl (lv_at hl 0 rfl) ?_
    refine z_get S0 hC (ci := 6) (C := RX6) (T := TX6) (N := 17) (v := .int Mfi) jX6_doesDeed_X6 0 rfl rfl 15 (by decide) kX6_doesDeed_163 rfl rfl dX6_doesDeed_70 ?_
    obtain ⟨r7, hr7, hf⟩ := z_bind hf
    refine z_calli (z_runV (n := 1) (rest := []) (As := [.int Mfi]) S0 hC (c_X6_goPass l G c3 oM (Ms, Mas, Mpa, Mkn, Mke, Mik, Mpp, Mle, Mso, Mfz, Msp, Mfo, Mrd, Mrs, Mlt, Mfi, Mse) Mfi hr7) [0, 1, 2, 3, 4, 5, 6, 7] (by decide) rfl gX6_doesDeed_X6_goPass rfl rfl rfl (by decide +kernel) ⟨Nat.le_of_ble_eq_true rfl, Nat.le_of_ble_eq_true rfl⟩ (ci := 6) (q0 := 0) rfl rfl rfl hl.1 rfl (Nat.le_of_ble_eq_true rfl) dX6_doesDeed_73) hC [0, 1, 2, 3, 4, 5, 6, 7] [] [0, 1, 2, 3, 4, 5, 6, 7] rfl (wr := ([] : va_W)) rfl (by decide) (by decide) (ws2 := (zwM c3.1 c3.2.2 oM (r7.2, Mas, Mpa, Mkn, Mke, Mik, Mpp, Mle, Mso, Mfz, Msp, Mfo, Mrd, Mrs, Mlt, Mfi, Mse))) rfl (by decide) (fun H locs hC => ?_)
    refine lv_istore (lv' := [(4, .int r7.1), (0, .ref oM.1)]) hx hb dX6_doesDeed_76 hl (by decide) rfl (fun ls hl => ?_)
    obtain ⟨e1, e2, e3⟩ := z_s3 hf
    subst e1
    subst e2
    subst e3
    exact z_vret S0 hr hlk hC dX6_doesDeed_78
  have e110_4 : (Mlt).toInt ≠ 110 := fun h => cd1 (Int32.toInt_inj.mp (h.trans (by decide)))
  have e111_4 : (Mlt).toInt ≠ 111 := fun h => cd3 (Int32.toInt_inj.mp (h.trans (by decide)))
  have e112_4 : (Mlt).toInt ≠ 112 := fun h => cd5 (Int32.toInt_inj.mp (h.trans (by decide)))
  exact lv_tableOut (tgt := 68) hx hb dX6_doesDeed_4 (by omega) (by decide) D4

-- X6 play
def f_X6_play_26 (Mpp : (Nat → Int32)) (Mle : Int32) : Nat → (Nat → Int32) → (Nat → Int32) → Int32 → Int32 → Int32 → Int32 → Int32 → Int32 → Option ((Nat → Int32) × (Nat → Int32) × Int32 × Int32 × Int32 × Int32 × Int32 × Int32)
  | 0, _, _, _, _, _, _, _, _ => none
  | fu + 1, Ms, Mso, Mfz, Msp, Mfo, Mlt, Mfi, Mse =>
    if Mle ≤ Msp then
      some (Ms, Mso, Mfz, Msp, Mfo, Mlt, Mfi, Mse)
    else
      (f_X6_takesDeed Mpp Mle Msp Mfo Mlt Mfi Mse).bind fun r7 => (f_X6_doesDeed Ms Mso Mfz r7.2.2.1 r7.2.2.2.1 r7.2.2.2.2).bind fun r8 => f_X6_play_26 Mpp Mle fu r8.1 r8.2.1 r8.2.2 (r7.1 + 1) r7.2.1 r7.2.2.1 r7.2.2.2.1 r7.2.2.2.2

theorem f_X6_play_26_s (Mpp : (Nat → Int32)) (Mle : Int32) (Ms : (Nat → Int32)) (Mso : (Nat → Int32)) (Mfz : Int32) (Msp : Int32) (Mfo : Int32) (Mlt : Int32) (Mfi : Int32) (Mse : Int32) (fu : Nat) : f_X6_play_26 Mpp Mle (fu + 1) Ms Mso Mfz Msp Mfo Mlt Mfi Mse = (
    if Mle ≤ Msp then
      some (Ms, Mso, Mfz, Msp, Mfo, Mlt, Mfi, Mse)
    else
      (f_X6_takesDeed Mpp Mle Msp Mfo Mlt Mfi Mse).bind fun r7 => (f_X6_doesDeed Ms Mso Mfz r7.2.2.1 r7.2.2.2.1 r7.2.2.2.2).bind fun r8 => f_X6_play_26 Mpp Mle fu r8.1 r8.2.1 r8.2.2 (r7.1 + 1) r7.2.1 r7.2.2.1 r7.2.2.2.1 r7.2.2.2.2
    ) := rfl

def f_X6_play (Ms : (Nat → Int32)) (Mpa : (Nat → Int32)) (Mkn : Int32) (Mpp : (Nat → Int32)) (Mle : Int32) (Mso : (Nat → Int32)) (Mfz : Int32) (Msp : Int32) (Mfo : Int32) (Mlt : Int32) (Mfi : Int32) (Mse : Int32) : Option (Int32 × (Nat → Int32) × (Nat → Int32) × Int32 × Int32 × (Nat → Int32) × Int32 × Int32 × Int32 × Int32 × Int32 × Int32) :=
  (f_X6_isScore Mpp Mle Msp Mfo Mlt Mfi Mse).bind fun r1 => if r1.1 = 0 then
    some ((-2), Ms, Mpa, Mkn, Mle, Mso, Mfz, r1.2.1, r1.2.2.1, r1.2.2.2.1, r1.2.2.2.2.1, r1.2.2.2.2.2)
  else
    (f_X6_records Ms Mpa Mkn).bind fun r3 => (zald 150 Ms 4).bind fun x4 => (f_X6_play_26 Mpp Mle zF Ms Mso Mfz 0 r1.2.2.1 r1.2.2.2.1 r1.2.2.2.2.1 r1.2.2.2.2.2).bind fun t9 =>
      (zald 150 t9.1 4).bind fun x10 => some ((x10 - x4), t9.1, r3.1, r3.2, 0, t9.2.1, t9.2.2.1, t9.2.2.2.1, t9.2.2.2.2.1, t9.2.2.2.2.2.1, t9.2.2.2.2.2.2.1, t9.2.2.2.2.2.2.2)

theorem kX6_play_7 : Cond.fieldLink RX6 7 "ZoneSamplerModel" "s" "[I" ∈ wsX6_play := by decide +kernel
theorem kX6_play_128 : Cond.fieldLink RX6 128 "ZoneSamplerModel" "spot" "I" ∈ wsX6_play := by decide +kernel
theorem kX6_play_125 : Cond.fieldLink RX6 125 "ZoneSamplerModel" "length" "I" ∈ wsX6_play := by decide +kernel
theorem jX6_play_X6 : ∀ w ∈ u_ws RX6 TX6 17, w ∈ wsX6_play := by decide +kernel
set_option maxHeartbeats 4000000 in
set_option maxRecDepth 100000 in
theorem c_X6_play (l : Launch) (G : va_G) (c3 : zT3) (oM : zR8) (BM : zMd) {r : Int32} {Ms' : (Nat → Int32)} {Mpa' : (Nat → Int32)} {Mkn' : Int32} {Mle' : Int32} {Mso' : (Nat → Int32)} {Mfz' : Int32} {Msp' : Int32} {Mfo' : Int32} {Mlt' : Int32} {Mfi' : Int32} {Mse' : Int32} (hf : f_X6_play BM.1 BM.2.2.1 BM.2.2.2.1 BM.2.2.2.2.2.2.1 BM.2.2.2.2.2.2.2.1 BM.2.2.2.2.2.2.2.2.1 BM.2.2.2.2.2.2.2.2.2.1 BM.2.2.2.2.2.2.2.2.2.2.1 BM.2.2.2.2.2.2.2.2.2.2.2.1 BM.2.2.2.2.2.2.2.2.2.2.2.2.2.2.1 BM.2.2.2.2.2.2.2.2.2.2.2.2.2.2.2.1 BM.2.2.2.2.2.2.2.2.2.2.2.2.2.2.2.2 = some (r, Ms', Mpa', Mkn', Mle', Mso', Mfz', Msp', Mfo', Mlt', Mfi', Mse')) : zM l yX6_play wsX6_play ⟨6, 0, 0, 144⟩ G c3 (zwM c3.1 c3.2.2 oM (BM.1, BM.2.1, BM.2.2.1, BM.2.2.2.1, BM.2.2.2.2.1, BM.2.2.2.2.2.1, BM.2.2.2.2.2.2.1, BM.2.2.2.2.2.2.2.1, BM.2.2.2.2.2.2.2.2.1, BM.2.2.2.2.2.2.2.2.2.1, BM.2.2.2.2.2.2.2.2.2.2.1, BM.2.2.2.2.2.2.2.2.2.2.2.1, BM.2.2.2.2.2.2.2.2.2.2.2.2.1, BM.2.2.2.2.2.2.2.2.2.2.2.2.2.1, BM.2.2.2.2.2.2.2.2.2.2.2.2.2.2.1, BM.2.2.2.2.2.2.2.2.2.2.2.2.2.2.2.1, BM.2.2.2.2.2.2.2.2.2.2.2.2.2.2.2.2)) [.ref oM.1] (some (.int r)) (zwM c3.1 c3.2.2 oM (Ms', BM.2.1, Mpa', Mkn', BM.2.2.2.2.1, BM.2.2.2.2.2.1, BM.2.2.2.2.2.2.1, Mle', Mso', Mfz', Msp', Mfo', BM.2.2.2.2.2.2.2.2.2.2.2.2.1, BM.2.2.2.2.2.2.2.2.2.2.2.2.2.1, Mlt', Mfi', Mse')) := by
  obtain ⟨Ms, Mas, Mpa, Mkn, Mke, Mik, Mpp, Mle, Mso, Mfz, Msp, Mfo, Mrd, Mrs, Mlt, Mfi, Mse⟩ := BM
  have hf : f_X6_play Ms Mpa Mkn Mpp Mle Mso Mfz Msp Mfo Mlt Mfi Mse = some (r, Ms', Mpa', Mkn', Mle', Mso', Mfz', Msp', Mfo', Mlt', Mfi', Mse') := hf
  show zM l yX6_play wsX6_play ⟨6, 0, 0, 144⟩ G c3 (zwM c3.1 c3.2.2 oM (Ms, Mas, Mpa, Mkn, Mke, Mik, Mpp, Mle, Mso, Mfz, Msp, Mfo, Mrd, Mrs, Mlt, Mfi, Mse)) [.ref oM.1] (some (.int r)) (zwM c3.1 c3.2.2 oM (Ms', Mas, Mpa', Mkn', Mke, Mik, Mpp, Mle', Mso', Mfz', Msp', Mfo', Mrd, Mrs, Mlt', Mfi', Mse'))
  refine zM.of (cc := cX6_play) (maxL := 2) (ret := (some .int)) (by decide) rfl (Nat.le_of_ble_eq_true rfl) ?_
  intro p e s m args below meth c A ls S0 hr hlk hC hl
  have S0 : CallFix p m c cX6_play 2 s args wsX6_play RX6 := S0
  have hl : lv_has ls 2 [(0, .ref oM.1)] := hl
  have hx := S0.1
  have hb := S0.2.1
  obtain ⟨H, hH⟩ : ∃ y, y = s.heap := ⟨_, rfl⟩
  rw [← hH] at hC ⊢
  obtain ⟨locs, hlo⟩ : ∃ y : List Loc, y = [] := ⟨_, rfl⟩
  rw [← hlo] at hC ⊢
  clear hH hlo
  unfold f_X6_play at hf
  refine lv_aload_n hx hb dX6_play_0 rfl (lv_at hl 0 rfl) ?_
  obtain ⟨r1, hr1, hf⟩ := z_bind hf
  refine z_calli (z_runV (n := 0) (rest := []) (As := []) S0 hC (c_X6_isScore l G c3 oM (Ms, Mas, Mpa, Mkn, Mke, Mik, Mpp, Mle, Mso, Mfz, Msp, Mfo, Mrd, Mrs, Mlt, Mfi, Mse) hr1) [0, 1, 2, 3, 4, 5, 6, 7] (by decide) rfl gX6_play_X6_isScore rfl rfl rfl (by decide +kernel) ⟨Nat.le_of_ble_eq_true rfl, Nat.le_of_ble_eq_true rfl⟩ (ci := 6) (q0 := 0) rfl rfl rfl hl.1 rfl (Nat.le_of_ble_eq_true rfl) dX6_play_1) hC [0, 1, 2, 3, 4, 5, 6, 7] [] [0, 1, 2, 3, 4, 5, 6, 7] rfl (wr := ([] : va_W)) rfl (by decide) (by decide) (ws2 := (zwM c3.1 c3.2.2 oM (Ms, Mas, Mpa, Mkn, Mke, Mik, Mpp, Mle, Mso, Mfz, r1.2.1, r1.2.2.1, Mrd, Mrs, r1.2.2.2.1, r1.2.2.2.2.1, r1.2.2.2.2.2))) rfl (by decide) (fun H locs hC => ?_)
  refine lv_if_ne (tgt := 10) hx hb dX6_play_4 (by decide) (fun cd2 => ?_) (fun cd2 => ?_)
  · replace hf := z_neg cd2 hf
    refine lv_aload_n hx hb dX6_play_10 rfl (lv_at hl 0 rfl) ?_
    obtain ⟨r3, hr3, hf⟩ := z_bind hf
    refine z_callv (z_runV (n := 0) (rest := []) (As := []) S0 hC (c_X6_records l G c3 oM (Ms, Mas, Mpa, Mkn, Mke, Mik, Mpp, Mle, Mso, Mfz, r1.2.1, r1.2.2.1, Mrd, Mrs, r1.2.2.2.1, r1.2.2.2.2.1, r1.2.2.2.2.2) hr3) [0, 1, 2, 3, 4, 5, 6, 7] (by decide) rfl gX6_play_X6_records rfl rfl rfl (by decide +kernel) ⟨Nat.le_of_ble_eq_true rfl, Nat.le_of_ble_eq_true rfl⟩ (ci := 6) (q0 := 0) rfl rfl rfl hl.1 rfl (Nat.le_of_ble_eq_true rfl) dX6_play_11) hC [0, 1, 2, 3, 4, 5, 6, 7] [] [0, 1, 2, 3, 4, 5, 6, 7] rfl (wr := ([] : va_W)) rfl (by decide) (by decide) (ws2 := (zwM c3.1 c3.2.2 oM (Ms, Mas, r3.1, r3.2, Mke, Mik, Mpp, Mle, Mso, Mfz, r1.2.1, r1.2.2.1, Mrd, Mrs, r1.2.2.2.1, r1.2.2.2.2.1, r1.2.2.2.2.2))) rfl (by decide) (fun H locs hC => ?_)
    refine lv_aload_n hx hb dX6_play_14 rfl (lv_at hl 0 rfl) ?_
    refine z_get S0 hC (ci := 6) (C := RX6) (T := TX6) (N := 17) (v := .ref oM.2.1) jX6_play_X6 0 rfl rfl 0 (by decide) kX6_play_7 rfl rfl dX6_play_15 ?_
    refine lv_iconst (v := 4) hx hb dX6_play_18 (by decide) ?_
    obtain ⟨x4, hx4, hf⟩ := z_bind hf
    refine z_iald S0 hC 1 rfl hx4 dX6_play_19 ?_
    refine lv_istore_n (lv' := [(1, .int x4), (0, .ref oM.1)]) hx hb dX6_play_20 rfl hl (by decide) rfl (fun ls hl => ?_)
    refine lv_aload_n hx hb dX6_play_21 rfl (lv_at hl 1 rfl) ?_
    refine lv_iconst (v := 0) hx hb dX6_play_22 (by decide) ?_
    refine z_put S0 hC (ci := 6) (C := RX6) (T := TX6) (N := 17) (v := .int 0) jX6_play_X6 tyX6 tyX6_ok nmX6 0 rfl rfl 10 (by decide) kX6_play_128 rfl rfl rfl rfl (Nat.le_of_ble_eq_true rfl) dX6_play_23 (ws2 := (zwM c3.1 c3.2.2 oM (Ms, Mas, r3.1, r3.2, Mke, Mik, Mpp, Mle, Mso, Mfz, 0, r1.2.2.1, Mrd, Mrs, r1.2.2.2.1, r1.2.2.2.2.1, r1.2.2.2.2.2))) rfl (fun H locs hC => ?_)
    have L26 : ∀ (fu : Nat) (y1 : Int32) (Ms : (Nat → Int32)) (Mas : (Nat → Int32)) (Mpa : (Nat → Int32)) (Mkn : Int32) (Mke : (Nat → Int32)) (Mik : Int32) (Mpp : (Nat → Int32)) (Mle : Int32) (Mso : (Nat → Int32)) (Mfz : Int32) (Msp : Int32) (Mfo : Int32) (Mrd : (Nat → Int32)) (Mrs : Int32) (Mlt : Int32) (Mfi : Int32) (Mse : Int32) (tt : (Nat → Int32) × (Nat → Int32) × Int32 × Int32 × Int32 × Int32 × Int32 × Int32), f_X6_play_26 Mpp Mle fu Ms Mso Mfz Msp Mfo Mlt Mfi Mse = some tt → ∀ (H : Heap) (locs : List Loc) (ls : Array Slot), zC G c3 A s (zwM c3.1 c3.2.2 oM (Ms, Mas, Mpa, Mkn, Mke, Mik, Mpp, Mle, Mso, Mfz, Msp, Mfo, Mrd, Mrs, Mlt, Mfi, Mse)) H locs → lv_has ls 2 [(0, .ref oM.1), (1, .int y1)] → (∀ (H : Heap) (locs : List Loc) (ls : Array Slot), zC G c3 A s (zwM c3.1 c3.2.2 oM (tt.1, Mas, Mpa, Mkn, Mke, Mik, Mpp, Mle, tt.2.1, tt.2.2.1, tt.2.2.2.1, tt.2.2.2.2.1, Mrd, Mrs, tt.2.2.2.2.2.1, tt.2.2.2.2.2.2.1, tt.2.2.2.2.2.2.2)) H locs → lv_has ls 2 [(0, .ref oM.1), (1, .int y1)] → W p l e ⟨6, 0, 0, 144⟩ s m args below meth c H locs 0 0 (MQ below (zPost G (zwM c3.1 c3.2.2 oM (Ms', Mas, Mpa', Mkn', Mke, Mik, Mpp, Mle', Mso', Mfz', Msp', Mfo', Mrd, Mrs, Mlt', Mfi', Mse')) (some (.int r)) A) args s 0 0 A) (F0 m 58 ls [])) → W p l e ⟨6, 0, 0, 144⟩ s m args below meth c H locs 0 0 (MQ below (zPost G (zwM c3.1 c3.2.2 oM (Ms', Mas, Mpa', Mkn', Mke, Mik, Mpp, Mle', Mso', Mfz', Msp', Mfo', Mrd, Mrs, Mlt', Mfi', Mse')) (some (.int r)) A) args s 0 0 A) (F0 m 26 ls []) := by
      intro fu
      induction fu with
      | zero =>
        intro y1 Ms Mas Mpa Mkn Mke Mik Mpp Mle Mso Mfz Msp Mfo Mrd Mrs Mlt Mfi Mse tt hf H locs ls hC hl hK
        exact (z_none hf).elim
      | succ fu ih26 =>
        intro y1 Ms Mas Mpa Mkn Mke Mik Mpp Mle Mso Mfz Msp Mfo Mrd Mrs Mlt Mfi Mse tt hf H locs ls hC hl hK
        replace hf := (f_X6_play_26_s Mpp Mle Ms Mso Mfz Msp Mfo Mlt Mfi Mse fu).symm.trans hf
        refine lv_aload_n hx hb dX6_play_26 rfl (lv_at hl 0 rfl) ?_
        refine z_get S0 hC (ci := 6) (C := RX6) (T := TX6) (N := 17) (v := .int Msp) jX6_play_X6 0 rfl rfl 10 (by decide) kX6_play_128 rfl rfl dX6_play_27 ?_
        refine lv_aload_n hx hb dX6_play_30 rfl (lv_at hl 0 rfl) ?_
        refine z_get S0 hC (ci := 6) (C := RX6) (T := TX6) (N := 17) (v := .int Mle) jX6_play_X6 0 rfl rfl 7 (by decide) kX6_play_125 rfl rfl dX6_play_31 ?_
        refine lv_icmp_ge (tgt := 58) hx hb dX6_play_34 (by decide) (fun cd6 => ?_) (fun cd6 => ?_)
        · replace hf := z_pos cd6 hf
          have e1 := z_s1 hf
          subst e1
          exact hK H locs ls hC (lv_sub hl [0, 1] rfl)
        · replace hf := z_neg cd6 hf
          refine lv_aload_n hx hb dX6_play_37 rfl (lv_at hl 0 rfl) ?_
          obtain ⟨r7, hr7, hf⟩ := z_bind hf
          refine z_callv (z_runV (n := 0) (rest := []) (As := []) S0 hC (c_X6_takesDeed l G c3 oM (Ms, Mas, Mpa, Mkn, Mke, Mik, Mpp, Mle, Mso, Mfz, Msp, Mfo, Mrd, Mrs, Mlt, Mfi, Mse) hr7) [0, 1, 2, 3, 4, 5, 6, 7] (by decide) rfl gX6_play_X6_takesDeed rfl rfl rfl (by decide +kernel) ⟨Nat.le_of_ble_eq_true rfl, Nat.le_of_ble_eq_true rfl⟩ (ci := 6) (q0 := 0) rfl rfl rfl hl.1 rfl (Nat.le_of_ble_eq_true rfl) dX6_play_38) hC [0, 1, 2, 3, 4, 5, 6, 7] [] [0, 1, 2, 3, 4, 5, 6, 7] rfl (wr := ([] : va_W)) rfl (by decide) (by decide) (ws2 := (zwM c3.1 c3.2.2 oM (Ms, Mas, Mpa, Mkn, Mke, Mik, Mpp, Mle, Mso, Mfz, r7.1, r7.2.1, Mrd, Mrs, r7.2.2.1, r7.2.2.2.1, r7.2.2.2.2))) rfl (by decide) (fun H locs hC => ?_)
          refine lv_aload_n hx hb dX6_play_41 rfl (lv_at hl 0 rfl) ?_
          refine lv_dup hx hb dX6_play_42 rfl ?_
          refine z_get S0 hC (ci := 6) (C := RX6) (T := TX6) (N := 17) (v := .int r7.1) jX6_play_X6 0 rfl rfl 10 (by decide) kX6_play_128 rfl rfl dX6_play_43 ?_
          refine lv_iconst (v := 1) hx hb dX6_play_46 (by decide) ?_
          refine lv_iadd hx hb dX6_play_47 ?_
          refine z_put S0 hC (ci := 6) (C := RX6) (T := TX6) (N := 17) (v := .int (r7.1 + 1)) jX6_play_X6 tyX6 tyX6_ok nmX6 0 rfl rfl 10 (by decide) kX6_play_128 rfl rfl rfl rfl (Nat.le_of_ble_eq_true rfl) dX6_play_48 (ws2 := (zwM c3.1 c3.2.2 oM (Ms, Mas, Mpa, Mkn, Mke, Mik, Mpp, Mle, Mso, Mfz, (r7.1 + 1), r7.2.1, Mrd, Mrs, r7.2.2.1, r7.2.2.2.1, r7.2.2.2.2))) rfl (fun H locs hC => ?_)
          refine lv_aload_n hx hb dX6_play_51 rfl (lv_at hl 0 rfl) ?_
          obtain ⟨r8, hr8, hf⟩ := z_bind hf
          refine z_callv (z_runV (n := 0) (rest := []) (As := []) S0 hC (c_X6_doesDeed l G c3 oM (Ms, Mas, Mpa, Mkn, Mke, Mik, Mpp, Mle, Mso, Mfz, (r7.1 + 1), r7.2.1, Mrd, Mrs, r7.2.2.1, r7.2.2.2.1, r7.2.2.2.2) hr8) [0, 1, 2, 3, 4, 5, 6, 7] (by decide) rfl gX6_play_X6_doesDeed rfl rfl rfl (by decide +kernel) ⟨Nat.le_of_ble_eq_true rfl, Nat.le_of_ble_eq_true rfl⟩ (ci := 6) (q0 := 0) rfl rfl rfl hl.1 rfl (Nat.le_of_ble_eq_true rfl) dX6_play_52) hC [0, 1, 2, 3, 4, 5, 6, 7] [] [0, 1, 2, 3, 4, 5, 6, 7] rfl (wr := ([] : va_W)) rfl (by decide) (by decide) (ws2 := (zwM c3.1 c3.2.2 oM (r8.1, Mas, Mpa, Mkn, Mke, Mik, Mpp, Mle, r8.2.1, r8.2.2, (r7.1 + 1), r7.2.1, Mrd, Mrs, r7.2.2.1, r7.2.2.2.1, r7.2.2.2.2))) rfl (by decide) (fun H locs hC => ?_)
          refine lv_goto (tgt := 26) hx hb dX6_play_55 (by decide) ?_
          exact ih26 y1 r8.1 Mas Mpa Mkn Mke Mik Mpp Mle r8.2.1 r8.2.2 (r7.1 + 1) r7.2.1 Mrd Mrs r7.2.2.1 r7.2.2.2.1 r7.2.2.2.2 _ hf H locs ls hC (lv_sub hl [0, 1] rfl) hK
    obtain ⟨t9, ht9, hf⟩ := z_bind hf
    refine L26 zF x4 Ms Mas r3.1 r3.2 Mke Mik Mpp Mle Mso Mfz 0 r1.2.2.1 Mrd Mrs r1.2.2.2.1 r1.2.2.2.2.1 r1.2.2.2.2.2 t9 ht9 H locs ls hC (lv_sub hl [1, 0] rfl) (fun H locs ls hC hl => ?_)
    refine lv_aload_n hx hb dX6_play_58 rfl (lv_at hl 0 rfl) ?_
    refine lv_iconst (v := 0) hx hb dX6_play_59 (by decide) ?_
    refine z_put S0 hC (ci := 6) (C := RX6) (T := TX6) (N := 17) (v := .int 0) jX6_play_X6 tyX6 tyX6_ok nmX6 0 rfl rfl 7 (by decide) kX6_play_125 rfl rfl rfl rfl (Nat.le_of_ble_eq_true rfl) dX6_play_60 (ws2 := (zwM c3.1 c3.2.2 oM (t9.1, Mas, r3.1, r3.2, Mke, Mik, Mpp, 0, t9.2.1, t9.2.2.1, t9.2.2.2.1, t9.2.2.2.2.1, Mrd, Mrs, t9.2.2.2.2.2.1, t9.2.2.2.2.2.2.1, t9.2.2.2.2.2.2.2))) rfl (fun H locs hC => ?_)
    refine lv_aload_n hx hb dX6_play_63 rfl (lv_at hl 0 rfl) ?_
    refine z_get S0 hC (ci := 6) (C := RX6) (T := TX6) (N := 17) (v := .ref oM.2.1) jX6_play_X6 0 rfl rfl 0 (by decide) kX6_play_7 rfl rfl dX6_play_64 ?_
    refine lv_iconst (v := 4) hx hb dX6_play_67 (by decide) ?_
    obtain ⟨x10, hx10, hf⟩ := z_bind hf
    refine z_iald S0 hC 1 rfl hx10 dX6_play_68 ?_
    refine lv_iload_n hx hb dX6_play_69 rfl (lv_at hl 1 rfl) ?_
    refine lv_isub hx hb dX6_play_70 ?_
    obtain ⟨e1, e2, e3, e4, e5, e6, e7, e8, e9, e10, e11, e12⟩ := z_s12 hf
    subst e1
    subst e2
    subst e3
    subst e4
    subst e5
    subst e6
    subst e7
    subst e8
    subst e9
    subst e10
    subst e11
    subst e12
    exact z_iret S0 hr hlk hC dX6_play_71
  · replace hf := z_pos cd2 hf
    refine lv_bipush (v := (-2)) hx hb dX6_play_7 (by decide) ?_
    obtain ⟨e1, e2, e3, e4, e5, e6, e7, e8, e9, e10, e11, e12⟩ := z_s12 hf
    subst e1
    subst e2
    subst e3
    subst e4
    subst e5
    subst e6
    subst e7
    subst e8
    subst e9
    subst e10
    subst e11
    subst e12
    exact z_iret S0 hr hlk hC dX6_play_9

-- X6 voicesOf
def f_X6_voicesOf_4 (y1 : Int32) (Ms : (Nat → Int32)) : Nat → Int32 → Int32 → Option (Int32 × Int32)
  | 0, _, _ => none
  | fu + 1, y2, y3 =>
    (zald 150 Ms 1).bind fun x2 => if x2 ≤ y3 then
      some (y2, y3)
    else
      (f_X6_of Ms y3 0).bind fun r4 => Option.bind (α := Int32) (
        if r4 = y1 then
          some (1)
        else
          some (0)
      ) fun t6 =>
        f_X6_voicesOf_4 y1 Ms fu (y2 + t6) (y3 + 1)

theorem f_X6_voicesOf_4_s (y1 : Int32) (Ms : (Nat → Int32)) (y2 : Int32) (y3 : Int32) (fu : Nat) : f_X6_voicesOf_4 y1 Ms (fu + 1) y2 y3 = (
    (zald 150 Ms 1).bind fun x2 => if x2 ≤ y3 then
      some (y2, y3)
    else
      (f_X6_of Ms y3 0).bind fun r4 => Option.bind (α := Int32) (
        if r4 = y1 then
          some (1)
        else
          some (0)
      ) fun t6 =>
        f_X6_voicesOf_4 y1 Ms fu (y2 + t6) (y3 + 1)
    ) := rfl

def f_X6_voicesOf (Ms : (Nat → Int32)) (p1 : Int32) : Option (Int32) :=
  (f_X6_voicesOf_4 p1 Ms zF 0 0).bind fun t7 =>
    some (t7.1)

theorem kX6_voicesOf_7 : Cond.fieldLink RX6 7 "ZoneSamplerModel" "s" "[I" ∈ wsX6_voicesOf := by decide +kernel
theorem jX6_voicesOf_X6 : ∀ w ∈ u_ws RX6 TX6 17, w ∈ wsX6_voicesOf := by decide +kernel
set_option maxHeartbeats 4000000 in
set_option maxRecDepth 100000 in
theorem c_X6_voicesOf (l : Launch) (G : va_G) (c3 : zT3) (oM : zR8) (BM : zMd) (p1 : Int32) {r : Int32} (hf : f_X6_voicesOf BM.1 p1 = some (r)) : zM l yX6_voicesOf wsX6_voicesOf ⟨1, 0, 0, 22⟩ G c3 (zwM c3.1 c3.2.2 oM (BM.1, BM.2.1, BM.2.2.1, BM.2.2.2.1, BM.2.2.2.2.1, BM.2.2.2.2.2.1, BM.2.2.2.2.2.2.1, BM.2.2.2.2.2.2.2.1, BM.2.2.2.2.2.2.2.2.1, BM.2.2.2.2.2.2.2.2.2.1, BM.2.2.2.2.2.2.2.2.2.2.1, BM.2.2.2.2.2.2.2.2.2.2.2.1, BM.2.2.2.2.2.2.2.2.2.2.2.2.1, BM.2.2.2.2.2.2.2.2.2.2.2.2.2.1, BM.2.2.2.2.2.2.2.2.2.2.2.2.2.2.1, BM.2.2.2.2.2.2.2.2.2.2.2.2.2.2.2.1, BM.2.2.2.2.2.2.2.2.2.2.2.2.2.2.2.2)) [.ref oM.1, .int p1] (some (.int r)) (zwM c3.1 c3.2.2 oM (BM.1, BM.2.1, BM.2.2.1, BM.2.2.2.1, BM.2.2.2.2.1, BM.2.2.2.2.2.1, BM.2.2.2.2.2.2.1, BM.2.2.2.2.2.2.2.1, BM.2.2.2.2.2.2.2.2.1, BM.2.2.2.2.2.2.2.2.2.1, BM.2.2.2.2.2.2.2.2.2.2.1, BM.2.2.2.2.2.2.2.2.2.2.2.1, BM.2.2.2.2.2.2.2.2.2.2.2.2.1, BM.2.2.2.2.2.2.2.2.2.2.2.2.2.1, BM.2.2.2.2.2.2.2.2.2.2.2.2.2.2.1, BM.2.2.2.2.2.2.2.2.2.2.2.2.2.2.2.1, BM.2.2.2.2.2.2.2.2.2.2.2.2.2.2.2.2)) := by
  obtain ⟨Ms, Mas, Mpa, Mkn, Mke, Mik, Mpp, Mle, Mso, Mfz, Msp, Mfo, Mrd, Mrs, Mlt, Mfi, Mse⟩ := BM
  have hf : f_X6_voicesOf Ms p1 = some (r) := hf
  show zM l yX6_voicesOf wsX6_voicesOf ⟨1, 0, 0, 22⟩ G c3 (zwM c3.1 c3.2.2 oM (Ms, Mas, Mpa, Mkn, Mke, Mik, Mpp, Mle, Mso, Mfz, Msp, Mfo, Mrd, Mrs, Mlt, Mfi, Mse)) [.ref oM.1, .int p1] (some (.int r)) (zwM c3.1 c3.2.2 oM (Ms, Mas, Mpa, Mkn, Mke, Mik, Mpp, Mle, Mso, Mfz, Msp, Mfo, Mrd, Mrs, Mlt, Mfi, Mse))
  refine zM.of (cc := cX6_voicesOf) (maxL := 4) (ret := (some .int)) (by decide) rfl (Nat.le_of_ble_eq_true rfl) ?_
  intro p e s m args below meth c A ls S0 hr hlk hC hl
  have S0 : CallFix p m c cX6_voicesOf 4 s args wsX6_voicesOf RX6 := S0
  have hl : lv_has ls 4 [(0, .ref oM.1), (1, .int p1)] := hl
  have hx := S0.1
  have hb := S0.2.1
  obtain ⟨H, hH⟩ : ∃ y, y = s.heap := ⟨_, rfl⟩
  rw [← hH] at hC ⊢
  obtain ⟨locs, hlo⟩ : ∃ y : List Loc, y = [] := ⟨_, rfl⟩
  rw [← hlo] at hC ⊢
  clear hH hlo
  unfold f_X6_voicesOf at hf
  refine lv_iconst (v := 0) hx hb dX6_voicesOf_0 (by decide) ?_
  refine lv_istore_n (lv' := [(2, .int 0), (0, .ref oM.1), (1, .int p1)]) hx hb dX6_voicesOf_1 rfl hl (by decide) rfl (fun ls hl => ?_)
  refine lv_iconst (v := 0) hx hb dX6_voicesOf_2 (by decide) ?_
  refine lv_istore_n (lv' := [(3, .int 0), (2, .int 0), (0, .ref oM.1), (1, .int p1)]) hx hb dX6_voicesOf_3 rfl hl (by decide) rfl (fun ls hl => ?_)
  have L4 : ∀ (fu : Nat) (y1 : Int32) (y2 : Int32) (y3 : Int32) (Ms : (Nat → Int32)) (Mas : (Nat → Int32)) (Mpa : (Nat → Int32)) (Mkn : Int32) (Mke : (Nat → Int32)) (Mik : Int32) (Mpp : (Nat → Int32)) (Mle : Int32) (Mso : (Nat → Int32)) (Mfz : Int32) (Msp : Int32) (Mfo : Int32) (Mrd : (Nat → Int32)) (Mrs : Int32) (Mlt : Int32) (Mfi : Int32) (Mse : Int32) (tt : Int32 × Int32), f_X6_voicesOf_4 y1 Ms fu y2 y3 = some tt → ∀ (H : Heap) (locs : List Loc) (ls : Array Slot), zC G c3 A s (zwM c3.1 c3.2.2 oM (Ms, Mas, Mpa, Mkn, Mke, Mik, Mpp, Mle, Mso, Mfz, Msp, Mfo, Mrd, Mrs, Mlt, Mfi, Mse)) H locs → lv_has ls 4 [(0, .ref oM.1), (1, .int y1), (2, .int y2), (3, .int y3)] → (∀ (H : Heap) (locs : List Loc) (ls : Array Slot), zC G c3 A s (zwM c3.1 c3.2.2 oM (Ms, Mas, Mpa, Mkn, Mke, Mik, Mpp, Mle, Mso, Mfz, Msp, Mfo, Mrd, Mrs, Mlt, Mfi, Mse)) H locs → lv_has ls 4 [(0, .ref oM.1), (1, .int y1), (2, .int tt.1), (3, .int tt.2)] → W p l e ⟨1, 0, 0, 22⟩ s m args below meth c H locs 0 0 (MQ below (zPost G (zwM c3.1 c3.2.2 oM (Ms, Mas, Mpa, Mkn, Mke, Mik, Mpp, Mle, Mso, Mfz, Msp, Mfo, Mrd, Mrs, Mlt, Mfi, Mse)) (some (.int r)) A) args s 0 0 A) (F0 m 38 ls [])) → W p l e ⟨1, 0, 0, 22⟩ s m args below meth c H locs 0 0 (MQ below (zPost G (zwM c3.1 c3.2.2 oM (Ms, Mas, Mpa, Mkn, Mke, Mik, Mpp, Mle, Mso, Mfz, Msp, Mfo, Mrd, Mrs, Mlt, Mfi, Mse)) (some (.int r)) A) args s 0 0 A) (F0 m 4 ls []) := by
    intro fu
    induction fu with
    | zero =>
      intro y1 y2 y3 Ms Mas Mpa Mkn Mke Mik Mpp Mle Mso Mfz Msp Mfo Mrd Mrs Mlt Mfi Mse tt hf H locs ls hC hl hK
      exact (z_none hf).elim
    | succ fu ih4 =>
      intro y1 y2 y3 Ms Mas Mpa Mkn Mke Mik Mpp Mle Mso Mfz Msp Mfo Mrd Mrs Mlt Mfi Mse tt hf H locs ls hC hl hK
      replace hf := (f_X6_voicesOf_4_s y1 Ms y2 y3 fu).symm.trans hf
      refine lv_iload_n hx hb dX6_voicesOf_4 rfl (lv_at hl 3 rfl) ?_
      refine lv_aload_n hx hb dX6_voicesOf_5 rfl (lv_at hl 0 rfl) ?_
      refine z_get S0 hC (ci := 6) (C := RX6) (T := TX6) (N := 17) (v := .ref oM.2.1) jX6_voicesOf_X6 0 rfl rfl 0 (by decide) kX6_voicesOf_7 rfl rfl dX6_voicesOf_6 ?_
      refine lv_iconst (v := 1) hx hb dX6_voicesOf_9 (by decide) ?_
      obtain ⟨x2, hx2, hf⟩ := z_bind hf
      refine z_iald S0 hC 1 rfl hx2 dX6_voicesOf_10 ?_
      refine lv_icmp_ge (tgt := 38) hx hb dX6_voicesOf_11 (by decide) (fun cd3 => ?_) (fun cd3 => ?_)
      · replace hf := z_pos cd3 hf
        have e1 := z_s1 hf
        subst e1
        exact hK H locs ls hC (lv_sub hl [0, 1, 2, 3] rfl)
      · replace hf := z_neg cd3 hf
        refine lv_iload_n hx hb dX6_voicesOf_14 rfl (lv_at hl 2 rfl) ?_
        refine lv_aload_n hx hb dX6_voicesOf_15 rfl (lv_at hl 0 rfl) ?_
        refine lv_iload_n hx hb dX6_voicesOf_16 rfl (lv_at hl 3 rfl) ?_
        refine lv_iconst (v := 0) hx hb dX6_voicesOf_17 (by decide) ?_
        obtain ⟨r4, hr4, hf⟩ := z_bind hf
        refine z_callPi (z_runV (n := 2) (rest := [.int y2]) (As := [.int y3, .int 0]) S0 hC (c_X6_of l G c3 oM (Ms, Mas, Mpa, Mkn, Mke, Mik, Mpp, Mle, Mso, Mfz, Msp, Mfo, Mrd, Mrs, Mlt, Mfi, Mse) y3 0 hr4) [0, 1, 2, 3, 4, 5, 6, 7] (by decide) rfl gX6_voicesOf_X6_of rfl rfl rfl (by decide +kernel) ⟨Nat.le_of_ble_eq_true rfl, Nat.le_of_ble_eq_true rfl⟩ (ci := 6) (q0 := 0) rfl rfl rfl hl.1 rfl (Nat.le_of_ble_eq_true rfl) dX6_voicesOf_18) hC [0, 1, 2, 3, 4, 5, 6, 7] rfl (fun H locs hC => ?_)
        refine lv_iload_n hx hb dX6_voicesOf_21 rfl (lv_at hl 1 rfl) ?_
        obtain ⟨t6, ht6, hf⟩ := z_bind hf
        have Jt6 : ∀ (H : Heap) (locs : List Loc) (ls : Array Slot), zC G c3 A s (zwM c3.1 c3.2.2 oM (Ms, Mas, Mpa, Mkn, Mke, Mik, Mpp, Mle, Mso, Mfz, Msp, Mfo, Mrd, Mrs, Mlt, Mfi, Mse)) H locs → lv_has ls 4 [(0, .ref oM.1), (1, .int y1), (2, .int y2), (3, .int y3)] → W p l e ⟨1, 0, 0, 22⟩ s m args below meth c H locs 0 0 (MQ below (zPost G (zwM c3.1 c3.2.2 oM (Ms, Mas, Mpa, Mkn, Mke, Mik, Mpp, Mle, Mso, Mfz, Msp, Mfo, Mrd, Mrs, Mlt, Mfi, Mse)) (some (.int r)) A) args s 0 0 A) (F0 m 30 ls [.int t6, .int y2]) := by
          intro H locs ls hC hl
          refine lv_iadd hx hb dX6_voicesOf_30 ?_
          refine lv_istore_n (lv' := [(2, .int (y2 + t6)), (0, .ref oM.1), (1, .int y1), (3, .int y3)]) hx hb dX6_voicesOf_31 rfl hl (by decide) rfl (fun ls hl => ?_)
          refine lv_iinc (v := (y3 + 1)) (lv' := [(3, .int (y3 + 1)), (2, .int (y2 + t6)), (0, .ref oM.1), (1, .int y1)]) hx hb dX6_voicesOf_32 hl (k := 3) rfl rfl (by decide) rfl (fun ls hl => ?_)
          refine lv_goto (tgt := 4) hx hb dX6_voicesOf_35 (by decide) ?_
          exact ih4 y1 (y2 + t6) (y3 + 1) Ms Mas Mpa Mkn Mke Mik Mpp Mle Mso Mfz Msp Mfo Mrd Mrs Mlt Mfi Mse _ hf H locs ls hC (lv_sub hl [2, 3, 1, 0] rfl) hK
        refine lv_icmp_ne (tgt := 29) hx hb dX6_voicesOf_22 (by decide) (fun cd5 => ?_) (fun cd5 => ?_)
        · replace ht6 := z_neg cd5 ht6
          refine lv_iconst (v := 0) hx hb dX6_voicesOf_29 (by decide) ?_
          have e1 := z_s1 ht6
          subst e1
          exact Jt6 H locs ls hC (lv_sub hl [0, 1, 2, 3] rfl)
        · replace ht6 := z_pos cd5 ht6
          refine lv_iconst (v := 1) hx hb dX6_voicesOf_25 (by decide) ?_
          refine lv_goto (tgt := 30) hx hb dX6_voicesOf_26 (by decide) ?_
          have e1 := z_s1 ht6
          subst e1
          exact Jt6 H locs ls hC (lv_sub hl [0, 1, 2, 3] rfl)
  obtain ⟨t7, ht7, hf⟩ := z_bind hf
  refine L4 zF p1 0 0 Ms Mas Mpa Mkn Mke Mik Mpp Mle Mso Mfz Msp Mfo Mrd Mrs Mlt Mfi Mse t7 ht7 H locs ls hC (lv_sub hl [2, 3, 1, 0] rfl) (fun H locs ls hC hl => ?_)
  refine lv_iload_n hx hb dX6_voicesOf_38 rfl (lv_at hl 2 rfl) ?_
  have e1 := z_s1 hf
  subst e1
  exact z_iret S0 hr hlk hC dX6_voicesOf_39

-- X6 canSound
def f_X6_canSound_27 (y1 : Int32) (y3 : Int32) (Ms : (Nat → Int32)) : Nat → Int32 → Int32 → Option (Int32 × Int32)
  | 0, _, _ => none
  | fu + 1, y2, y4 =>
    (f_X6_ofZone Ms y1 3).bind fun r7 => if r7 < y4 then
      some (y2, y4)
    else
      if y2 = 0 then
        (f_X6_isSounding Ms y1 y3 y4).bind fun r10 => f_X6_canSound_27 y1 y3 Ms fu r10 (y4 + 1)
      else
        some (y2, y4)

theorem f_X6_canSound_27_s (y1 : Int32) (y3 : Int32) (Ms : (Nat → Int32)) (y2 : Int32) (y4 : Int32) (fu : Nat) : f_X6_canSound_27 y1 y3 Ms (fu + 1) y2 y4 = (
    (f_X6_ofZone Ms y1 3).bind fun r7 => if r7 < y4 then
      some (y2, y4)
    else
      if y2 = 0 then
        (f_X6_isSounding Ms y1 y3 y4).bind fun r10 => f_X6_canSound_27 y1 y3 Ms fu r10 (y4 + 1)
      else
        some (y2, y4)
    ) := rfl

def f_X6_canSound_9 (y1 : Int32) (Ms : (Nat → Int32)) : Nat → Int32 → Int32 → Option (Int32 × Int32)
  | 0, _, _ => none
  | fu + 1, y2, y3 =>
    (f_X6_ofZone Ms y1 1).bind fun r3 => if r3 < y3 then
      some (y2, y3)
    else
      (f_X6_ofZone Ms y1 2).bind fun r5 => (f_X6_canSound_27 y1 y3 Ms zF y2 r5).bind fun t11 =>
        f_X6_canSound_9 y1 Ms fu t11.1 (y3 + 1)

theorem f_X6_canSound_9_s (y1 : Int32) (Ms : (Nat → Int32)) (y2 : Int32) (y3 : Int32) (fu : Nat) : f_X6_canSound_9 y1 Ms (fu + 1) y2 y3 = (
    (f_X6_ofZone Ms y1 1).bind fun r3 => if r3 < y3 then
      some (y2, y3)
    else
      (f_X6_ofZone Ms y1 2).bind fun r5 => (f_X6_canSound_27 y1 y3 Ms zF y2 r5).bind fun t11 =>
        f_X6_canSound_9 y1 Ms fu t11.1 (y3 + 1)
    ) := rfl

def f_X6_canSound (Ms : (Nat → Int32)) (p1 : Int32) : Option (Int32) :=
  (f_X6_ofZone Ms p1 0).bind fun r1 => (f_X6_canSound_9 p1 Ms zF 0 r1).bind fun t12 =>
    (zbool t12.1).bind fun _ => some (t12.1)

set_option maxHeartbeats 4000000 in
set_option maxRecDepth 100000 in
theorem c_X6_canSound (l : Launch) (G : va_G) (c3 : zT3) (oM : zR8) (BM : zMd) (p1 : Int32) {r : Int32} (hf : f_X6_canSound BM.1 p1 = some (r)) : zM l yX6_canSound wsX6_canSound ⟨4, 0, 0, 96⟩ G c3 (zwM c3.1 c3.2.2 oM (BM.1, BM.2.1, BM.2.2.1, BM.2.2.2.1, BM.2.2.2.2.1, BM.2.2.2.2.2.1, BM.2.2.2.2.2.2.1, BM.2.2.2.2.2.2.2.1, BM.2.2.2.2.2.2.2.2.1, BM.2.2.2.2.2.2.2.2.2.1, BM.2.2.2.2.2.2.2.2.2.2.1, BM.2.2.2.2.2.2.2.2.2.2.2.1, BM.2.2.2.2.2.2.2.2.2.2.2.2.1, BM.2.2.2.2.2.2.2.2.2.2.2.2.2.1, BM.2.2.2.2.2.2.2.2.2.2.2.2.2.2.1, BM.2.2.2.2.2.2.2.2.2.2.2.2.2.2.2.1, BM.2.2.2.2.2.2.2.2.2.2.2.2.2.2.2.2)) [.ref oM.1, .int p1] (some (.int r)) (zwM c3.1 c3.2.2 oM (BM.1, BM.2.1, BM.2.2.1, BM.2.2.2.1, BM.2.2.2.2.1, BM.2.2.2.2.2.1, BM.2.2.2.2.2.2.1, BM.2.2.2.2.2.2.2.1, BM.2.2.2.2.2.2.2.2.1, BM.2.2.2.2.2.2.2.2.2.1, BM.2.2.2.2.2.2.2.2.2.2.1, BM.2.2.2.2.2.2.2.2.2.2.2.1, BM.2.2.2.2.2.2.2.2.2.2.2.2.1, BM.2.2.2.2.2.2.2.2.2.2.2.2.2.1, BM.2.2.2.2.2.2.2.2.2.2.2.2.2.2.1, BM.2.2.2.2.2.2.2.2.2.2.2.2.2.2.2.1, BM.2.2.2.2.2.2.2.2.2.2.2.2.2.2.2.2)) := by
  obtain ⟨Ms, Mas, Mpa, Mkn, Mke, Mik, Mpp, Mle, Mso, Mfz, Msp, Mfo, Mrd, Mrs, Mlt, Mfi, Mse⟩ := BM
  have hf : f_X6_canSound Ms p1 = some (r) := hf
  show zM l yX6_canSound wsX6_canSound ⟨4, 0, 0, 96⟩ G c3 (zwM c3.1 c3.2.2 oM (Ms, Mas, Mpa, Mkn, Mke, Mik, Mpp, Mle, Mso, Mfz, Msp, Mfo, Mrd, Mrs, Mlt, Mfi, Mse)) [.ref oM.1, .int p1] (some (.int r)) (zwM c3.1 c3.2.2 oM (Ms, Mas, Mpa, Mkn, Mke, Mik, Mpp, Mle, Mso, Mfz, Msp, Mfo, Mrd, Mrs, Mlt, Mfi, Mse))
  refine zM.of (cc := cX6_canSound) (maxL := 5) (ret := (some .boolean)) (by decide) rfl (Nat.le_of_ble_eq_true rfl) ?_
  intro p e s m args below meth c A ls S0 hr hlk hC hl
  have S0 : CallFix p m c cX6_canSound 5 s args wsX6_canSound RX6 := S0
  have hl : lv_has ls 5 [(0, .ref oM.1), (1, .int p1)] := hl
  have hx := S0.1
  have hb := S0.2.1
  obtain ⟨H, hH⟩ : ∃ y, y = s.heap := ⟨_, rfl⟩
  rw [← hH] at hC ⊢
  obtain ⟨locs, hlo⟩ : ∃ y : List Loc, y = [] := ⟨_, rfl⟩
  rw [← hlo] at hC ⊢
  clear hH hlo
  unfold f_X6_canSound at hf
  refine lv_iconst (v := 0) hx hb dX6_canSound_0 (by decide) ?_
  refine lv_istore_n (lv' := [(2, .int 0), (0, .ref oM.1), (1, .int p1)]) hx hb dX6_canSound_1 rfl hl (by decide) rfl (fun ls hl => ?_)
  refine lv_aload_n hx hb dX6_canSound_2 rfl (lv_at hl 1 rfl) ?_
  refine lv_iload_n hx hb dX6_canSound_3 rfl (lv_at hl 2 rfl) ?_
  refine lv_iconst (v := 0) hx hb dX6_canSound_4 (by decide) ?_
  obtain ⟨r1, hr1, hf⟩ := z_bind hf
  refine z_callPi (z_runV (n := 2) (rest := []) (As := [.int p1, .int 0]) S0 hC (c_X6_ofZone l G c3 oM (Ms, Mas, Mpa, Mkn, Mke, Mik, Mpp, Mle, Mso, Mfz, Msp, Mfo, Mrd, Mrs, Mlt, Mfi, Mse) p1 0 hr1) [0, 1, 2, 3, 4, 5, 6, 7] (by decide) rfl gX6_canSound_X6_ofZone rfl rfl rfl (by decide +kernel) ⟨Nat.le_of_ble_eq_true rfl, Nat.le_of_ble_eq_true rfl⟩ (ci := 6) (q0 := 0) rfl rfl rfl hl.1 rfl (Nat.le_of_ble_eq_true rfl) dX6_canSound_5) hC [0, 1, 2, 3, 4, 5, 6, 7] rfl (fun H locs hC => ?_)
  refine lv_istore_n (lv' := [(3, .int r1), (2, .int 0), (0, .ref oM.1), (1, .int p1)]) hx hb dX6_canSound_8 rfl hl (by decide) rfl (fun ls hl => ?_)
  have L9 : ∀ (fu : Nat) (y1 : Int32) (y2 : Int32) (y3 : Int32) (Ms : (Nat → Int32)) (Mas : (Nat → Int32)) (Mpa : (Nat → Int32)) (Mkn : Int32) (Mke : (Nat → Int32)) (Mik : Int32) (Mpp : (Nat → Int32)) (Mle : Int32) (Mso : (Nat → Int32)) (Mfz : Int32) (Msp : Int32) (Mfo : Int32) (Mrd : (Nat → Int32)) (Mrs : Int32) (Mlt : Int32) (Mfi : Int32) (Mse : Int32) (tt : Int32 × Int32), f_X6_canSound_9 y1 Ms fu y2 y3 = some tt → ∀ (H : Heap) (locs : List Loc) (ls : Array Slot), zC G c3 A s (zwM c3.1 c3.2.2 oM (Ms, Mas, Mpa, Mkn, Mke, Mik, Mpp, Mle, Mso, Mfz, Msp, Mfo, Mrd, Mrs, Mlt, Mfi, Mse)) H locs → lv_has ls 5 [(0, .ref oM.1), (1, .int y1), (2, .int y2), (3, .int y3)] → (∀ (H : Heap) (locs : List Loc) (ls : Array Slot), zC G c3 A s (zwM c3.1 c3.2.2 oM (Ms, Mas, Mpa, Mkn, Mke, Mik, Mpp, Mle, Mso, Mfz, Msp, Mfo, Mrd, Mrs, Mlt, Mfi, Mse)) H locs → lv_has ls 5 [(0, .ref oM.1), (1, .int y1), (2, .int tt.1), (3, .int tt.2)] → W p l e ⟨4, 0, 0, 96⟩ s m args below meth c H locs 0 0 (MQ below (zPost G (zwM c3.1 c3.2.2 oM (Ms, Mas, Mpa, Mkn, Mke, Mik, Mpp, Mle, Mso, Mfz, Msp, Mfo, Mrd, Mrs, Mlt, Mfi, Mse)) (some (.int r)) A) args s 0 0 A) (F0 m 63 ls [])) → W p l e ⟨4, 0, 0, 96⟩ s m args below meth c H locs 0 0 (MQ below (zPost G (zwM c3.1 c3.2.2 oM (Ms, Mas, Mpa, Mkn, Mke, Mik, Mpp, Mle, Mso, Mfz, Msp, Mfo, Mrd, Mrs, Mlt, Mfi, Mse)) (some (.int r)) A) args s 0 0 A) (F0 m 9 ls []) := by
    intro fu
    induction fu with
    | zero =>
      intro y1 y2 y3 Ms Mas Mpa Mkn Mke Mik Mpp Mle Mso Mfz Msp Mfo Mrd Mrs Mlt Mfi Mse tt hf H locs ls hC hl hK
      exact (z_none hf).elim
    | succ fu ih9 =>
      intro y1 y2 y3 Ms Mas Mpa Mkn Mke Mik Mpp Mle Mso Mfz Msp Mfo Mrd Mrs Mlt Mfi Mse tt hf H locs ls hC hl hK
      replace hf := (f_X6_canSound_9_s y1 Ms y2 y3 fu).symm.trans hf
      refine lv_iload_n hx hb dX6_canSound_9 rfl (lv_at hl 3 rfl) ?_
      refine lv_aload_n hx hb dX6_canSound_10 rfl (lv_at hl 0 rfl) ?_
      refine lv_iload_n hx hb dX6_canSound_11 rfl (lv_at hl 1 rfl) ?_
      refine lv_iconst (v := 1) hx hb dX6_canSound_12 (by decide) ?_
      obtain ⟨r3, hr3, hf⟩ := z_bind hf
      refine z_callPi (z_runV (n := 2) (rest := [.int y3]) (As := [.int y1, .int 1]) S0 hC (c_X6_ofZone l G c3 oM (Ms, Mas, Mpa, Mkn, Mke, Mik, Mpp, Mle, Mso, Mfz, Msp, Mfo, Mrd, Mrs, Mlt, Mfi, Mse) y1 1 hr3) [0, 1, 2, 3, 4, 5, 6, 7] (by decide) rfl gX6_canSound_X6_ofZone rfl rfl rfl (by decide +kernel) ⟨Nat.le_of_ble_eq_true rfl, Nat.le_of_ble_eq_true rfl⟩ (ci := 6) (q0 := 0) rfl rfl rfl hl.1 rfl (Nat.le_of_ble_eq_true rfl) dX6_canSound_13) hC [0, 1, 2, 3, 4, 5, 6, 7] rfl (fun H locs hC => ?_)
      refine lv_icmp_gt (tgt := 63) hx hb dX6_canSound_16 (by decide) (fun cd4 => ?_) (fun cd4 => ?_)
      · replace hf := z_pos cd4 hf
        have e1 := z_s1 hf
        subst e1
        exact hK H locs ls hC (lv_sub hl [0, 1, 2, 3] rfl)
      · replace hf := z_neg cd4 hf
        refine lv_aload_n hx hb dX6_canSound_19 rfl (lv_at hl 0 rfl) ?_
        refine lv_iload_n hx hb dX6_canSound_20 rfl (lv_at hl 1 rfl) ?_
        refine lv_iconst (v := 2) hx hb dX6_canSound_21 (by decide) ?_
        obtain ⟨r5, hr5, hf⟩ := z_bind hf
        refine z_callPi (z_runV (n := 2) (rest := []) (As := [.int y1, .int 2]) S0 hC (c_X6_ofZone l G c3 oM (Ms, Mas, Mpa, Mkn, Mke, Mik, Mpp, Mle, Mso, Mfz, Msp, Mfo, Mrd, Mrs, Mlt, Mfi, Mse) y1 2 hr5) [0, 1, 2, 3, 4, 5, 6, 7] (by decide) rfl gX6_canSound_X6_ofZone rfl rfl rfl (by decide +kernel) ⟨Nat.le_of_ble_eq_true rfl, Nat.le_of_ble_eq_true rfl⟩ (ci := 6) (q0 := 0) rfl rfl rfl hl.1 rfl (Nat.le_of_ble_eq_true rfl) dX6_canSound_22) hC [0, 1, 2, 3, 4, 5, 6, 7] rfl (fun H locs hC => ?_)
        refine lv_istore (lv' := [(4, .int r5), (0, .ref oM.1), (1, .int y1), (2, .int y2), (3, .int y3)]) hx hb dX6_canSound_25 hl (by decide) rfl (fun ls hl => ?_)
        have L27 : ∀ (fu : Nat) (y1 : Int32) (y2 : Int32) (y3 : Int32) (y4 : Int32) (Ms : (Nat → Int32)) (Mas : (Nat → Int32)) (Mpa : (Nat → Int32)) (Mkn : Int32) (Mke : (Nat → Int32)) (Mik : Int32) (Mpp : (Nat → Int32)) (Mle : Int32) (Mso : (Nat → Int32)) (Mfz : Int32) (Msp : Int32) (Mfo : Int32) (Mrd : (Nat → Int32)) (Mrs : Int32) (Mlt : Int32) (Mfi : Int32) (Mse : Int32) (tt : Int32 × Int32), f_X6_canSound_27 y1 y3 Ms fu y2 y4 = some tt → ∀ (H : Heap) (locs : List Loc) (ls : Array Slot), zC G c3 A s (zwM c3.1 c3.2.2 oM (Ms, Mas, Mpa, Mkn, Mke, Mik, Mpp, Mle, Mso, Mfz, Msp, Mfo, Mrd, Mrs, Mlt, Mfi, Mse)) H locs → lv_has ls 5 [(0, .ref oM.1), (1, .int y1), (2, .int y2), (3, .int y3), (4, .int y4)] → (∀ (H : Heap) (locs : List Loc) (ls : Array Slot), zC G c3 A s (zwM c3.1 c3.2.2 oM (Ms, Mas, Mpa, Mkn, Mke, Mik, Mpp, Mle, Mso, Mfz, Msp, Mfo, Mrd, Mrs, Mlt, Mfi, Mse)) H locs → lv_has ls 5 [(0, .ref oM.1), (1, .int y1), (2, .int tt.1), (3, .int y3), (4, .int tt.2)] → W p l e ⟨4, 0, 0, 96⟩ s m args below meth c H locs 0 0 (MQ below (zPost G (zwM c3.1 c3.2.2 oM (Ms, Mas, Mpa, Mkn, Mke, Mik, Mpp, Mle, Mso, Mfz, Msp, Mfo, Mrd, Mrs, Mlt, Mfi, Mse)) (some (.int r)) A) args s 0 0 A) (F0 m 57 ls [])) → W p l e ⟨4, 0, 0, 96⟩ s m args below meth c H locs 0 0 (MQ below (zPost G (zwM c3.1 c3.2.2 oM (Ms, Mas, Mpa, Mkn, Mke, Mik, Mpp, Mle, Mso, Mfz, Msp, Mfo, Mrd, Mrs, Mlt, Mfi, Mse)) (some (.int r)) A) args s 0 0 A) (F0 m 27 ls []) := by
          intro fu
          induction fu with
          | zero =>
            intro y1 y2 y3 y4 Ms Mas Mpa Mkn Mke Mik Mpp Mle Mso Mfz Msp Mfo Mrd Mrs Mlt Mfi Mse tt hf H locs ls hC hl hK
            exact (z_none hf).elim
          | succ fu ih27 =>
            intro y1 y2 y3 y4 Ms Mas Mpa Mkn Mke Mik Mpp Mle Mso Mfz Msp Mfo Mrd Mrs Mlt Mfi Mse tt hf H locs ls hC hl hK
            replace hf := (f_X6_canSound_27_s y1 y3 Ms y2 y4 fu).symm.trans hf
            refine lv_iload hx hb dX6_canSound_27 (lv_at hl 4 rfl) ?_
            refine lv_aload_n hx hb dX6_canSound_29 rfl (lv_at hl 0 rfl) ?_
            refine lv_iload_n hx hb dX6_canSound_30 rfl (lv_at hl 1 rfl) ?_
            refine lv_iconst (v := 3) hx hb dX6_canSound_31 (by decide) ?_
            obtain ⟨r7, hr7, hf⟩ := z_bind hf
            refine z_callPi (z_runV (n := 2) (rest := [.int y4]) (As := [.int y1, .int 3]) S0 hC (c_X6_ofZone l G c3 oM (Ms, Mas, Mpa, Mkn, Mke, Mik, Mpp, Mle, Mso, Mfz, Msp, Mfo, Mrd, Mrs, Mlt, Mfi, Mse) y1 3 hr7) [0, 1, 2, 3, 4, 5, 6, 7] (by decide) rfl gX6_canSound_X6_ofZone rfl rfl rfl (by decide +kernel) ⟨Nat.le_of_ble_eq_true rfl, Nat.le_of_ble_eq_true rfl⟩ (ci := 6) (q0 := 0) rfl rfl rfl hl.1 rfl (Nat.le_of_ble_eq_true rfl) dX6_canSound_32) hC [0, 1, 2, 3, 4, 5, 6, 7] rfl (fun H locs hC => ?_)
            refine lv_icmp_gt (tgt := 57) hx hb dX6_canSound_35 (by decide) (fun cd8 => ?_) (fun cd8 => ?_)
            · replace hf := z_pos cd8 hf
              have e1 := z_s1 hf
              subst e1
              exact hK H locs ls hC (lv_sub hl [0, 1, 2, 3, 4] rfl)
            · replace hf := z_neg cd8 hf
              refine lv_iload_n hx hb dX6_canSound_38 rfl (lv_at hl 2 rfl) ?_
              refine lv_if_ne (tgt := 57) hx hb dX6_canSound_39 (by decide) (fun cd9 => ?_) (fun cd9 => ?_)
              · replace hf := z_neg cd9 hf
                have e1 := z_s1 hf
                subst e1
                exact hK H locs ls hC (lv_sub hl [0, 1, 2, 3, 4] rfl)
              · replace hf := z_pos cd9 hf
                refine lv_aload_n hx hb dX6_canSound_42 rfl (lv_at hl 0 rfl) ?_
                refine lv_iload_n hx hb dX6_canSound_43 rfl (lv_at hl 1 rfl) ?_
                refine lv_iload_n hx hb dX6_canSound_44 rfl (lv_at hl 3 rfl) ?_
                refine lv_iload hx hb dX6_canSound_45 (lv_at hl 4 rfl) ?_
                obtain ⟨r10, hr10, hf⟩ := z_bind hf
                refine z_callPi (z_runV (n := 3) (rest := []) (As := [.int y1, .int y3, .int y4]) S0 hC (c_X6_isSounding l G c3 oM (Ms, Mas, Mpa, Mkn, Mke, Mik, Mpp, Mle, Mso, Mfz, Msp, Mfo, Mrd, Mrs, Mlt, Mfi, Mse) y1 y3 y4 hr10) [0, 1, 2, 3, 4, 5, 6, 7] (by decide) rfl gX6_canSound_X6_isSounding rfl rfl rfl (by decide +kernel) ⟨Nat.le_of_ble_eq_true rfl, Nat.le_of_ble_eq_true rfl⟩ (ci := 6) (q0 := 0) rfl rfl rfl hl.1 rfl (Nat.le_of_ble_eq_true rfl) dX6_canSound_47) hC [0, 1, 2, 3, 4, 5, 6, 7] rfl (fun H locs hC => ?_)
                refine lv_istore_n (lv' := [(2, .int r10), (0, .ref oM.1), (1, .int y1), (3, .int y3), (4, .int y4)]) hx hb dX6_canSound_50 rfl hl (by decide) rfl (fun ls hl => ?_)
                refine lv_iinc (v := (y4 + 1)) (lv' := [(4, .int (y4 + 1)), (2, .int r10), (0, .ref oM.1), (1, .int y1), (3, .int y3)]) hx hb dX6_canSound_51 hl (k := 4) rfl rfl (by decide) rfl (fun ls hl => ?_)
                refine lv_goto (tgt := 27) hx hb dX6_canSound_54 (by decide) ?_
                exact ih27 y1 r10 y3 (y4 + 1) Ms Mas Mpa Mkn Mke Mik Mpp Mle Mso Mfz Msp Mfo Mrd Mrs Mlt Mfi Mse _ hf H locs ls hC (lv_sub hl [2, 3, 1, 4, 0] rfl) hK
        obtain ⟨t11, ht11, hf⟩ := z_bind hf
        refine L27 zF y1 y2 y3 r5 Ms Mas Mpa Mkn Mke Mik Mpp Mle Mso Mfz Msp Mfo Mrd Mrs Mlt Mfi Mse t11 ht11 H locs ls hC (lv_sub hl [1, 2, 3, 4, 0] rfl) (fun H locs ls hC hl => ?_)
        refine lv_iinc (v := (y3 + 1)) (lv' := [(3, .int (y3 + 1)), (0, .ref oM.1), (1, .int y1), (2, .int t11.1), (4, .int t11.2)]) hx hb dX6_canSound_57 hl (k := 3) rfl rfl (by decide) rfl (fun ls hl => ?_)
        refine lv_goto (tgt := 9) hx hb dX6_canSound_60 (by decide) ?_
        exact ih9 y1 t11.1 (y3 + 1) Ms Mas Mpa Mkn Mke Mik Mpp Mle Mso Mfz Msp Mfo Mrd Mrs Mlt Mfi Mse _ hf H locs ls hC (lv_sub hl [1, 2, 3, 0] rfl) hK
  obtain ⟨t12, ht12, hf⟩ := z_bind hf
  refine L9 zF p1 0 r1 Ms Mas Mpa Mkn Mke Mik Mpp Mle Mso Mfz Msp Mfo Mrd Mrs Mlt Mfi Mse t12 ht12 H locs ls hC (lv_sub hl [2, 3, 1, 0] rfl) (fun H locs ls hC hl => ?_)
  refine lv_iload_n hx hb dX6_canSound_63 rfl (lv_at hl 2 rfl) ?_
  obtain ⟨w13, hw13, hf⟩ := z_bind hf
  have e1 := z_s1 hf
  subst e1
  exact z_zret S0 hr hlk (zbool_spec hw13) hC dX6_canSound_64

-- X6 zoneOf
def f_X6_zoneOf (Ms : (Nat → Int32)) (p1 : Int32) (p2 : Int32) : Option (Int32) :=
  (f_X6_isZone Ms p1).bind fun r1 => if r1 = 0 then
    some ((-1))
  else
    (f_X6_in p2 0 8).bind fun r3 => if r3 = 0 then
      some ((-1))
    else
      if 7 ≤ p2 then
        if p2 = 7 then
          (f_X6_voicesOf Ms p1).bind fun r9 => some (r9)
        else
          (f_X6_canSound Ms p1).bind fun r7 => if r7 = 0 then
            some (0)
          else
            some (1)
      else
        (f_X6_ofZone Ms p1 p2).bind fun r10 => some (r10)

set_option maxHeartbeats 4000000 in
set_option maxRecDepth 100000 in
theorem c_X6_zoneOf (l : Launch) (G : va_G) (c3 : zT3) (oM : zR8) (BM : zMd) (p1 : Int32) (p2 : Int32) {r : Int32} (hf : f_X6_zoneOf BM.1 p1 p2 = some (r)) : zM l yX6_zoneOf wsX6_zoneOf ⟨5, 0, 0, 120⟩ G c3 (zwM c3.1 c3.2.2 oM (BM.1, BM.2.1, BM.2.2.1, BM.2.2.2.1, BM.2.2.2.2.1, BM.2.2.2.2.2.1, BM.2.2.2.2.2.2.1, BM.2.2.2.2.2.2.2.1, BM.2.2.2.2.2.2.2.2.1, BM.2.2.2.2.2.2.2.2.2.1, BM.2.2.2.2.2.2.2.2.2.2.1, BM.2.2.2.2.2.2.2.2.2.2.2.1, BM.2.2.2.2.2.2.2.2.2.2.2.2.1, BM.2.2.2.2.2.2.2.2.2.2.2.2.2.1, BM.2.2.2.2.2.2.2.2.2.2.2.2.2.2.1, BM.2.2.2.2.2.2.2.2.2.2.2.2.2.2.2.1, BM.2.2.2.2.2.2.2.2.2.2.2.2.2.2.2.2)) [.ref oM.1, .int p1, .int p2] (some (.int r)) (zwM c3.1 c3.2.2 oM (BM.1, BM.2.1, BM.2.2.1, BM.2.2.2.1, BM.2.2.2.2.1, BM.2.2.2.2.2.1, BM.2.2.2.2.2.2.1, BM.2.2.2.2.2.2.2.1, BM.2.2.2.2.2.2.2.2.1, BM.2.2.2.2.2.2.2.2.2.1, BM.2.2.2.2.2.2.2.2.2.2.1, BM.2.2.2.2.2.2.2.2.2.2.2.1, BM.2.2.2.2.2.2.2.2.2.2.2.2.1, BM.2.2.2.2.2.2.2.2.2.2.2.2.2.1, BM.2.2.2.2.2.2.2.2.2.2.2.2.2.2.1, BM.2.2.2.2.2.2.2.2.2.2.2.2.2.2.2.1, BM.2.2.2.2.2.2.2.2.2.2.2.2.2.2.2.2)) := by
  obtain ⟨Ms, Mas, Mpa, Mkn, Mke, Mik, Mpp, Mle, Mso, Mfz, Msp, Mfo, Mrd, Mrs, Mlt, Mfi, Mse⟩ := BM
  have hf : f_X6_zoneOf Ms p1 p2 = some (r) := hf
  show zM l yX6_zoneOf wsX6_zoneOf ⟨5, 0, 0, 120⟩ G c3 (zwM c3.1 c3.2.2 oM (Ms, Mas, Mpa, Mkn, Mke, Mik, Mpp, Mle, Mso, Mfz, Msp, Mfo, Mrd, Mrs, Mlt, Mfi, Mse)) [.ref oM.1, .int p1, .int p2] (some (.int r)) (zwM c3.1 c3.2.2 oM (Ms, Mas, Mpa, Mkn, Mke, Mik, Mpp, Mle, Mso, Mfz, Msp, Mfo, Mrd, Mrs, Mlt, Mfi, Mse))
  refine zM.of (cc := cX6_zoneOf) (maxL := 3) (ret := (some .int)) (by decide) rfl (Nat.le_of_ble_eq_true rfl) ?_
  intro p e s m args below meth c A ls S0 hr hlk hC hl
  have S0 : CallFix p m c cX6_zoneOf 3 s args wsX6_zoneOf RX6 := S0
  have hl : lv_has ls 3 [(0, .ref oM.1), (1, .int p1), (2, .int p2)] := hl
  have hx := S0.1
  have hb := S0.2.1
  obtain ⟨H, hH⟩ : ∃ y, y = s.heap := ⟨_, rfl⟩
  rw [← hH] at hC ⊢
  obtain ⟨locs, hlo⟩ : ∃ y : List Loc, y = [] := ⟨_, rfl⟩
  rw [← hlo] at hC ⊢
  clear hH hlo
  unfold f_X6_zoneOf at hf
  refine lv_aload_n hx hb dX6_zoneOf_0 rfl (lv_at hl 0 rfl) ?_
  refine lv_iload_n hx hb dX6_zoneOf_1 rfl (lv_at hl 1 rfl) ?_
  obtain ⟨r1, hr1, hf⟩ := z_bind hf
  refine z_callPi (z_runV (n := 1) (rest := []) (As := [.int p1]) S0 hC (c_X6_isZone l G c3 oM (Ms, Mas, Mpa, Mkn, Mke, Mik, Mpp, Mle, Mso, Mfz, Msp, Mfo, Mrd, Mrs, Mlt, Mfi, Mse) p1 hr1) [0, 1, 2, 3, 4, 5, 6, 7] (by decide) rfl gX6_zoneOf_X6_isZone rfl rfl rfl (by decide +kernel) ⟨Nat.le_of_ble_eq_true rfl, Nat.le_of_ble_eq_true rfl⟩ (ci := 6) (q0 := 0) rfl rfl rfl hl.1 rfl (Nat.le_of_ble_eq_true rfl) dX6_zoneOf_2) hC [0, 1, 2, 3, 4, 5, 6, 7] rfl (fun H locs hC => ?_)
  refine lv_if_eq (tgt := 18) hx hb dX6_zoneOf_5 (by decide) (fun cd2 => ?_) (fun cd2 => ?_)
  · replace hf := z_pos cd2 hf
    refine lv_iconst (v := (-1)) hx hb dX6_zoneOf_18 (by decide) ?_
    have e1 := z_s1 hf
    subst e1
    exact z_iret S0 hr hlk hC dX6_zoneOf_19
  · replace hf := z_neg cd2 hf
    refine lv_iload_n hx hb dX6_zoneOf_8 rfl (lv_at hl 2 rfl) ?_
    refine lv_iconst (v := 0) hx hb dX6_zoneOf_9 (by decide) ?_
    refine lv_bipush (v := 8) hx hb dX6_zoneOf_10 (by decide) ?_
    obtain ⟨r3, hr3, hf⟩ := z_bind hf
    refine z_callPi (z_runS (n := 3) (rest := []) (As := [.int p2, .int 0, .int 8]) S0 hC (c_X6_in l G c3 p2 0 8 hr3) [] (by decide) rfl gX6_zoneOf_X6_in rfl rfl rfl (by decide +kernel) ⟨Nat.le_of_ble_eq_true rfl, Nat.le_of_ble_eq_true rfl⟩ rfl hl.1 rfl (Nat.le_of_ble_eq_true rfl) dX6_zoneOf_12) hC [] rfl (fun H locs hC => ?_)
    refine lv_if_ne (tgt := 20) hx hb dX6_zoneOf_15 (by decide) (fun cd4 => ?_) (fun cd4 => ?_)
    · replace hf := z_neg cd4 hf
      refine lv_iload_n hx hb dX6_zoneOf_20 rfl (lv_at hl 2 rfl) ?_
      refine lv_bipush (v := 7) hx hb dX6_zoneOf_21 (by decide) ?_
      refine lv_icmp_ge (tgt := 35) hx hb dX6_zoneOf_23 (by decide) (fun cd5 => ?_) (fun cd5 => ?_)
      · replace hf := z_pos cd5 hf
        refine lv_iload_n hx hb dX6_zoneOf_35 rfl (lv_at hl 2 rfl) ?_
        refine lv_bipush (v := 7) hx hb dX6_zoneOf_36 (by decide) ?_
        refine lv_icmp_ne (tgt := 49) hx hb dX6_zoneOf_38 (by decide) (fun cd6 => ?_) (fun cd6 => ?_)
        · replace hf := z_neg cd6 hf
          refine lv_aload_n hx hb dX6_zoneOf_49 rfl (lv_at hl 0 rfl) ?_
          refine lv_iload_n hx hb dX6_zoneOf_50 rfl (lv_at hl 1 rfl) ?_
          obtain ⟨r7, hr7, hf⟩ := z_bind hf
          refine z_callPi (z_runV (n := 1) (rest := []) (As := [.int p1]) S0 hC (c_X6_canSound l G c3 oM (Ms, Mas, Mpa, Mkn, Mke, Mik, Mpp, Mle, Mso, Mfz, Msp, Mfo, Mrd, Mrs, Mlt, Mfi, Mse) p1 hr7) [0, 1, 2, 3, 4, 5, 6, 7] (by decide) rfl gX6_zoneOf_X6_canSound rfl rfl rfl (by decide +kernel) ⟨Nat.le_of_ble_eq_true rfl, Nat.le_of_ble_eq_true rfl⟩ (ci := 6) (q0 := 0) rfl rfl rfl hl.1 rfl (Nat.le_of_ble_eq_true rfl) dX6_zoneOf_51) hC [0, 1, 2, 3, 4, 5, 6, 7] rfl (fun H locs hC => ?_)
          refine lv_if_eq (tgt := 61) hx hb dX6_zoneOf_54 (by decide) (fun cd8 => ?_) (fun cd8 => ?_)
          · replace hf := z_pos cd8 hf
            refine lv_iconst (v := 0) hx hb dX6_zoneOf_61 (by decide) ?_
            have e1 := z_s1 hf
            subst e1
            exact z_iret S0 hr hlk hC dX6_zoneOf_62
          · replace hf := z_neg cd8 hf
            refine lv_iconst (v := 1) hx hb dX6_zoneOf_57 (by decide) ?_
            refine lv_goto (tgt := 62) hx hb dX6_zoneOf_58 (by decide) ?_
            have e1 := z_s1 hf
            subst e1
            exact z_iret S0 hr hlk hC dX6_zoneOf_62
        · replace hf := z_pos cd6 hf
          refine lv_aload_n hx hb dX6_zoneOf_41 rfl (lv_at hl 0 rfl) ?_
          refine lv_iload_n hx hb dX6_zoneOf_42 rfl (lv_at hl 1 rfl) ?_
          obtain ⟨r9, hr9, hf⟩ := z_bind hf
          refine z_callPi (z_runV (n := 1) (rest := []) (As := [.int p1]) S0 hC (c_X6_voicesOf l G c3 oM (Ms, Mas, Mpa, Mkn, Mke, Mik, Mpp, Mle, Mso, Mfz, Msp, Mfo, Mrd, Mrs, Mlt, Mfi, Mse) p1 hr9) [0, 1, 2, 3, 4, 5, 6, 7] (by decide) rfl gX6_zoneOf_X6_voicesOf rfl rfl rfl (by decide +kernel) ⟨Nat.le_of_ble_eq_true rfl, Nat.le_of_ble_eq_true rfl⟩ (ci := 6) (q0 := 0) rfl rfl rfl hl.1 rfl (Nat.le_of_ble_eq_true rfl) dX6_zoneOf_43) hC [0, 1, 2, 3, 4, 5, 6, 7] rfl (fun H locs hC => ?_)
          refine lv_goto (tgt := 62) hx hb dX6_zoneOf_46 (by decide) ?_
          have e1 := z_s1 hf
          subst e1
          exact z_iret S0 hr hlk hC dX6_zoneOf_62
      · replace hf := z_neg cd5 hf
        refine lv_aload_n hx hb dX6_zoneOf_26 rfl (lv_at hl 0 rfl) ?_
        refine lv_iload_n hx hb dX6_zoneOf_27 rfl (lv_at hl 1 rfl) ?_
        refine lv_iload_n hx hb dX6_zoneOf_28 rfl (lv_at hl 2 rfl) ?_
        obtain ⟨r10, hr10, hf⟩ := z_bind hf
        refine z_callPi (z_runV (n := 2) (rest := []) (As := [.int p1, .int p2]) S0 hC (c_X6_ofZone l G c3 oM (Ms, Mas, Mpa, Mkn, Mke, Mik, Mpp, Mle, Mso, Mfz, Msp, Mfo, Mrd, Mrs, Mlt, Mfi, Mse) p1 p2 hr10) [0, 1, 2, 3, 4, 5, 6, 7] (by decide) rfl gX6_zoneOf_X6_ofZone rfl rfl rfl (by decide +kernel) ⟨Nat.le_of_ble_eq_true rfl, Nat.le_of_ble_eq_true rfl⟩ (ci := 6) (q0 := 0) rfl rfl rfl hl.1 rfl (Nat.le_of_ble_eq_true rfl) dX6_zoneOf_29) hC [0, 1, 2, 3, 4, 5, 6, 7] rfl (fun H locs hC => ?_)
        refine lv_goto (tgt := 62) hx hb dX6_zoneOf_32 (by decide) ?_
        have e1 := z_s1 hf
        subst e1
        exact z_iret S0 hr hlk hC dX6_zoneOf_62
    · replace hf := z_pos cd4 hf
      refine lv_iconst (v := (-1)) hx hb dX6_zoneOf_18 (by decide) ?_
      have e1 := z_s1 hf
      subst e1
      exact z_iret S0 hr hlk hC dX6_zoneOf_19

-- X6 rankOf
def f_X6_rankOf_4 (y1 : Int32) (Ms : (Nat → Int32)) : Nat → Int32 → Int32 → Option (Int32 × Int32)
  | 0, _, _ => none
  | fu + 1, y2, y3 =>
    (zald 150 Ms 1).bind fun x2 => if x2 ≤ y3 then
      some (y2, y3)
    else
      (f_X6_soon Ms y3).bind fun r4 => (f_X6_soon Ms y1).bind fun r5 => Option.bind (α := Int32) (
        if r5 < r4 then
          some (1)
        else
          (f_X6_soon Ms y3).bind fun r8 => (f_X6_soon Ms y1).bind fun r9 => if r8 = r9 then
            if y1 ≤ y3 then
              some (0)
            else
              some (1)
          else
            some (0)
      ) fun t7 =>
        f_X6_rankOf_4 y1 Ms fu (y2 + t7) (y3 + 1)

theorem f_X6_rankOf_4_s (y1 : Int32) (Ms : (Nat → Int32)) (y2 : Int32) (y3 : Int32) (fu : Nat) : f_X6_rankOf_4 y1 Ms (fu + 1) y2 y3 = (
    (zald 150 Ms 1).bind fun x2 => if x2 ≤ y3 then
      some (y2, y3)
    else
      (f_X6_soon Ms y3).bind fun r4 => (f_X6_soon Ms y1).bind fun r5 => Option.bind (α := Int32) (
        if r5 < r4 then
          some (1)
        else
          (f_X6_soon Ms y3).bind fun r8 => (f_X6_soon Ms y1).bind fun r9 => if r8 = r9 then
            if y1 ≤ y3 then
              some (0)
            else
              some (1)
          else
            some (0)
      ) fun t7 =>
        f_X6_rankOf_4 y1 Ms fu (y2 + t7) (y3 + 1)
    ) := rfl

def f_X6_rankOf (Ms : (Nat → Int32)) (p1 : Int32) : Option (Int32) :=
  (f_X6_rankOf_4 p1 Ms zF 0 0).bind fun t12 =>
    some (t12.1)

theorem kX6_rankOf_7 : Cond.fieldLink RX6 7 "ZoneSamplerModel" "s" "[I" ∈ wsX6_rankOf := by decide +kernel
theorem jX6_rankOf_X6 : ∀ w ∈ u_ws RX6 TX6 17, w ∈ wsX6_rankOf := by decide +kernel
set_option maxHeartbeats 4000000 in
set_option maxRecDepth 100000 in
theorem c_X6_rankOf (l : Launch) (G : va_G) (c3 : zT3) (oM : zR8) (BM : zMd) (p1 : Int32) {r : Int32} (hf : f_X6_rankOf BM.1 p1 = some (r)) : zM l yX6_rankOf wsX6_rankOf ⟨2, 0, 0, 43⟩ G c3 (zwM c3.1 c3.2.2 oM (BM.1, BM.2.1, BM.2.2.1, BM.2.2.2.1, BM.2.2.2.2.1, BM.2.2.2.2.2.1, BM.2.2.2.2.2.2.1, BM.2.2.2.2.2.2.2.1, BM.2.2.2.2.2.2.2.2.1, BM.2.2.2.2.2.2.2.2.2.1, BM.2.2.2.2.2.2.2.2.2.2.1, BM.2.2.2.2.2.2.2.2.2.2.2.1, BM.2.2.2.2.2.2.2.2.2.2.2.2.1, BM.2.2.2.2.2.2.2.2.2.2.2.2.2.1, BM.2.2.2.2.2.2.2.2.2.2.2.2.2.2.1, BM.2.2.2.2.2.2.2.2.2.2.2.2.2.2.2.1, BM.2.2.2.2.2.2.2.2.2.2.2.2.2.2.2.2)) [.ref oM.1, .int p1] (some (.int r)) (zwM c3.1 c3.2.2 oM (BM.1, BM.2.1, BM.2.2.1, BM.2.2.2.1, BM.2.2.2.2.1, BM.2.2.2.2.2.1, BM.2.2.2.2.2.2.1, BM.2.2.2.2.2.2.2.1, BM.2.2.2.2.2.2.2.2.1, BM.2.2.2.2.2.2.2.2.2.1, BM.2.2.2.2.2.2.2.2.2.2.1, BM.2.2.2.2.2.2.2.2.2.2.2.1, BM.2.2.2.2.2.2.2.2.2.2.2.2.1, BM.2.2.2.2.2.2.2.2.2.2.2.2.2.1, BM.2.2.2.2.2.2.2.2.2.2.2.2.2.2.1, BM.2.2.2.2.2.2.2.2.2.2.2.2.2.2.2.1, BM.2.2.2.2.2.2.2.2.2.2.2.2.2.2.2.2)) := by
  obtain ⟨Ms, Mas, Mpa, Mkn, Mke, Mik, Mpp, Mle, Mso, Mfz, Msp, Mfo, Mrd, Mrs, Mlt, Mfi, Mse⟩ := BM
  have hf : f_X6_rankOf Ms p1 = some (r) := hf
  show zM l yX6_rankOf wsX6_rankOf ⟨2, 0, 0, 43⟩ G c3 (zwM c3.1 c3.2.2 oM (Ms, Mas, Mpa, Mkn, Mke, Mik, Mpp, Mle, Mso, Mfz, Msp, Mfo, Mrd, Mrs, Mlt, Mfi, Mse)) [.ref oM.1, .int p1] (some (.int r)) (zwM c3.1 c3.2.2 oM (Ms, Mas, Mpa, Mkn, Mke, Mik, Mpp, Mle, Mso, Mfz, Msp, Mfo, Mrd, Mrs, Mlt, Mfi, Mse))
  refine zM.of (cc := cX6_rankOf) (maxL := 4) (ret := (some .int)) (by decide) rfl (Nat.le_of_ble_eq_true rfl) ?_
  intro p e s m args below meth c A ls S0 hr hlk hC hl
  have S0 : CallFix p m c cX6_rankOf 4 s args wsX6_rankOf RX6 := S0
  have hl : lv_has ls 4 [(0, .ref oM.1), (1, .int p1)] := hl
  have hx := S0.1
  have hb := S0.2.1
  obtain ⟨H, hH⟩ : ∃ y, y = s.heap := ⟨_, rfl⟩
  rw [← hH] at hC ⊢
  obtain ⟨locs, hlo⟩ : ∃ y : List Loc, y = [] := ⟨_, rfl⟩
  rw [← hlo] at hC ⊢
  clear hH hlo
  unfold f_X6_rankOf at hf
  refine lv_iconst (v := 0) hx hb dX6_rankOf_0 (by decide) ?_
  refine lv_istore_n (lv' := [(2, .int 0), (0, .ref oM.1), (1, .int p1)]) hx hb dX6_rankOf_1 rfl hl (by decide) rfl (fun ls hl => ?_)
  refine lv_iconst (v := 0) hx hb dX6_rankOf_2 (by decide) ?_
  refine lv_istore_n (lv' := [(3, .int 0), (2, .int 0), (0, .ref oM.1), (1, .int p1)]) hx hb dX6_rankOf_3 rfl hl (by decide) rfl (fun ls hl => ?_)
  have L4 : ∀ (fu : Nat) (y1 : Int32) (y2 : Int32) (y3 : Int32) (Ms : (Nat → Int32)) (Mas : (Nat → Int32)) (Mpa : (Nat → Int32)) (Mkn : Int32) (Mke : (Nat → Int32)) (Mik : Int32) (Mpp : (Nat → Int32)) (Mle : Int32) (Mso : (Nat → Int32)) (Mfz : Int32) (Msp : Int32) (Mfo : Int32) (Mrd : (Nat → Int32)) (Mrs : Int32) (Mlt : Int32) (Mfi : Int32) (Mse : Int32) (tt : Int32 × Int32), f_X6_rankOf_4 y1 Ms fu y2 y3 = some tt → ∀ (H : Heap) (locs : List Loc) (ls : Array Slot), zC G c3 A s (zwM c3.1 c3.2.2 oM (Ms, Mas, Mpa, Mkn, Mke, Mik, Mpp, Mle, Mso, Mfz, Msp, Mfo, Mrd, Mrs, Mlt, Mfi, Mse)) H locs → lv_has ls 4 [(0, .ref oM.1), (1, .int y1), (2, .int y2), (3, .int y3)] → (∀ (H : Heap) (locs : List Loc) (ls : Array Slot), zC G c3 A s (zwM c3.1 c3.2.2 oM (Ms, Mas, Mpa, Mkn, Mke, Mik, Mpp, Mle, Mso, Mfz, Msp, Mfo, Mrd, Mrs, Mlt, Mfi, Mse)) H locs → lv_has ls 4 [(0, .ref oM.1), (1, .int y1), (2, .int tt.1), (3, .int tt.2)] → W p l e ⟨2, 0, 0, 43⟩ s m args below meth c H locs 0 0 (MQ below (zPost G (zwM c3.1 c3.2.2 oM (Ms, Mas, Mpa, Mkn, Mke, Mik, Mpp, Mle, Mso, Mfz, Msp, Mfo, Mrd, Mrs, Mlt, Mfi, Mse)) (some (.int r)) A) args s 0 0 A) (F0 m 59 ls [])) → W p l e ⟨2, 0, 0, 43⟩ s m args below meth c H locs 0 0 (MQ below (zPost G (zwM c3.1 c3.2.2 oM (Ms, Mas, Mpa, Mkn, Mke, Mik, Mpp, Mle, Mso, Mfz, Msp, Mfo, Mrd, Mrs, Mlt, Mfi, Mse)) (some (.int r)) A) args s 0 0 A) (F0 m 4 ls []) := by
    intro fu
    induction fu with
    | zero =>
      intro y1 y2 y3 Ms Mas Mpa Mkn Mke Mik Mpp Mle Mso Mfz Msp Mfo Mrd Mrs Mlt Mfi Mse tt hf H locs ls hC hl hK
      exact (z_none hf).elim
    | succ fu ih4 =>
      intro y1 y2 y3 Ms Mas Mpa Mkn Mke Mik Mpp Mle Mso Mfz Msp Mfo Mrd Mrs Mlt Mfi Mse tt hf H locs ls hC hl hK
      replace hf := (f_X6_rankOf_4_s y1 Ms y2 y3 fu).symm.trans hf
      refine lv_iload_n hx hb dX6_rankOf_4 rfl (lv_at hl 3 rfl) ?_
      refine lv_aload_n hx hb dX6_rankOf_5 rfl (lv_at hl 0 rfl) ?_
      refine z_get S0 hC (ci := 6) (C := RX6) (T := TX6) (N := 17) (v := .ref oM.2.1) jX6_rankOf_X6 0 rfl rfl 0 (by decide) kX6_rankOf_7 rfl rfl dX6_rankOf_6 ?_
      refine lv_iconst (v := 1) hx hb dX6_rankOf_9 (by decide) ?_
      obtain ⟨x2, hx2, hf⟩ := z_bind hf
      refine z_iald S0 hC 1 rfl hx2 dX6_rankOf_10 ?_
      refine lv_icmp_ge (tgt := 59) hx hb dX6_rankOf_11 (by decide) (fun cd3 => ?_) (fun cd3 => ?_)
      · replace hf := z_pos cd3 hf
        have e1 := z_s1 hf
        subst e1
        exact hK H locs ls hC (lv_sub hl [0, 1, 2, 3] rfl)
      · replace hf := z_neg cd3 hf
        refine lv_iload_n hx hb dX6_rankOf_14 rfl (lv_at hl 2 rfl) ?_
        refine lv_aload_n hx hb dX6_rankOf_15 rfl (lv_at hl 0 rfl) ?_
        refine lv_iload_n hx hb dX6_rankOf_16 rfl (lv_at hl 3 rfl) ?_
        obtain ⟨r4, hr4, hf⟩ := z_bind hf
        refine z_callPi (z_runV (n := 1) (rest := [.int y2]) (As := [.int y3]) S0 hC (c_X6_soon l G c3 oM (Ms, Mas, Mpa, Mkn, Mke, Mik, Mpp, Mle, Mso, Mfz, Msp, Mfo, Mrd, Mrs, Mlt, Mfi, Mse) y3 hr4) [0, 1, 2, 3, 4, 5, 6, 7] (by decide) rfl gX6_rankOf_X6_soon rfl rfl rfl (by decide +kernel) ⟨Nat.le_of_ble_eq_true rfl, Nat.le_of_ble_eq_true rfl⟩ (ci := 6) (q0 := 0) rfl rfl rfl hl.1 rfl (Nat.le_of_ble_eq_true rfl) dX6_rankOf_17) hC [0, 1, 2, 3, 4, 5, 6, 7] rfl (fun H locs hC => ?_)
        refine lv_aload_n hx hb dX6_rankOf_20 rfl (lv_at hl 0 rfl) ?_
        refine lv_iload_n hx hb dX6_rankOf_21 rfl (lv_at hl 1 rfl) ?_
        obtain ⟨r5, hr5, hf⟩ := z_bind hf
        refine z_callPi (z_runV (n := 1) (rest := [.int r4, .int y2]) (As := [.int y1]) S0 hC (c_X6_soon l G c3 oM (Ms, Mas, Mpa, Mkn, Mke, Mik, Mpp, Mle, Mso, Mfz, Msp, Mfo, Mrd, Mrs, Mlt, Mfi, Mse) y1 hr5) [0, 1, 2, 3, 4, 5, 6, 7] (by decide) rfl gX6_rankOf_X6_soon rfl rfl rfl (by decide +kernel) ⟨Nat.le_of_ble_eq_true rfl, Nat.le_of_ble_eq_true rfl⟩ (ci := 6) (q0 := 0) rfl rfl rfl hl.1 rfl (Nat.le_of_ble_eq_true rfl) dX6_rankOf_22) hC [0, 1, 2, 3, 4, 5, 6, 7] rfl (fun H locs hC => ?_)
        obtain ⟨t7, ht7, hf⟩ := z_bind hf
        have Jt7 : ∀ (H : Heap) (locs : List Loc) (ls : Array Slot), zC G c3 A s (zwM c3.1 c3.2.2 oM (Ms, Mas, Mpa, Mkn, Mke, Mik, Mpp, Mle, Mso, Mfz, Msp, Mfo, Mrd, Mrs, Mlt, Mfi, Mse)) H locs → lv_has ls 4 [(0, .ref oM.1), (1, .int y1), (2, .int y2), (3, .int y3)] → W p l e ⟨2, 0, 0, 43⟩ s m args below meth c H locs 0 0 (MQ below (zPost G (zwM c3.1 c3.2.2 oM (Ms, Mas, Mpa, Mkn, Mke, Mik, Mpp, Mle, Mso, Mfz, Msp, Mfo, Mrd, Mrs, Mlt, Mfi, Mse)) (some (.int r)) A) args s 0 0 A) (F0 m 51 ls [.int t7, .int y2]) := by
          intro H locs ls hC hl
          refine lv_iadd hx hb dX6_rankOf_51 ?_
          refine lv_istore_n (lv' := [(2, .int (y2 + t7)), (0, .ref oM.1), (1, .int y1), (3, .int y3)]) hx hb dX6_rankOf_52 rfl hl (by decide) rfl (fun ls hl => ?_)
          refine lv_iinc (v := (y3 + 1)) (lv' := [(3, .int (y3 + 1)), (2, .int (y2 + t7)), (0, .ref oM.1), (1, .int y1)]) hx hb dX6_rankOf_53 hl (k := 3) rfl rfl (by decide) rfl (fun ls hl => ?_)
          refine lv_goto (tgt := 4) hx hb dX6_rankOf_56 (by decide) ?_
          exact ih4 y1 (y2 + t7) (y3 + 1) Ms Mas Mpa Mkn Mke Mik Mpp Mle Mso Mfz Msp Mfo Mrd Mrs Mlt Mfi Mse _ hf H locs ls hC (lv_sub hl [2, 3, 1, 0] rfl) hK
        refine lv_icmp_gt (tgt := 46) hx hb dX6_rankOf_25 (by decide) (fun cd6 => ?_) (fun cd6 => ?_)
        · replace ht7 := z_pos cd6 ht7
          refine lv_iconst (v := 1) hx hb dX6_rankOf_46 (by decide) ?_
          refine lv_goto (tgt := 51) hx hb dX6_rankOf_47 (by decide) ?_
          have e1 := z_s1 ht7
          subst e1
          exact Jt7 H locs ls hC (lv_sub hl [0, 1, 2, 3] rfl)
        · replace ht7 := z_neg cd6 ht7
          refine lv_aload_n hx hb dX6_rankOf_28 rfl (lv_at hl 0 rfl) ?_
          refine lv_iload_n hx hb dX6_rankOf_29 rfl (lv_at hl 3 rfl) ?_
          obtain ⟨r8, hr8, ht7⟩ := z_bind ht7
          refine z_callPi (z_runV (n := 1) (rest := [.int y2]) (As := [.int y3]) S0 hC (c_X6_soon l G c3 oM (Ms, Mas, Mpa, Mkn, Mke, Mik, Mpp, Mle, Mso, Mfz, Msp, Mfo, Mrd, Mrs, Mlt, Mfi, Mse) y3 hr8) [0, 1, 2, 3, 4, 5, 6, 7] (by decide) rfl gX6_rankOf_X6_soon rfl rfl rfl (by decide +kernel) ⟨Nat.le_of_ble_eq_true rfl, Nat.le_of_ble_eq_true rfl⟩ (ci := 6) (q0 := 0) rfl rfl rfl hl.1 rfl (Nat.le_of_ble_eq_true rfl) dX6_rankOf_30) hC [0, 1, 2, 3, 4, 5, 6, 7] rfl (fun H locs hC => ?_)
          refine lv_aload_n hx hb dX6_rankOf_33 rfl (lv_at hl 0 rfl) ?_
          refine lv_iload_n hx hb dX6_rankOf_34 rfl (lv_at hl 1 rfl) ?_
          obtain ⟨r9, hr9, ht7⟩ := z_bind ht7
          refine z_callPi (z_runV (n := 1) (rest := [.int r8, .int y2]) (As := [.int y1]) S0 hC (c_X6_soon l G c3 oM (Ms, Mas, Mpa, Mkn, Mke, Mik, Mpp, Mle, Mso, Mfz, Msp, Mfo, Mrd, Mrs, Mlt, Mfi, Mse) y1 hr9) [0, 1, 2, 3, 4, 5, 6, 7] (by decide) rfl gX6_rankOf_X6_soon rfl rfl rfl (by decide +kernel) ⟨Nat.le_of_ble_eq_true rfl, Nat.le_of_ble_eq_true rfl⟩ (ci := 6) (q0 := 0) rfl rfl rfl hl.1 rfl (Nat.le_of_ble_eq_true rfl) dX6_rankOf_35) hC [0, 1, 2, 3, 4, 5, 6, 7] rfl (fun H locs hC => ?_)
          refine lv_icmp_ne (tgt := 50) hx hb dX6_rankOf_38 (by decide) (fun cd10 => ?_) (fun cd10 => ?_)
          · replace ht7 := z_neg cd10 ht7
            refine lv_iconst (v := 0) hx hb dX6_rankOf_50 (by decide) ?_
            have e1 := z_s1 ht7
            subst e1
            exact Jt7 H locs ls hC (lv_sub hl [0, 1, 2, 3] rfl)
          · replace ht7 := z_pos cd10 ht7
            refine lv_iload_n hx hb dX6_rankOf_41 rfl (lv_at hl 3 rfl) ?_
            refine lv_iload_n hx hb dX6_rankOf_42 rfl (lv_at hl 1 rfl) ?_
            refine lv_icmp_ge (tgt := 50) hx hb dX6_rankOf_43 (by decide) (fun cd11 => ?_) (fun cd11 => ?_)
            · replace ht7 := z_pos cd11 ht7
              refine lv_iconst (v := 0) hx hb dX6_rankOf_50 (by decide) ?_
              have e1 := z_s1 ht7
              subst e1
              exact Jt7 H locs ls hC (lv_sub hl [0, 1, 2, 3] rfl)
            · replace ht7 := z_neg cd11 ht7
              refine lv_iconst (v := 1) hx hb dX6_rankOf_46 (by decide) ?_
              refine lv_goto (tgt := 51) hx hb dX6_rankOf_47 (by decide) ?_
              have e1 := z_s1 ht7
              subst e1
              exact Jt7 H locs ls hC (lv_sub hl [0, 1, 2, 3] rfl)
  obtain ⟨t12, ht12, hf⟩ := z_bind hf
  refine L4 zF p1 0 0 Ms Mas Mpa Mkn Mke Mik Mpp Mle Mso Mfz Msp Mfo Mrd Mrs Mlt Mfi Mse t12 ht12 H locs ls hC (lv_sub hl [2, 3, 1, 0] rfl) (fun H locs ls hC hl => ?_)
  refine lv_iload_n hx hb dX6_rankOf_59 rfl (lv_at hl 2 rfl) ?_
  have e1 := z_s1 hf
  subst e1
  exact z_iret S0 hr hlk hC dX6_rankOf_60

-- X6 voice
def f_X6_voice (Ms : (Nat → Int32)) (p1 : Int32) (p2 : Int32) : Option (Int32) :=
  (zald 150 Ms 1).bind fun x1 => (f_X6_in p1 0 (x1 - 1)).bind fun r2 => if r2 = 0 then
    some ((-1))
  else
    (f_X6_in p2 0 6).bind fun r4 => if r4 = 0 then
      some ((-1))
    else
      if 6 ≤ p2 then
        (f_X6_rankOf Ms p1).bind fun r7 => some (r7)
      else
        (f_X6_of Ms p1 p2).bind fun r8 => some (r8)

theorem kX6_voice_7 : Cond.fieldLink RX6 7 "ZoneSamplerModel" "s" "[I" ∈ wsX6_voice := by decide +kernel
theorem jX6_voice_X6 : ∀ w ∈ u_ws RX6 TX6 17, w ∈ wsX6_voice := by decide +kernel
set_option maxHeartbeats 4000000 in
set_option maxRecDepth 100000 in
theorem c_X6_voice (l : Launch) (G : va_G) (c3 : zT3) (oM : zR8) (BM : zMd) (p1 : Int32) (p2 : Int32) {r : Int32} (hf : f_X6_voice BM.1 p1 p2 = some (r)) : zM l yX6_voice wsX6_voice ⟨3, 0, 0, 66⟩ G c3 (zwM c3.1 c3.2.2 oM (BM.1, BM.2.1, BM.2.2.1, BM.2.2.2.1, BM.2.2.2.2.1, BM.2.2.2.2.2.1, BM.2.2.2.2.2.2.1, BM.2.2.2.2.2.2.2.1, BM.2.2.2.2.2.2.2.2.1, BM.2.2.2.2.2.2.2.2.2.1, BM.2.2.2.2.2.2.2.2.2.2.1, BM.2.2.2.2.2.2.2.2.2.2.2.1, BM.2.2.2.2.2.2.2.2.2.2.2.2.1, BM.2.2.2.2.2.2.2.2.2.2.2.2.2.1, BM.2.2.2.2.2.2.2.2.2.2.2.2.2.2.1, BM.2.2.2.2.2.2.2.2.2.2.2.2.2.2.2.1, BM.2.2.2.2.2.2.2.2.2.2.2.2.2.2.2.2)) [.ref oM.1, .int p1, .int p2] (some (.int r)) (zwM c3.1 c3.2.2 oM (BM.1, BM.2.1, BM.2.2.1, BM.2.2.2.1, BM.2.2.2.2.1, BM.2.2.2.2.2.1, BM.2.2.2.2.2.2.1, BM.2.2.2.2.2.2.2.1, BM.2.2.2.2.2.2.2.2.1, BM.2.2.2.2.2.2.2.2.2.1, BM.2.2.2.2.2.2.2.2.2.2.1, BM.2.2.2.2.2.2.2.2.2.2.2.1, BM.2.2.2.2.2.2.2.2.2.2.2.2.1, BM.2.2.2.2.2.2.2.2.2.2.2.2.2.1, BM.2.2.2.2.2.2.2.2.2.2.2.2.2.2.1, BM.2.2.2.2.2.2.2.2.2.2.2.2.2.2.2.1, BM.2.2.2.2.2.2.2.2.2.2.2.2.2.2.2.2)) := by
  obtain ⟨Ms, Mas, Mpa, Mkn, Mke, Mik, Mpp, Mle, Mso, Mfz, Msp, Mfo, Mrd, Mrs, Mlt, Mfi, Mse⟩ := BM
  have hf : f_X6_voice Ms p1 p2 = some (r) := hf
  show zM l yX6_voice wsX6_voice ⟨3, 0, 0, 66⟩ G c3 (zwM c3.1 c3.2.2 oM (Ms, Mas, Mpa, Mkn, Mke, Mik, Mpp, Mle, Mso, Mfz, Msp, Mfo, Mrd, Mrs, Mlt, Mfi, Mse)) [.ref oM.1, .int p1, .int p2] (some (.int r)) (zwM c3.1 c3.2.2 oM (Ms, Mas, Mpa, Mkn, Mke, Mik, Mpp, Mle, Mso, Mfz, Msp, Mfo, Mrd, Mrs, Mlt, Mfi, Mse))
  refine zM.of (cc := cX6_voice) (maxL := 3) (ret := (some .int)) (by decide) rfl (Nat.le_of_ble_eq_true rfl) ?_
  intro p e s m args below meth c A ls S0 hr hlk hC hl
  have S0 : CallFix p m c cX6_voice 3 s args wsX6_voice RX6 := S0
  have hl : lv_has ls 3 [(0, .ref oM.1), (1, .int p1), (2, .int p2)] := hl
  have hx := S0.1
  have hb := S0.2.1
  obtain ⟨H, hH⟩ : ∃ y, y = s.heap := ⟨_, rfl⟩
  rw [← hH] at hC ⊢
  obtain ⟨locs, hlo⟩ : ∃ y : List Loc, y = [] := ⟨_, rfl⟩
  rw [← hlo] at hC ⊢
  clear hH hlo
  unfold f_X6_voice at hf
  refine lv_iload_n hx hb dX6_voice_0 rfl (lv_at hl 1 rfl) ?_
  refine lv_iconst (v := 0) hx hb dX6_voice_1 (by decide) ?_
  refine lv_aload_n hx hb dX6_voice_2 rfl (lv_at hl 0 rfl) ?_
  refine z_get S0 hC (ci := 6) (C := RX6) (T := TX6) (N := 17) (v := .ref oM.2.1) jX6_voice_X6 0 rfl rfl 0 (by decide) kX6_voice_7 rfl rfl dX6_voice_3 ?_
  refine lv_iconst (v := 1) hx hb dX6_voice_6 (by decide) ?_
  obtain ⟨x1, hx1, hf⟩ := z_bind hf
  refine z_iald S0 hC 1 rfl hx1 dX6_voice_7 ?_
  refine lv_iconst (v := 1) hx hb dX6_voice_8 (by decide) ?_
  refine lv_isub hx hb dX6_voice_9 ?_
  obtain ⟨r2, hr2, hf⟩ := z_bind hf
  refine z_callPi (z_runS (n := 3) (rest := []) (As := [.int p1, .int 0, .int (x1 - 1)]) S0 hC (c_X6_in l G c3 p1 0 (x1 - 1) hr2) [] (by decide) rfl gX6_voice_X6_in rfl rfl rfl (by decide +kernel) ⟨Nat.le_of_ble_eq_true rfl, Nat.le_of_ble_eq_true rfl⟩ rfl hl.1 rfl (Nat.le_of_ble_eq_true rfl) dX6_voice_10) hC [] rfl (fun H locs hC => ?_)
  refine lv_if_eq (tgt := 26) hx hb dX6_voice_13 (by decide) (fun cd3 => ?_) (fun cd3 => ?_)
  · replace hf := z_pos cd3 hf
    refine lv_iconst (v := (-1)) hx hb dX6_voice_26 (by decide) ?_
    have e1 := z_s1 hf
    subst e1
    exact z_iret S0 hr hlk hC dX6_voice_27
  · replace hf := z_neg cd3 hf
    refine lv_iload_n hx hb dX6_voice_16 rfl (lv_at hl 2 rfl) ?_
    refine lv_iconst (v := 0) hx hb dX6_voice_17 (by decide) ?_
    refine lv_bipush (v := 6) hx hb dX6_voice_18 (by decide) ?_
    obtain ⟨r4, hr4, hf⟩ := z_bind hf
    refine z_callPi (z_runS (n := 3) (rest := []) (As := [.int p2, .int 0, .int 6]) S0 hC (c_X6_in l G c3 p2 0 6 hr4) [] (by decide) rfl gX6_voice_X6_in rfl rfl rfl (by decide +kernel) ⟨Nat.le_of_ble_eq_true rfl, Nat.le_of_ble_eq_true rfl⟩ rfl hl.1 rfl (Nat.le_of_ble_eq_true rfl) dX6_voice_20) hC [] rfl (fun H locs hC => ?_)
    refine lv_if_ne (tgt := 28) hx hb dX6_voice_23 (by decide) (fun cd5 => ?_) (fun cd5 => ?_)
    · replace hf := z_neg cd5 hf
      refine lv_iload_n hx hb dX6_voice_28 rfl (lv_at hl 2 rfl) ?_
      refine lv_bipush (v := 6) hx hb dX6_voice_29 (by decide) ?_
      refine lv_icmp_ge (tgt := 43) hx hb dX6_voice_31 (by decide) (fun cd6 => ?_) (fun cd6 => ?_)
      · replace hf := z_pos cd6 hf
        refine lv_aload_n hx hb dX6_voice_43 rfl (lv_at hl 0 rfl) ?_
        refine lv_iload_n hx hb dX6_voice_44 rfl (lv_at hl 1 rfl) ?_
        obtain ⟨r7, hr7, hf⟩ := z_bind hf
        refine z_callPi (z_runV (n := 1) (rest := []) (As := [.int p1]) S0 hC (c_X6_rankOf l G c3 oM (Ms, Mas, Mpa, Mkn, Mke, Mik, Mpp, Mle, Mso, Mfz, Msp, Mfo, Mrd, Mrs, Mlt, Mfi, Mse) p1 hr7) [0, 1, 2, 3, 4, 5, 6, 7] (by decide) rfl gX6_voice_X6_rankOf rfl rfl rfl (by decide +kernel) ⟨Nat.le_of_ble_eq_true rfl, Nat.le_of_ble_eq_true rfl⟩ (ci := 6) (q0 := 0) rfl rfl rfl hl.1 rfl (Nat.le_of_ble_eq_true rfl) dX6_voice_45) hC [0, 1, 2, 3, 4, 5, 6, 7] rfl (fun H locs hC => ?_)
        have e1 := z_s1 hf
        subst e1
        exact z_iret S0 hr hlk hC dX6_voice_48
      · replace hf := z_neg cd6 hf
        refine lv_aload_n hx hb dX6_voice_34 rfl (lv_at hl 0 rfl) ?_
        refine lv_iload_n hx hb dX6_voice_35 rfl (lv_at hl 1 rfl) ?_
        refine lv_iload_n hx hb dX6_voice_36 rfl (lv_at hl 2 rfl) ?_
        obtain ⟨r8, hr8, hf⟩ := z_bind hf
        refine z_callPi (z_runV (n := 2) (rest := []) (As := [.int p1, .int p2]) S0 hC (c_X6_of l G c3 oM (Ms, Mas, Mpa, Mkn, Mke, Mik, Mpp, Mle, Mso, Mfz, Msp, Mfo, Mrd, Mrs, Mlt, Mfi, Mse) p1 p2 hr8) [0, 1, 2, 3, 4, 5, 6, 7] (by decide) rfl gX6_voice_X6_of rfl rfl rfl (by decide +kernel) ⟨Nat.le_of_ble_eq_true rfl, Nat.le_of_ble_eq_true rfl⟩ (ci := 6) (q0 := 0) rfl rfl rfl hl.1 rfl (Nat.le_of_ble_eq_true rfl) dX6_voice_37) hC [0, 1, 2, 3, 4, 5, 6, 7] rfl (fun H locs hC => ?_)
        refine lv_goto (tgt := 48) hx hb dX6_voice_40 (by decide) ?_
        have e1 := z_s1 hf
        subst e1
        exact z_iret S0 hr hlk hC dX6_voice_48
    · replace hf := z_pos cd5 hf
      refine lv_iconst (v := (-1)) hx hb dX6_voice_26 (by decide) ?_
      have e1 := z_s1 hf
      subst e1
      exact z_iret S0 hr hlk hC dX6_voice_27

-- X6 answers
def f_X6_answers (Ms : (Nat → Int32)) (p1 : Int32) (p2 : Int32) : Option (Int32) :=
  (f_X6_isNote p1 p2).bind fun r1 => if r1 = 0 then
    some ((-1))
  else
    (f_X6_answering Ms p1 p2).bind fun r3 => some (r3)

set_option maxHeartbeats 4000000 in
set_option maxRecDepth 100000 in
theorem c_X6_answers (l : Launch) (G : va_G) (c3 : zT3) (oM : zR8) (BM : zMd) (p1 : Int32) (p2 : Int32) {r : Int32} (hf : f_X6_answers BM.1 p1 p2 = some (r)) : zM l yX6_answers wsX6_answers ⟨3, 0, 0, 69⟩ G c3 (zwM c3.1 c3.2.2 oM (BM.1, BM.2.1, BM.2.2.1, BM.2.2.2.1, BM.2.2.2.2.1, BM.2.2.2.2.2.1, BM.2.2.2.2.2.2.1, BM.2.2.2.2.2.2.2.1, BM.2.2.2.2.2.2.2.2.1, BM.2.2.2.2.2.2.2.2.2.1, BM.2.2.2.2.2.2.2.2.2.2.1, BM.2.2.2.2.2.2.2.2.2.2.2.1, BM.2.2.2.2.2.2.2.2.2.2.2.2.1, BM.2.2.2.2.2.2.2.2.2.2.2.2.2.1, BM.2.2.2.2.2.2.2.2.2.2.2.2.2.2.1, BM.2.2.2.2.2.2.2.2.2.2.2.2.2.2.2.1, BM.2.2.2.2.2.2.2.2.2.2.2.2.2.2.2.2)) [.ref oM.1, .int p1, .int p2] (some (.int r)) (zwM c3.1 c3.2.2 oM (BM.1, BM.2.1, BM.2.2.1, BM.2.2.2.1, BM.2.2.2.2.1, BM.2.2.2.2.2.1, BM.2.2.2.2.2.2.1, BM.2.2.2.2.2.2.2.1, BM.2.2.2.2.2.2.2.2.1, BM.2.2.2.2.2.2.2.2.2.1, BM.2.2.2.2.2.2.2.2.2.2.1, BM.2.2.2.2.2.2.2.2.2.2.2.1, BM.2.2.2.2.2.2.2.2.2.2.2.2.1, BM.2.2.2.2.2.2.2.2.2.2.2.2.2.1, BM.2.2.2.2.2.2.2.2.2.2.2.2.2.2.1, BM.2.2.2.2.2.2.2.2.2.2.2.2.2.2.2.1, BM.2.2.2.2.2.2.2.2.2.2.2.2.2.2.2.2)) := by
  obtain ⟨Ms, Mas, Mpa, Mkn, Mke, Mik, Mpp, Mle, Mso, Mfz, Msp, Mfo, Mrd, Mrs, Mlt, Mfi, Mse⟩ := BM
  have hf : f_X6_answers Ms p1 p2 = some (r) := hf
  show zM l yX6_answers wsX6_answers ⟨3, 0, 0, 69⟩ G c3 (zwM c3.1 c3.2.2 oM (Ms, Mas, Mpa, Mkn, Mke, Mik, Mpp, Mle, Mso, Mfz, Msp, Mfo, Mrd, Mrs, Mlt, Mfi, Mse)) [.ref oM.1, .int p1, .int p2] (some (.int r)) (zwM c3.1 c3.2.2 oM (Ms, Mas, Mpa, Mkn, Mke, Mik, Mpp, Mle, Mso, Mfz, Msp, Mfo, Mrd, Mrs, Mlt, Mfi, Mse))
  refine zM.of (cc := cX6_answers) (maxL := 3) (ret := (some .int)) (by decide) rfl (Nat.le_of_ble_eq_true rfl) ?_
  intro p e s m args below meth c A ls S0 hr hlk hC hl
  have S0 : CallFix p m c cX6_answers 3 s args wsX6_answers RX6 := S0
  have hl : lv_has ls 3 [(0, .ref oM.1), (1, .int p1), (2, .int p2)] := hl
  have hx := S0.1
  have hb := S0.2.1
  obtain ⟨H, hH⟩ : ∃ y, y = s.heap := ⟨_, rfl⟩
  rw [← hH] at hC ⊢
  obtain ⟨locs, hlo⟩ : ∃ y : List Loc, y = [] := ⟨_, rfl⟩
  rw [← hlo] at hC ⊢
  clear hH hlo
  unfold f_X6_answers at hf
  refine lv_iload_n hx hb dX6_answers_0 rfl (lv_at hl 1 rfl) ?_
  refine lv_iload_n hx hb dX6_answers_1 rfl (lv_at hl 2 rfl) ?_
  obtain ⟨r1, hr1, hf⟩ := z_bind hf
  refine z_callPi (z_runS (n := 2) (rest := []) (As := [.int p1, .int p2]) S0 hC (c_X6_isNote l G c3 p1 p2 hr1) [] (by decide) rfl gX6_answers_X6_isNote rfl rfl rfl (by decide +kernel) ⟨Nat.le_of_ble_eq_true rfl, Nat.le_of_ble_eq_true rfl⟩ rfl hl.1 rfl (Nat.le_of_ble_eq_true rfl) dX6_answers_2) hC [] rfl (fun H locs hC => ?_)
  refine lv_if_eq (tgt := 17) hx hb dX6_answers_5 (by decide) (fun cd2 => ?_) (fun cd2 => ?_)
  · replace hf := z_pos cd2 hf
    refine lv_iconst (v := (-1)) hx hb dX6_answers_17 (by decide) ?_
    have e1 := z_s1 hf
    subst e1
    exact z_iret S0 hr hlk hC dX6_answers_18
  · replace hf := z_neg cd2 hf
    refine lv_aload_n hx hb dX6_answers_8 rfl (lv_at hl 0 rfl) ?_
    refine lv_iload_n hx hb dX6_answers_9 rfl (lv_at hl 1 rfl) ?_
    refine lv_iload_n hx hb dX6_answers_10 rfl (lv_at hl 2 rfl) ?_
    obtain ⟨r3, hr3, hf⟩ := z_bind hf
    refine z_callPi (z_runV (n := 2) (rest := []) (As := [.int p1, .int p2]) S0 hC (c_X6_answering l G c3 oM (Ms, Mas, Mpa, Mkn, Mke, Mik, Mpp, Mle, Mso, Mfz, Msp, Mfo, Mrd, Mrs, Mlt, Mfi, Mse) p1 p2 hr3) [0, 1, 2, 3, 4, 5, 6, 7] (by decide) rfl gX6_answers_X6_answering rfl rfl rfl (by decide +kernel) ⟨Nat.le_of_ble_eq_true rfl, Nat.le_of_ble_eq_true rfl⟩ (ci := 6) (q0 := 0) rfl rfl rfl hl.1 rfl (Nat.le_of_ble_eq_true rfl) dX6_answers_11) hC [0, 1, 2, 3, 4, 5, 6, 7] rfl (fun H locs hC => ?_)
    refine lv_goto (tgt := 18) hx hb dX6_answers_14 (by decide) ?_
    have e1 := z_s1 hf
    subst e1
    exact z_iret S0 hr hlk hC dX6_answers_18

-- X6 map
def f_X6_map_45 (y7 : Int32) (Ms : (Nat → Int32)) : Nat → Int32 → Int32 → Int32 → Int32 → Int32 → Option (Int32 × Int32 × Int32 × Int32 × Int32)
  | 0, _, _, _, _, _ => none
  | fu + 1, y3, y4, y5, y6, y8 =>
    if 9 < y8 then
      some (y3, y4, y5, y6, y8)
    else
      (f_X6_answering Ms y7 y8).bind fun r9 => Option.bind (α := Int32) (
        if r9 = 0 then
          some (1)
        else
          some (0)
      ) fun t11 =>
        Option.bind (α := Int32) (
          if r9 ≤ 1 then
            some (0)
          else
            some (1)
        ) fun t13 =>
          Option.bind (α := Int32) (
            if r9 ≤ y5 then
              some (y5)
            else
              some (r9)
          ) fun t15 =>
            Option.bind (α := Int32) (
              if r9 = 0 then
                if y6 = (-4) then
                  some (y7)
                else
                  some (y6)
              else
                some (y6)
            ) fun t17 =>
              f_X6_map_45 y7 Ms fu (y3 + t11) (y4 + t13) t15 t17 (y8 + 1)

theorem f_X6_map_45_s (y7 : Int32) (Ms : (Nat → Int32)) (y3 : Int32) (y4 : Int32) (y5 : Int32) (y6 : Int32) (y8 : Int32) (fu : Nat) : f_X6_map_45 y7 Ms (fu + 1) y3 y4 y5 y6 y8 = (
    if 9 < y8 then
      some (y3, y4, y5, y6, y8)
    else
      (f_X6_answering Ms y7 y8).bind fun r9 => Option.bind (α := Int32) (
        if r9 = 0 then
          some (1)
        else
          some (0)
      ) fun t11 =>
        Option.bind (α := Int32) (
          if r9 ≤ 1 then
            some (0)
          else
            some (1)
        ) fun t13 =>
          Option.bind (α := Int32) (
            if r9 ≤ y5 then
              some (y5)
            else
              some (r9)
          ) fun t15 =>
            Option.bind (α := Int32) (
              if r9 = 0 then
                if y6 = (-4) then
                  some (y7)
                else
                  some (y6)
              else
                some (y6)
            ) fun t17 =>
              f_X6_map_45 y7 Ms fu (y3 + t11) (y4 + t13) t15 t17 (y8 + 1)
    ) := rfl

def f_X6_map_35 (y1 : Int32) (Ms : (Nat → Int32)) : Nat → Int32 → Int32 → Int32 → Int32 → Int32 → Option (Int32 × Int32 × Int32 × Int32 × Int32)
  | 0, _, _, _, _, _ => none
  | fu + 1, y3, y4, y5, y6, y7 =>
    if 36 ≤ y7 then
      some (y3, y4, y5, y6, y7)
    else
      (f_X6_map_45 y7 Ms zF y3 y4 y5 y6 1).bind fun t19 =>
        f_X6_map_35 y1 Ms fu t19.1 t19.2.1 t19.2.2.1 t19.2.2.2.1 (y7 + 1)

theorem f_X6_map_35_s (y1 : Int32) (Ms : (Nat → Int32)) (y3 : Int32) (y4 : Int32) (y5 : Int32) (y6 : Int32) (y7 : Int32) (fu : Nat) : f_X6_map_35 y1 Ms (fu + 1) y3 y4 y5 y6 y7 = (
    if 36 ≤ y7 then
      some (y3, y4, y5, y6, y7)
    else
      (f_X6_map_45 y7 Ms zF y3 y4 y5 y6 1).bind fun t19 =>
        f_X6_map_35 y1 Ms fu t19.1 t19.2.1 t19.2.2.1 t19.2.2.2.1 (y7 + 1)
    ) := rfl

def f_X6_map (Ms : (Nat → Int32)) (p1 : Int32) (p2 : Int32) : Option (Int32) :=
  (f_X6_in p1 0 3).bind fun r1 => if r1 = 0 then
    some ((-1))
  else
    (f_X6_in p2 0 1).bind fun r3 => if r3 = 0 then
      some ((-1))
    else
      (f_X6_map_35 p1 Ms zF 0 0 0 (-4) 0).bind fun t20 =>
        if p1 = 0 then
          some (t20.1)
        else
          if p1 = 1 then
            some (t20.2.1)
          else
            if p1 = 2 then
              some (t20.2.2.1)
            else
              some (t20.2.2.2.1)

set_option maxHeartbeats 4000000 in
set_option maxRecDepth 100000 in
theorem c_X6_map (l : Launch) (G : va_G) (c3 : zT3) (oM : zR8) (BM : zMd) (p1 : Int32) (p2 : Int32) {r : Int32} (hf : f_X6_map BM.1 p1 p2 = some (r)) : zM l yX6_map wsX6_map ⟨3, 0, 0, 69⟩ G c3 (zwM c3.1 c3.2.2 oM (BM.1, BM.2.1, BM.2.2.1, BM.2.2.2.1, BM.2.2.2.2.1, BM.2.2.2.2.2.1, BM.2.2.2.2.2.2.1, BM.2.2.2.2.2.2.2.1, BM.2.2.2.2.2.2.2.2.1, BM.2.2.2.2.2.2.2.2.2.1, BM.2.2.2.2.2.2.2.2.2.2.1, BM.2.2.2.2.2.2.2.2.2.2.2.1, BM.2.2.2.2.2.2.2.2.2.2.2.2.1, BM.2.2.2.2.2.2.2.2.2.2.2.2.2.1, BM.2.2.2.2.2.2.2.2.2.2.2.2.2.2.1, BM.2.2.2.2.2.2.2.2.2.2.2.2.2.2.2.1, BM.2.2.2.2.2.2.2.2.2.2.2.2.2.2.2.2)) [.ref oM.1, .int p1, .int p2] (some (.int r)) (zwM c3.1 c3.2.2 oM (BM.1, BM.2.1, BM.2.2.1, BM.2.2.2.1, BM.2.2.2.2.1, BM.2.2.2.2.2.1, BM.2.2.2.2.2.2.1, BM.2.2.2.2.2.2.2.1, BM.2.2.2.2.2.2.2.2.1, BM.2.2.2.2.2.2.2.2.2.1, BM.2.2.2.2.2.2.2.2.2.2.1, BM.2.2.2.2.2.2.2.2.2.2.2.1, BM.2.2.2.2.2.2.2.2.2.2.2.2.1, BM.2.2.2.2.2.2.2.2.2.2.2.2.2.1, BM.2.2.2.2.2.2.2.2.2.2.2.2.2.2.1, BM.2.2.2.2.2.2.2.2.2.2.2.2.2.2.2.1, BM.2.2.2.2.2.2.2.2.2.2.2.2.2.2.2.2)) := by
  obtain ⟨Ms, Mas, Mpa, Mkn, Mke, Mik, Mpp, Mle, Mso, Mfz, Msp, Mfo, Mrd, Mrs, Mlt, Mfi, Mse⟩ := BM
  have hf : f_X6_map Ms p1 p2 = some (r) := hf
  show zM l yX6_map wsX6_map ⟨3, 0, 0, 69⟩ G c3 (zwM c3.1 c3.2.2 oM (Ms, Mas, Mpa, Mkn, Mke, Mik, Mpp, Mle, Mso, Mfz, Msp, Mfo, Mrd, Mrs, Mlt, Mfi, Mse)) [.ref oM.1, .int p1, .int p2] (some (.int r)) (zwM c3.1 c3.2.2 oM (Ms, Mas, Mpa, Mkn, Mke, Mik, Mpp, Mle, Mso, Mfz, Msp, Mfo, Mrd, Mrs, Mlt, Mfi, Mse))
  refine zM.of (cc := cX6_map) (maxL := 10) (ret := (some .int)) (by decide) rfl (Nat.le_of_ble_eq_true rfl) ?_
  intro p e s m args below meth c A ls S0 hr hlk hC hl
  have S0 : CallFix p m c cX6_map 10 s args wsX6_map RX6 := S0
  have hl : lv_has ls 10 [(0, .ref oM.1), (1, .int p1), (2, .int p2)] := hl
  have hx := S0.1
  have hb := S0.2.1
  obtain ⟨H, hH⟩ : ∃ y, y = s.heap := ⟨_, rfl⟩
  rw [← hH] at hC ⊢
  obtain ⟨locs, hlo⟩ : ∃ y : List Loc, y = [] := ⟨_, rfl⟩
  rw [← hlo] at hC ⊢
  clear hH hlo
  unfold f_X6_map at hf
  refine lv_iload_n hx hb dX6_map_0 rfl (lv_at hl 1 rfl) ?_
  refine lv_iconst (v := 0) hx hb dX6_map_1 (by decide) ?_
  refine lv_iconst (v := 3) hx hb dX6_map_2 (by decide) ?_
  obtain ⟨r1, hr1, hf⟩ := z_bind hf
  refine z_callPi (z_runS (n := 3) (rest := []) (As := [.int p1, .int 0, .int 3]) S0 hC (c_X6_in l G c3 p1 0 3 hr1) [] (by decide) rfl gX6_map_X6_in rfl rfl rfl (by decide +kernel) ⟨Nat.le_of_ble_eq_true rfl, Nat.le_of_ble_eq_true rfl⟩ rfl hl.1 rfl (Nat.le_of_ble_eq_true rfl) dX6_map_3) hC [] rfl (fun H locs hC => ?_)
  refine lv_if_eq (tgt := 18) hx hb dX6_map_6 (by decide) (fun cd2 => ?_) (fun cd2 => ?_)
  · replace hf := z_pos cd2 hf
    refine lv_iconst (v := (-1)) hx hb dX6_map_18 (by decide) ?_
    have e1 := z_s1 hf
    subst e1
    exact z_iret S0 hr hlk hC dX6_map_19
  · replace hf := z_neg cd2 hf
    refine lv_iload_n hx hb dX6_map_9 rfl (lv_at hl 2 rfl) ?_
    refine lv_iconst (v := 0) hx hb dX6_map_10 (by decide) ?_
    refine lv_iconst (v := 1) hx hb dX6_map_11 (by decide) ?_
    obtain ⟨r3, hr3, hf⟩ := z_bind hf
    refine z_callPi (z_runS (n := 3) (rest := []) (As := [.int p2, .int 0, .int 1]) S0 hC (c_X6_in l G c3 p2 0 1 hr3) [] (by decide) rfl gX6_map_X6_in rfl rfl rfl (by decide +kernel) ⟨Nat.le_of_ble_eq_true rfl, Nat.le_of_ble_eq_true rfl⟩ rfl hl.1 rfl (Nat.le_of_ble_eq_true rfl) dX6_map_12) hC [] rfl (fun H locs hC => ?_)
    refine lv_if_ne (tgt := 20) hx hb dX6_map_15 (by decide) (fun cd4 => ?_) (fun cd4 => ?_)
    · replace hf := z_neg cd4 hf
      refine lv_iconst (v := 0) hx hb dX6_map_20 (by decide) ?_
      refine lv_istore_n (lv' := [(3, .int 0), (0, .ref oM.1), (1, .int p1), (2, .int p2)]) hx hb dX6_map_21 rfl hl (by decide) rfl (fun ls hl => ?_)
      refine lv_iconst (v := 0) hx hb dX6_map_22 (by decide) ?_
      refine lv_istore (lv' := [(4, .int 0), (3, .int 0), (0, .ref oM.1), (1, .int p1), (2, .int p2)]) hx hb dX6_map_23 hl (by decide) rfl (fun ls hl => ?_)
      refine lv_iconst (v := 0) hx hb dX6_map_25 (by decide) ?_
      refine lv_istore (lv' := [(5, .int 0), (4, .int 0), (3, .int 0), (0, .ref oM.1), (1, .int p1), (2, .int p2)]) hx hb dX6_map_26 hl (by decide) rfl (fun ls hl => ?_)
      refine lv_bipush (v := (-4)) hx hb dX6_map_28 (by decide) ?_
      refine lv_istore (lv' := [(6, .int (-4)), (5, .int 0), (4, .int 0), (3, .int 0), (0, .ref oM.1), (1, .int p1), (2, .int p2)]) hx hb dX6_map_30 hl (by decide) rfl (fun ls hl => ?_)
      refine lv_iconst (v := 0) hx hb dX6_map_32 (by decide) ?_
      refine lv_istore (lv' := [(7, .int 0), (6, .int (-4)), (5, .int 0), (4, .int 0), (3, .int 0), (0, .ref oM.1), (1, .int p1), (2, .int p2)]) hx hb dX6_map_33 hl (by decide) rfl (fun ls hl => ?_)
      have L35 : ∀ (fu : Nat) (y1 : Int32) (y2 : Int32) (y3 : Int32) (y4 : Int32) (y5 : Int32) (y6 : Int32) (y7 : Int32) (Ms : (Nat → Int32)) (Mas : (Nat → Int32)) (Mpa : (Nat → Int32)) (Mkn : Int32) (Mke : (Nat → Int32)) (Mik : Int32) (Mpp : (Nat → Int32)) (Mle : Int32) (Mso : (Nat → Int32)) (Mfz : Int32) (Msp : Int32) (Mfo : Int32) (Mrd : (Nat → Int32)) (Mrs : Int32) (Mlt : Int32) (Mfi : Int32) (Mse : Int32) (tt : Int32 × Int32 × Int32 × Int32 × Int32), f_X6_map_35 y1 Ms fu y3 y4 y5 y6 y7 = some tt → ∀ (H : Heap) (locs : List Loc) (ls : Array Slot), zC G c3 A s (zwM c3.1 c3.2.2 oM (Ms, Mas, Mpa, Mkn, Mke, Mik, Mpp, Mle, Mso, Mfz, Msp, Mfo, Mrd, Mrs, Mlt, Mfi, Mse)) H locs → lv_has ls 10 [(0, .ref oM.1), (1, .int y1), (2, .int y2), (3, .int y3), (4, .int y4), (5, .int y5), (6, .int y6), (7, .int y7)] → (∀ (H : Heap) (locs : List Loc) (ls : Array Slot), zC G c3 A s (zwM c3.1 c3.2.2 oM (Ms, Mas, Mpa, Mkn, Mke, Mik, Mpp, Mle, Mso, Mfz, Msp, Mfo, Mrd, Mrs, Mlt, Mfi, Mse)) H locs → lv_has ls 10 [(0, .ref oM.1), (1, .int y1), (2, .int y2), (3, .int tt.1), (4, .int tt.2.1), (5, .int tt.2.2.1), (6, .int tt.2.2.2.1), (7, .int tt.2.2.2.2)] → W p l e ⟨3, 0, 0, 69⟩ s m args below meth c H locs 0 0 (MQ below (zPost G (zwM c3.1 c3.2.2 oM (Ms, Mas, Mpa, Mkn, Mke, Mik, Mpp, Mle, Mso, Mfz, Msp, Mfo, Mrd, Mrs, Mlt, Mfi, Mse)) (some (.int r)) A) args s 0 0 A) (F0 m 140 ls [])) → W p l e ⟨3, 0, 0, 69⟩ s m args below meth c H locs 0 0 (MQ below (zPost G (zwM c3.1 c3.2.2 oM (Ms, Mas, Mpa, Mkn, Mke, Mik, Mpp, Mle, Mso, Mfz, Msp, Mfo, Mrd, Mrs, Mlt, Mfi, Mse)) (some (.int r)) A) args s 0 0 A) (F0 m 35 ls []) := by
        intro fu
        induction fu with
        | zero =>
          intro y1 y2 y3 y4 y5 y6 y7 Ms Mas Mpa Mkn Mke Mik Mpp Mle Mso Mfz Msp Mfo Mrd Mrs Mlt Mfi Mse tt hf H locs ls hC hl hK
          exact (z_none hf).elim
        | succ fu ih35 =>
          intro y1 y2 y3 y4 y5 y6 y7 Ms Mas Mpa Mkn Mke Mik Mpp Mle Mso Mfz Msp Mfo Mrd Mrs Mlt Mfi Mse tt hf H locs ls hC hl hK
          replace hf := (f_X6_map_35_s y1 Ms y3 y4 y5 y6 y7 fu).symm.trans hf
          refine lv_iload hx hb dX6_map_35 (lv_at hl 7 rfl) ?_
          refine lv_bipush (v := 36) hx hb dX6_map_37 (by decide) ?_
          refine lv_icmp_ge (tgt := 140) hx hb dX6_map_39 (by decide) (fun cd6 => ?_) (fun cd6 => ?_)
          · replace hf := z_pos cd6 hf
            have e1 := z_s1 hf
            subst e1
            exact hK H locs ls hC (lv_sub hl [0, 1, 2, 3, 4, 5, 6, 7] rfl)
          · replace hf := z_neg cd6 hf
            refine lv_iconst (v := 1) hx hb dX6_map_42 (by decide) ?_
            refine lv_istore (lv' := [(8, .int 1), (0, .ref oM.1), (1, .int y1), (2, .int y2), (3, .int y3), (4, .int y4), (5, .int y5), (6, .int y6), (7, .int y7)]) hx hb dX6_map_43 hl (by decide) rfl (fun ls hl => ?_)
            have L45 : ∀ (fu : Nat) (y1 : Int32) (y2 : Int32) (y3 : Int32) (y4 : Int32) (y5 : Int32) (y6 : Int32) (y7 : Int32) (y8 : Int32) (Ms : (Nat → Int32)) (Mas : (Nat → Int32)) (Mpa : (Nat → Int32)) (Mkn : Int32) (Mke : (Nat → Int32)) (Mik : Int32) (Mpp : (Nat → Int32)) (Mle : Int32) (Mso : (Nat → Int32)) (Mfz : Int32) (Msp : Int32) (Mfo : Int32) (Mrd : (Nat → Int32)) (Mrs : Int32) (Mlt : Int32) (Mfi : Int32) (Mse : Int32) (tt : Int32 × Int32 × Int32 × Int32 × Int32), f_X6_map_45 y7 Ms fu y3 y4 y5 y6 y8 = some tt → ∀ (H : Heap) (locs : List Loc) (ls : Array Slot), zC G c3 A s (zwM c3.1 c3.2.2 oM (Ms, Mas, Mpa, Mkn, Mke, Mik, Mpp, Mle, Mso, Mfz, Msp, Mfo, Mrd, Mrs, Mlt, Mfi, Mse)) H locs → lv_has ls 10 [(0, .ref oM.1), (1, .int y1), (2, .int y2), (3, .int y3), (4, .int y4), (5, .int y5), (6, .int y6), (7, .int y7), (8, .int y8)] → (∀ (H : Heap) (locs : List Loc) (ls : Array Slot), zC G c3 A s (zwM c3.1 c3.2.2 oM (Ms, Mas, Mpa, Mkn, Mke, Mik, Mpp, Mle, Mso, Mfz, Msp, Mfo, Mrd, Mrs, Mlt, Mfi, Mse)) H locs → lv_has ls 10 [(0, .ref oM.1), (1, .int y1), (2, .int y2), (3, .int tt.1), (4, .int tt.2.1), (5, .int tt.2.2.1), (6, .int tt.2.2.2.1), (7, .int y7), (8, .int tt.2.2.2.2)] → W p l e ⟨3, 0, 0, 69⟩ s m args below meth c H locs 0 0 (MQ below (zPost G (zwM c3.1 c3.2.2 oM (Ms, Mas, Mpa, Mkn, Mke, Mik, Mpp, Mle, Mso, Mfz, Msp, Mfo, Mrd, Mrs, Mlt, Mfi, Mse)) (some (.int r)) A) args s 0 0 A) (F0 m 134 ls [])) → W p l e ⟨3, 0, 0, 69⟩ s m args below meth c H locs 0 0 (MQ below (zPost G (zwM c3.1 c3.2.2 oM (Ms, Mas, Mpa, Mkn, Mke, Mik, Mpp, Mle, Mso, Mfz, Msp, Mfo, Mrd, Mrs, Mlt, Mfi, Mse)) (some (.int r)) A) args s 0 0 A) (F0 m 45 ls []) := by
              intro fu
              induction fu with
              | zero =>
                intro y1 y2 y3 y4 y5 y6 y7 y8 Ms Mas Mpa Mkn Mke Mik Mpp Mle Mso Mfz Msp Mfo Mrd Mrs Mlt Mfi Mse tt hf H locs ls hC hl hK
                exact (z_none hf).elim
              | succ fu ih45 =>
                intro y1 y2 y3 y4 y5 y6 y7 y8 Ms Mas Mpa Mkn Mke Mik Mpp Mle Mso Mfz Msp Mfo Mrd Mrs Mlt Mfi Mse tt hf H locs ls hC hl hK
                replace hf := (f_X6_map_45_s y7 Ms y3 y4 y5 y6 y8 fu).symm.trans hf
                refine lv_iload hx hb dX6_map_45 (lv_at hl 8 rfl) ?_
                refine lv_bipush (v := 9) hx hb dX6_map_47 (by decide) ?_
                refine lv_icmp_gt (tgt := 134) hx hb dX6_map_49 (by decide) (fun cd8 => ?_) (fun cd8 => ?_)
                · replace hf := z_pos cd8 hf
                  have e1 := z_s1 hf
                  subst e1
                  exact hK H locs ls hC (lv_sub hl [0, 1, 2, 3, 4, 5, 6, 7, 8] rfl)
                · replace hf := z_neg cd8 hf
                  refine lv_aload_n hx hb dX6_map_52 rfl (lv_at hl 0 rfl) ?_
                  refine lv_iload hx hb dX6_map_53 (lv_at hl 7 rfl) ?_
                  refine lv_iload hx hb dX6_map_55 (lv_at hl 8 rfl) ?_
                  obtain ⟨r9, hr9, hf⟩ := z_bind hf
                  refine z_callPi (z_runV (n := 2) (rest := []) (As := [.int y7, .int y8]) S0 hC (c_X6_answering l G c3 oM (Ms, Mas, Mpa, Mkn, Mke, Mik, Mpp, Mle, Mso, Mfz, Msp, Mfo, Mrd, Mrs, Mlt, Mfi, Mse) y7 y8 hr9) [0, 1, 2, 3, 4, 5, 6, 7] (by decide) rfl gX6_map_X6_answering rfl rfl rfl (by decide +kernel) ⟨Nat.le_of_ble_eq_true rfl, Nat.le_of_ble_eq_true rfl⟩ (ci := 6) (q0 := 0) rfl rfl rfl hl.1 rfl (Nat.le_of_ble_eq_true rfl) dX6_map_57) hC [0, 1, 2, 3, 4, 5, 6, 7] rfl (fun H locs hC => ?_)
                  refine lv_istore (lv' := [(9, .int r9), (0, .ref oM.1), (1, .int y1), (2, .int y2), (3, .int y3), (4, .int y4), (5, .int y5), (6, .int y6), (7, .int y7), (8, .int y8)]) hx hb dX6_map_60 hl (by decide) rfl (fun ls hl => ?_)
                  refine lv_iload_n hx hb dX6_map_62 rfl (lv_at hl 4 rfl) ?_
                  refine lv_iload hx hb dX6_map_63 (lv_at hl 0 rfl) ?_
                  obtain ⟨t11, ht11, hf⟩ := z_bind hf
                  have Jt11 : ∀ (H : Heap) (locs : List Loc) (ls : Array Slot), zC G c3 A s (zwM c3.1 c3.2.2 oM (Ms, Mas, Mpa, Mkn, Mke, Mik, Mpp, Mle, Mso, Mfz, Msp, Mfo, Mrd, Mrs, Mlt, Mfi, Mse)) H locs → lv_has ls 10 [(0, .ref oM.1), (1, .int y1), (2, .int y2), (3, .int y3), (4, .int y4), (5, .int y5), (6, .int y6), (7, .int y7), (8, .int y8), (9, .int r9)] → W p l e ⟨3, 0, 0, 69⟩ s m args below meth c H locs 0 0 (MQ below (zPost G (zwM c3.1 c3.2.2 oM (Ms, Mas, Mpa, Mkn, Mke, Mik, Mpp, Mle, Mso, Mfz, Msp, Mfo, Mrd, Mrs, Mlt, Mfi, Mse)) (some (.int r)) A) args s 0 0 A) (F0 m 73 ls [.int t11, .int y3]) := by
                    intro H locs ls hC hl
                    refine lv_iadd hx hb dX6_map_73 ?_
                    refine lv_istore_n (lv' := [(3, .int (y3 + t11)), (0, .ref oM.1), (1, .int y1), (2, .int y2), (4, .int y4), (5, .int y5), (6, .int y6), (7, .int y7), (8, .int y8), (9, .int r9)]) hx hb dX6_map_74 rfl hl (by decide) rfl (fun ls hl => ?_)
                    refine lv_iload hx hb dX6_map_75 (lv_at hl 4 rfl) ?_
                    refine lv_iload hx hb dX6_map_77 (lv_at hl 9 rfl) ?_
                    refine lv_iconst (v := 1) hx hb dX6_map_79 (by decide) ?_
                    obtain ⟨t13, ht13, hf⟩ := z_bind hf
                    have Jt13 : ∀ (H : Heap) (locs : List Loc) (ls : Array Slot), zC G c3 A s (zwM c3.1 c3.2.2 oM (Ms, Mas, Mpa, Mkn, Mke, Mik, Mpp, Mle, Mso, Mfz, Msp, Mfo, Mrd, Mrs, Mlt, Mfi, Mse)) H locs → lv_has ls 10 [(0, .ref oM.1), (1, .int y1), (2, .int y2), (3, .int (y3 + t11)), (4, .int y4), (5, .int y5), (6, .int y6), (7, .int y7), (8, .int y8), (9, .int r9)] → W p l e ⟨3, 0, 0, 69⟩ s m args below meth c H locs 0 0 (MQ below (zPost G (zwM c3.1 c3.2.2 oM (Ms, Mas, Mpa, Mkn, Mke, Mik, Mpp, Mle, Mso, Mfz, Msp, Mfo, Mrd, Mrs, Mlt, Mfi, Mse)) (some (.int r)) A) args s 0 0 A) (F0 m 88 ls [.int t13, .int y4]) := by
                      intro H locs ls hC hl
                      refine lv_iadd hx hb dX6_map_88 ?_
                      refine lv_istore (lv' := [(4, .int (y4 + t13)), (0, .ref oM.1), (1, .int y1), (2, .int y2), (3, .int (y3 + t11)), (5, .int y5), (6, .int y6), (7, .int y7), (8, .int y8), (9, .int r9)]) hx hb dX6_map_89 hl (by decide) rfl (fun ls hl => ?_)
                      refine lv_iload hx hb dX6_map_91 (lv_at hl 9 rfl) ?_
                      refine lv_iload hx hb dX6_map_93 (lv_at hl 5 rfl) ?_
                      obtain ⟨t15, ht15, hf⟩ := z_bind hf
                      have Jt15 : ∀ (H : Heap) (locs : List Loc) (ls : Array Slot), zC G c3 A s (zwM c3.1 c3.2.2 oM (Ms, Mas, Mpa, Mkn, Mke, Mik, Mpp, Mle, Mso, Mfz, Msp, Mfo, Mrd, Mrs, Mlt, Mfi, Mse)) H locs → lv_has ls 10 [(0, .ref oM.1), (1, .int y1), (2, .int y2), (3, .int (y3 + t11)), (4, .int (y4 + t13)), (5, .int y5), (6, .int y6), (7, .int y7), (8, .int y8), (9, .int r9)] → W p l e ⟨3, 0, 0, 69⟩ s m args below meth c H locs 0 0 (MQ below (zPost G (zwM c3.1 c3.2.2 oM (Ms, Mas, Mpa, Mkn, Mke, Mik, Mpp, Mle, Mso, Mfz, Msp, Mfo, Mrd, Mrs, Mlt, Mfi, Mse)) (some (.int r)) A) args s 0 0 A) (F0 m 105 ls [.int t15]) := by
                        intro H locs ls hC hl
                        refine lv_istore (lv' := [(5, .int t15), (0, .ref oM.1), (1, .int y1), (2, .int y2), (3, .int (y3 + t11)), (4, .int (y4 + t13)), (6, .int y6), (7, .int y7), (8, .int y8), (9, .int r9)]) hx hb dX6_map_105 hl (by decide) rfl (fun ls hl => ?_)
                        refine lv_iload hx hb dX6_map_107 (lv_at hl 9 rfl) ?_
                        obtain ⟨t17, ht17, hf⟩ := z_bind hf
                        have Jt17 : ∀ (H : Heap) (locs : List Loc) (ls : Array Slot), zC G c3 A s (zwM c3.1 c3.2.2 oM (Ms, Mas, Mpa, Mkn, Mke, Mik, Mpp, Mle, Mso, Mfz, Msp, Mfo, Mrd, Mrs, Mlt, Mfi, Mse)) H locs → lv_has ls 10 [(0, .ref oM.1), (1, .int y1), (2, .int y2), (3, .int (y3 + t11)), (4, .int (y4 + t13)), (5, .int t15), (6, .int y6), (7, .int y7), (8, .int y8), (9, .int r9)] → W p l e ⟨3, 0, 0, 69⟩ s m args below meth c H locs 0 0 (MQ below (zPost G (zwM c3.1 c3.2.2 oM (Ms, Mas, Mpa, Mkn, Mke, Mik, Mpp, Mle, Mso, Mfz, Msp, Mfo, Mrd, Mrs, Mlt, Mfi, Mse)) (some (.int r)) A) args s 0 0 A) (F0 m 126 ls [.int t17]) := by
                          intro H locs ls hC hl
                          refine lv_istore (lv' := [(6, .int t17), (0, .ref oM.1), (1, .int y1), (2, .int y2), (3, .int (y3 + t11)), (4, .int (y4 + t13)), (5, .int t15), (7, .int y7), (8, .int y8), (9, .int r9)]) hx hb dX6_map_126 hl (by decide) rfl (fun ls hl => ?_)
                          refine lv_iinc (v := (y8 + 1)) (lv' := [(8, .int (y8 + 1)), (6, .int t17), (0, .ref oM.1), (1, .int y1), (2, .int y2), (3, .int (y3 + t11)), (4, .int (y4 + t13)), (5, .int t15), (7, .int y7), (9, .int r9)]) hx hb dX6_map_128 hl (k := 8) rfl rfl (by decide) rfl (fun ls hl => ?_)
                          refine lv_goto (tgt := 45) hx hb dX6_map_131 (by decide) ?_
                          exact ih45 y1 y2 (y3 + t11) (y4 + t13) t15 t17 y7 (y8 + 1) Ms Mas Mpa Mkn Mke Mik Mpp Mle Mso Mfz Msp Mfo Mrd Mrs Mlt Mfi Mse _ hf H locs ls hC (lv_sub hl [2, 3, 4, 5, 6, 7, 1, 8, 0] rfl) hK
                        refine lv_if_ne (tgt := 124) hx hb dX6_map_109 (by decide) (fun cd16 => ?_) (fun cd16 => ?_)
                        · replace ht17 := z_neg cd16 ht17
                          refine lv_iload hx hb dX6_map_124 (lv_at hl 6 rfl) ?_
                          have e1 := z_s1 ht17
                          subst e1
                          exact Jt17 H locs ls hC (lv_sub hl [1, 2, 3, 4, 5, 0, 6, 7, 8, 9] rfl)
                        · replace ht17 := z_pos cd16 ht17
                          refine lv_iload hx hb dX6_map_112 (lv_at hl 6 rfl) ?_
                          refine lv_bipush (v := (-4)) hx hb dX6_map_114 (by decide) ?_
                          refine lv_icmp_ne (tgt := 124) hx hb dX6_map_116 (by decide) (fun cd18 => ?_) (fun cd18 => ?_)
                          · replace ht17 := z_neg cd18 ht17
                            refine lv_iload hx hb dX6_map_124 (lv_at hl 6 rfl) ?_
                            have e1 := z_s1 ht17
                            subst e1
                            exact Jt17 H locs ls hC (lv_sub hl [1, 2, 3, 4, 5, 0, 6, 7, 8, 9] rfl)
                          · replace ht17 := z_pos cd18 ht17
                            refine lv_iload hx hb dX6_map_119 (lv_at hl 7 rfl) ?_
                            refine lv_goto (tgt := 126) hx hb dX6_map_121 (by decide) ?_
                            have e1 := z_s1 ht17
                            subst e1
                            exact Jt17 H locs ls hC (lv_sub hl [1, 2, 3, 4, 5, 0, 6, 7, 8, 9] rfl)
                      refine lv_icmp_le (tgt := 103) hx hb dX6_map_95 (by decide) (fun cd14 => ?_) (fun cd14 => ?_)
                      · replace ht15 := z_pos cd14 ht15
                        refine lv_iload hx hb dX6_map_103 (lv_at hl 5 rfl) ?_
                        have e1 := z_s1 ht15
                        subst e1
                        exact Jt15 H locs ls hC (lv_sub hl [1, 2, 3, 4, 0, 5, 6, 7, 8, 9] rfl)
                      · replace ht15 := z_neg cd14 ht15
                        refine lv_iload hx hb dX6_map_98 (lv_at hl 9 rfl) ?_
                        refine lv_goto (tgt := 105) hx hb dX6_map_100 (by decide) ?_
                        have e1 := z_s1 ht15
                        subst e1
                        exact Jt15 H locs ls hC (lv_sub hl [1, 2, 3, 4, 0, 5, 6, 7, 8, 9] rfl)
                    refine lv_icmp_le (tgt := 87) hx hb dX6_map_80 (by decide) (fun cd12 => ?_) (fun cd12 => ?_)
                    · replace ht13 := z_pos cd12 ht13
                      refine lv_iconst (v := 0) hx hb dX6_map_87 (by decide) ?_
                      have e1 := z_s1 ht13
                      subst e1
                      exact Jt13 H locs ls hC (lv_sub hl [1, 2, 3, 0, 4, 5, 6, 7, 8, 9] rfl)
                    · replace ht13 := z_neg cd12 ht13
                      refine lv_iconst (v := 1) hx hb dX6_map_83 (by decide) ?_
                      refine lv_goto (tgt := 88) hx hb dX6_map_84 (by decide) ?_
                      have e1 := z_s1 ht13
                      subst e1
                      exact Jt13 H locs ls hC (lv_sub hl [1, 2, 3, 0, 4, 5, 6, 7, 8, 9] rfl)
                  refine lv_if_ne (tgt := 72) hx hb dX6_map_65 (by decide) (fun cd10 => ?_) (fun cd10 => ?_)
                  · replace ht11 := z_neg cd10 ht11
                    refine lv_iconst (v := 0) hx hb dX6_map_72 (by decide) ?_
                    have e1 := z_s1 ht11
                    subst e1
                    exact Jt11 H locs ls hC (lv_sub hl [1, 2, 3, 4, 5, 6, 7, 8, 9, 0] rfl)
                  · replace ht11 := z_pos cd10 ht11
                    refine lv_iconst (v := 1) hx hb dX6_map_68 (by decide) ?_
                    refine lv_goto (tgt := 73) hx hb dX6_map_69 (by decide) ?_
                    have e1 := z_s1 ht11
                    subst e1
                    exact Jt11 H locs ls hC (lv_sub hl [1, 2, 3, 4, 5, 6, 7, 8, 9, 0] rfl)
            obtain ⟨t19, ht19, hf⟩ := z_bind hf
            refine L45 zF y1 y2 y3 y4 y5 y6 y7 1 Ms Mas Mpa Mkn Mke Mik Mpp Mle Mso Mfz Msp Mfo Mrd Mrs Mlt Mfi Mse t19 ht19 H locs ls hC (lv_sub hl [1, 2, 3, 4, 5, 6, 7, 8, 0] rfl) (fun H locs ls hC hl => ?_)
            refine lv_iinc (v := (y7 + 1)) (lv' := [(7, .int (y7 + 1)), (0, .ref oM.1), (1, .int y1), (2, .int y2), (3, .int t19.1), (4, .int t19.2.1), (5, .int t19.2.2.1), (6, .int t19.2.2.2.1), (8, .int t19.2.2.2.2)]) hx hb dX6_map_134 hl (k := 7) rfl rfl (by decide) rfl (fun ls hl => ?_)
            refine lv_goto (tgt := 35) hx hb dX6_map_137 (by decide) ?_
            exact ih35 y1 y2 t19.1 t19.2.1 t19.2.2.1 t19.2.2.2.1 (y7 + 1) Ms Mas Mpa Mkn Mke Mik Mpp Mle Mso Mfz Msp Mfo Mrd Mrs Mlt Mfi Mse _ hf H locs ls hC (lv_sub hl [1, 2, 3, 4, 5, 6, 7, 0] rfl) hK
      obtain ⟨t20, ht20, hf⟩ := z_bind hf
      refine L35 zF p1 p2 0 0 0 (-4) 0 Ms Mas Mpa Mkn Mke Mik Mpp Mle Mso Mfz Msp Mfo Mrd Mrs Mlt Mfi Mse t20 ht20 H locs ls hC (lv_sub hl [5, 6, 7, 4, 3, 2, 1, 0] rfl) (fun H locs ls hC hl => ?_)
      refine lv_iload_n hx hb dX6_map_140 rfl (lv_at hl 1 rfl) ?_
      refine lv_if_ne (tgt := 148) hx hb dX6_map_141 (by decide) (fun cd21 => ?_) (fun cd21 => ?_)
      · replace hf := z_neg cd21 hf
        refine lv_iload_n hx hb dX6_map_148 rfl (lv_at hl 1 rfl) ?_
        refine lv_iconst (v := 1) hx hb dX6_map_149 (by decide) ?_
        refine lv_icmp_ne (tgt := 158) hx hb dX6_map_150 (by decide) (fun cd22 => ?_) (fun cd22 => ?_)
        · replace hf := z_neg cd22 hf
          refine lv_iload_n hx hb dX6_map_158 rfl (lv_at hl 1 rfl) ?_
          refine lv_iconst (v := 2) hx hb dX6_map_159 (by decide) ?_
          refine lv_icmp_ne (tgt := 168) hx hb dX6_map_160 (by decide) (fun cd23 => ?_) (fun cd23 => ?_)
          · replace hf := z_neg cd23 hf
            refine lv_iload hx hb dX6_map_168 (lv_at hl 6 rfl) ?_
            have e1 := z_s1 hf
            subst e1
            exact z_iret S0 hr hlk hC dX6_map_170
          · replace hf := z_pos cd23 hf
            refine lv_iload hx hb dX6_map_163 (lv_at hl 5 rfl) ?_
            refine lv_goto (tgt := 170) hx hb dX6_map_165 (by decide) ?_
            have e1 := z_s1 hf
            subst e1
            exact z_iret S0 hr hlk hC dX6_map_170
        · replace hf := z_pos cd22 hf
          refine lv_iload hx hb dX6_map_153 (lv_at hl 4 rfl) ?_
          refine lv_goto (tgt := 170) hx hb dX6_map_155 (by decide) ?_
          have e1 := z_s1 hf
          subst e1
          exact z_iret S0 hr hlk hC dX6_map_170
      · replace hf := z_pos cd21 hf
        refine lv_iload_n hx hb dX6_map_144 rfl (lv_at hl 3 rfl) ?_
        refine lv_goto (tgt := 170) hx hb dX6_map_145 (by decide) ?_
        have e1 := z_s1 hf
        subst e1
        exact z_iret S0 hr hlk hC dX6_map_170
    · replace hf := z_pos cd4 hf
      refine lv_iconst (v := (-1)) hx hb dX6_map_18 (by decide) ?_
      have e1 := z_s1 hf
      subst e1
      exact z_iret S0 hr hlk hC dX6_map_19

-- X6 inState
def f_X6_inState_4 (y1 : Int32) (Ms : (Nat → Int32)) : Nat → Int32 → Int32 → Option (Int32 × Int32)
  | 0, _, _ => none
  | fu + 1, y2, y3 =>
    (zald 150 Ms 1).bind fun x2 => if x2 ≤ y3 then
      some (y2, y3)
    else
      (f_X6_of Ms y3 5).bind fun r4 => Option.bind (α := Int32) (
        if r4 = y1 then
          some (1)
        else
          some (0)
      ) fun t6 =>
        f_X6_inState_4 y1 Ms fu (y2 + t6) (y3 + 1)

theorem f_X6_inState_4_s (y1 : Int32) (Ms : (Nat → Int32)) (y2 : Int32) (y3 : Int32) (fu : Nat) : f_X6_inState_4 y1 Ms (fu + 1) y2 y3 = (
    (zald 150 Ms 1).bind fun x2 => if x2 ≤ y3 then
      some (y2, y3)
    else
      (f_X6_of Ms y3 5).bind fun r4 => Option.bind (α := Int32) (
        if r4 = y1 then
          some (1)
        else
          some (0)
      ) fun t6 =>
        f_X6_inState_4 y1 Ms fu (y2 + t6) (y3 + 1)
    ) := rfl

def f_X6_inState (Ms : (Nat → Int32)) (p1 : Int32) : Option (Int32) :=
  (f_X6_inState_4 p1 Ms zF 0 0).bind fun t7 =>
    some (t7.1)

theorem kX6_inState_7 : Cond.fieldLink RX6 7 "ZoneSamplerModel" "s" "[I" ∈ wsX6_inState := by decide +kernel
theorem jX6_inState_X6 : ∀ w ∈ u_ws RX6 TX6 17, w ∈ wsX6_inState := by decide +kernel
set_option maxHeartbeats 4000000 in
set_option maxRecDepth 100000 in
theorem c_X6_inState (l : Launch) (G : va_G) (c3 : zT3) (oM : zR8) (BM : zMd) (p1 : Int32) {r : Int32} (hf : f_X6_inState BM.1 p1 = some (r)) : zM l yX6_inState wsX6_inState ⟨1, 0, 0, 22⟩ G c3 (zwM c3.1 c3.2.2 oM (BM.1, BM.2.1, BM.2.2.1, BM.2.2.2.1, BM.2.2.2.2.1, BM.2.2.2.2.2.1, BM.2.2.2.2.2.2.1, BM.2.2.2.2.2.2.2.1, BM.2.2.2.2.2.2.2.2.1, BM.2.2.2.2.2.2.2.2.2.1, BM.2.2.2.2.2.2.2.2.2.2.1, BM.2.2.2.2.2.2.2.2.2.2.2.1, BM.2.2.2.2.2.2.2.2.2.2.2.2.1, BM.2.2.2.2.2.2.2.2.2.2.2.2.2.1, BM.2.2.2.2.2.2.2.2.2.2.2.2.2.2.1, BM.2.2.2.2.2.2.2.2.2.2.2.2.2.2.2.1, BM.2.2.2.2.2.2.2.2.2.2.2.2.2.2.2.2)) [.ref oM.1, .int p1] (some (.int r)) (zwM c3.1 c3.2.2 oM (BM.1, BM.2.1, BM.2.2.1, BM.2.2.2.1, BM.2.2.2.2.1, BM.2.2.2.2.2.1, BM.2.2.2.2.2.2.1, BM.2.2.2.2.2.2.2.1, BM.2.2.2.2.2.2.2.2.1, BM.2.2.2.2.2.2.2.2.2.1, BM.2.2.2.2.2.2.2.2.2.2.1, BM.2.2.2.2.2.2.2.2.2.2.2.1, BM.2.2.2.2.2.2.2.2.2.2.2.2.1, BM.2.2.2.2.2.2.2.2.2.2.2.2.2.1, BM.2.2.2.2.2.2.2.2.2.2.2.2.2.2.1, BM.2.2.2.2.2.2.2.2.2.2.2.2.2.2.2.1, BM.2.2.2.2.2.2.2.2.2.2.2.2.2.2.2.2)) := by
  obtain ⟨Ms, Mas, Mpa, Mkn, Mke, Mik, Mpp, Mle, Mso, Mfz, Msp, Mfo, Mrd, Mrs, Mlt, Mfi, Mse⟩ := BM
  have hf : f_X6_inState Ms p1 = some (r) := hf
  show zM l yX6_inState wsX6_inState ⟨1, 0, 0, 22⟩ G c3 (zwM c3.1 c3.2.2 oM (Ms, Mas, Mpa, Mkn, Mke, Mik, Mpp, Mle, Mso, Mfz, Msp, Mfo, Mrd, Mrs, Mlt, Mfi, Mse)) [.ref oM.1, .int p1] (some (.int r)) (zwM c3.1 c3.2.2 oM (Ms, Mas, Mpa, Mkn, Mke, Mik, Mpp, Mle, Mso, Mfz, Msp, Mfo, Mrd, Mrs, Mlt, Mfi, Mse))
  refine zM.of (cc := cX6_inState) (maxL := 4) (ret := (some .int)) (by decide) rfl (Nat.le_of_ble_eq_true rfl) ?_
  intro p e s m args below meth c A ls S0 hr hlk hC hl
  have S0 : CallFix p m c cX6_inState 4 s args wsX6_inState RX6 := S0
  have hl : lv_has ls 4 [(0, .ref oM.1), (1, .int p1)] := hl
  have hx := S0.1
  have hb := S0.2.1
  obtain ⟨H, hH⟩ : ∃ y, y = s.heap := ⟨_, rfl⟩
  rw [← hH] at hC ⊢
  obtain ⟨locs, hlo⟩ : ∃ y : List Loc, y = [] := ⟨_, rfl⟩
  rw [← hlo] at hC ⊢
  clear hH hlo
  unfold f_X6_inState at hf
  refine lv_iconst (v := 0) hx hb dX6_inState_0 (by decide) ?_
  refine lv_istore_n (lv' := [(2, .int 0), (0, .ref oM.1), (1, .int p1)]) hx hb dX6_inState_1 rfl hl (by decide) rfl (fun ls hl => ?_)
  refine lv_iconst (v := 0) hx hb dX6_inState_2 (by decide) ?_
  refine lv_istore_n (lv' := [(3, .int 0), (2, .int 0), (0, .ref oM.1), (1, .int p1)]) hx hb dX6_inState_3 rfl hl (by decide) rfl (fun ls hl => ?_)
  have L4 : ∀ (fu : Nat) (y1 : Int32) (y2 : Int32) (y3 : Int32) (Ms : (Nat → Int32)) (Mas : (Nat → Int32)) (Mpa : (Nat → Int32)) (Mkn : Int32) (Mke : (Nat → Int32)) (Mik : Int32) (Mpp : (Nat → Int32)) (Mle : Int32) (Mso : (Nat → Int32)) (Mfz : Int32) (Msp : Int32) (Mfo : Int32) (Mrd : (Nat → Int32)) (Mrs : Int32) (Mlt : Int32) (Mfi : Int32) (Mse : Int32) (tt : Int32 × Int32), f_X6_inState_4 y1 Ms fu y2 y3 = some tt → ∀ (H : Heap) (locs : List Loc) (ls : Array Slot), zC G c3 A s (zwM c3.1 c3.2.2 oM (Ms, Mas, Mpa, Mkn, Mke, Mik, Mpp, Mle, Mso, Mfz, Msp, Mfo, Mrd, Mrs, Mlt, Mfi, Mse)) H locs → lv_has ls 4 [(0, .ref oM.1), (1, .int y1), (2, .int y2), (3, .int y3)] → (∀ (H : Heap) (locs : List Loc) (ls : Array Slot), zC G c3 A s (zwM c3.1 c3.2.2 oM (Ms, Mas, Mpa, Mkn, Mke, Mik, Mpp, Mle, Mso, Mfz, Msp, Mfo, Mrd, Mrs, Mlt, Mfi, Mse)) H locs → lv_has ls 4 [(0, .ref oM.1), (1, .int y1), (2, .int tt.1), (3, .int tt.2)] → W p l e ⟨1, 0, 0, 22⟩ s m args below meth c H locs 0 0 (MQ below (zPost G (zwM c3.1 c3.2.2 oM (Ms, Mas, Mpa, Mkn, Mke, Mik, Mpp, Mle, Mso, Mfz, Msp, Mfo, Mrd, Mrs, Mlt, Mfi, Mse)) (some (.int r)) A) args s 0 0 A) (F0 m 38 ls [])) → W p l e ⟨1, 0, 0, 22⟩ s m args below meth c H locs 0 0 (MQ below (zPost G (zwM c3.1 c3.2.2 oM (Ms, Mas, Mpa, Mkn, Mke, Mik, Mpp, Mle, Mso, Mfz, Msp, Mfo, Mrd, Mrs, Mlt, Mfi, Mse)) (some (.int r)) A) args s 0 0 A) (F0 m 4 ls []) := by
    intro fu
    induction fu with
    | zero =>
      intro y1 y2 y3 Ms Mas Mpa Mkn Mke Mik Mpp Mle Mso Mfz Msp Mfo Mrd Mrs Mlt Mfi Mse tt hf H locs ls hC hl hK
      exact (z_none hf).elim
    | succ fu ih4 =>
      intro y1 y2 y3 Ms Mas Mpa Mkn Mke Mik Mpp Mle Mso Mfz Msp Mfo Mrd Mrs Mlt Mfi Mse tt hf H locs ls hC hl hK
      replace hf := (f_X6_inState_4_s y1 Ms y2 y3 fu).symm.trans hf
      refine lv_iload_n hx hb dX6_inState_4 rfl (lv_at hl 3 rfl) ?_
      refine lv_aload_n hx hb dX6_inState_5 rfl (lv_at hl 0 rfl) ?_
      refine z_get S0 hC (ci := 6) (C := RX6) (T := TX6) (N := 17) (v := .ref oM.2.1) jX6_inState_X6 0 rfl rfl 0 (by decide) kX6_inState_7 rfl rfl dX6_inState_6 ?_
      refine lv_iconst (v := 1) hx hb dX6_inState_9 (by decide) ?_
      obtain ⟨x2, hx2, hf⟩ := z_bind hf
      refine z_iald S0 hC 1 rfl hx2 dX6_inState_10 ?_
      refine lv_icmp_ge (tgt := 38) hx hb dX6_inState_11 (by decide) (fun cd3 => ?_) (fun cd3 => ?_)
      · replace hf := z_pos cd3 hf
        have e1 := z_s1 hf
        subst e1
        exact hK H locs ls hC (lv_sub hl [0, 1, 2, 3] rfl)
      · replace hf := z_neg cd3 hf
        refine lv_iload_n hx hb dX6_inState_14 rfl (lv_at hl 2 rfl) ?_
        refine lv_aload_n hx hb dX6_inState_15 rfl (lv_at hl 0 rfl) ?_
        refine lv_iload_n hx hb dX6_inState_16 rfl (lv_at hl 3 rfl) ?_
        refine lv_iconst (v := 5) hx hb dX6_inState_17 (by decide) ?_
        obtain ⟨r4, hr4, hf⟩ := z_bind hf
        refine z_callPi (z_runV (n := 2) (rest := [.int y2]) (As := [.int y3, .int 5]) S0 hC (c_X6_of l G c3 oM (Ms, Mas, Mpa, Mkn, Mke, Mik, Mpp, Mle, Mso, Mfz, Msp, Mfo, Mrd, Mrs, Mlt, Mfi, Mse) y3 5 hr4) [0, 1, 2, 3, 4, 5, 6, 7] (by decide) rfl gX6_inState_X6_of rfl rfl rfl (by decide +kernel) ⟨Nat.le_of_ble_eq_true rfl, Nat.le_of_ble_eq_true rfl⟩ (ci := 6) (q0 := 0) rfl rfl rfl hl.1 rfl (Nat.le_of_ble_eq_true rfl) dX6_inState_18) hC [0, 1, 2, 3, 4, 5, 6, 7] rfl (fun H locs hC => ?_)
        refine lv_iload_n hx hb dX6_inState_21 rfl (lv_at hl 1 rfl) ?_
        obtain ⟨t6, ht6, hf⟩ := z_bind hf
        have Jt6 : ∀ (H : Heap) (locs : List Loc) (ls : Array Slot), zC G c3 A s (zwM c3.1 c3.2.2 oM (Ms, Mas, Mpa, Mkn, Mke, Mik, Mpp, Mle, Mso, Mfz, Msp, Mfo, Mrd, Mrs, Mlt, Mfi, Mse)) H locs → lv_has ls 4 [(0, .ref oM.1), (1, .int y1), (2, .int y2), (3, .int y3)] → W p l e ⟨1, 0, 0, 22⟩ s m args below meth c H locs 0 0 (MQ below (zPost G (zwM c3.1 c3.2.2 oM (Ms, Mas, Mpa, Mkn, Mke, Mik, Mpp, Mle, Mso, Mfz, Msp, Mfo, Mrd, Mrs, Mlt, Mfi, Mse)) (some (.int r)) A) args s 0 0 A) (F0 m 30 ls [.int t6, .int y2]) := by
          intro H locs ls hC hl
          refine lv_iadd hx hb dX6_inState_30 ?_
          refine lv_istore_n (lv' := [(2, .int (y2 + t6)), (0, .ref oM.1), (1, .int y1), (3, .int y3)]) hx hb dX6_inState_31 rfl hl (by decide) rfl (fun ls hl => ?_)
          refine lv_iinc (v := (y3 + 1)) (lv' := [(3, .int (y3 + 1)), (2, .int (y2 + t6)), (0, .ref oM.1), (1, .int y1)]) hx hb dX6_inState_32 hl (k := 3) rfl rfl (by decide) rfl (fun ls hl => ?_)
          refine lv_goto (tgt := 4) hx hb dX6_inState_35 (by decide) ?_
          exact ih4 y1 (y2 + t6) (y3 + 1) Ms Mas Mpa Mkn Mke Mik Mpp Mle Mso Mfz Msp Mfo Mrd Mrs Mlt Mfi Mse _ hf H locs ls hC (lv_sub hl [2, 3, 1, 0] rfl) hK
        refine lv_icmp_ne (tgt := 29) hx hb dX6_inState_22 (by decide) (fun cd5 => ?_) (fun cd5 => ?_)
        · replace ht6 := z_neg cd5 ht6
          refine lv_iconst (v := 0) hx hb dX6_inState_29 (by decide) ?_
          have e1 := z_s1 ht6
          subst e1
          exact Jt6 H locs ls hC (lv_sub hl [0, 1, 2, 3] rfl)
        · replace ht6 := z_pos cd5 ht6
          refine lv_iconst (v := 1) hx hb dX6_inState_25 (by decide) ?_
          refine lv_goto (tgt := 30) hx hb dX6_inState_26 (by decide) ?_
          have e1 := z_s1 ht6
          subst e1
          exact Jt6 H locs ls hC (lv_sub hl [0, 1, 2, 3] rfl)
  obtain ⟨t7, ht7, hf⟩ := z_bind hf
  refine L4 zF p1 0 0 Ms Mas Mpa Mkn Mke Mik Mpp Mle Mso Mfz Msp Mfo Mrd Mrs Mlt Mfi Mse t7 ht7 H locs ls hC (lv_sub hl [2, 3, 1, 0] rfl) (fun H locs ls hC hl => ?_)
  refine lv_iload_n hx hb dX6_inState_38 rfl (lv_at hl 2 rfl) ?_
  have e1 := z_s1 hf
  subst e1
  exact z_iret S0 hr hlk hC dX6_inState_39

-- X6 allLoud
def f_X6_allLoud_4 (Ms : (Nat → Int32)) : Nat → Int32 → Int32 → Option (Int32 × Int32)
  | 0, _, _ => none
  | fu + 1, y1, y2 =>
    (zald 150 Ms 1).bind fun x2 => if x2 ≤ y2 then
      some (y1, y2)
    else
      (f_X6_of Ms y2 3).bind fun r4 => f_X6_allLoud_4 Ms fu (y1 + r4) (y2 + 1)

theorem f_X6_allLoud_4_s (Ms : (Nat → Int32)) (y1 : Int32) (y2 : Int32) (fu : Nat) : f_X6_allLoud_4 Ms (fu + 1) y1 y2 = (
    (zald 150 Ms 1).bind fun x2 => if x2 ≤ y2 then
      some (y1, y2)
    else
      (f_X6_of Ms y2 3).bind fun r4 => f_X6_allLoud_4 Ms fu (y1 + r4) (y2 + 1)
    ) := rfl

def f_X6_allLoud (Ms : (Nat → Int32)) : Option (Int32) :=
  (f_X6_allLoud_4 Ms zF 0 0).bind fun t5 =>
    some (t5.1)

theorem kX6_allLoud_7 : Cond.fieldLink RX6 7 "ZoneSamplerModel" "s" "[I" ∈ wsX6_allLoud := by decide +kernel
theorem jX6_allLoud_X6 : ∀ w ∈ u_ws RX6 TX6 17, w ∈ wsX6_allLoud := by decide +kernel
set_option maxHeartbeats 4000000 in
set_option maxRecDepth 100000 in
theorem c_X6_allLoud (l : Launch) (G : va_G) (c3 : zT3) (oM : zR8) (BM : zMd) {r : Int32} (hf : f_X6_allLoud BM.1 = some (r)) : zM l yX6_allLoud wsX6_allLoud ⟨1, 0, 0, 22⟩ G c3 (zwM c3.1 c3.2.2 oM (BM.1, BM.2.1, BM.2.2.1, BM.2.2.2.1, BM.2.2.2.2.1, BM.2.2.2.2.2.1, BM.2.2.2.2.2.2.1, BM.2.2.2.2.2.2.2.1, BM.2.2.2.2.2.2.2.2.1, BM.2.2.2.2.2.2.2.2.2.1, BM.2.2.2.2.2.2.2.2.2.2.1, BM.2.2.2.2.2.2.2.2.2.2.2.1, BM.2.2.2.2.2.2.2.2.2.2.2.2.1, BM.2.2.2.2.2.2.2.2.2.2.2.2.2.1, BM.2.2.2.2.2.2.2.2.2.2.2.2.2.2.1, BM.2.2.2.2.2.2.2.2.2.2.2.2.2.2.2.1, BM.2.2.2.2.2.2.2.2.2.2.2.2.2.2.2.2)) [.ref oM.1] (some (.int r)) (zwM c3.1 c3.2.2 oM (BM.1, BM.2.1, BM.2.2.1, BM.2.2.2.1, BM.2.2.2.2.1, BM.2.2.2.2.2.1, BM.2.2.2.2.2.2.1, BM.2.2.2.2.2.2.2.1, BM.2.2.2.2.2.2.2.2.1, BM.2.2.2.2.2.2.2.2.2.1, BM.2.2.2.2.2.2.2.2.2.2.1, BM.2.2.2.2.2.2.2.2.2.2.2.1, BM.2.2.2.2.2.2.2.2.2.2.2.2.1, BM.2.2.2.2.2.2.2.2.2.2.2.2.2.1, BM.2.2.2.2.2.2.2.2.2.2.2.2.2.2.1, BM.2.2.2.2.2.2.2.2.2.2.2.2.2.2.2.1, BM.2.2.2.2.2.2.2.2.2.2.2.2.2.2.2.2)) := by
  obtain ⟨Ms, Mas, Mpa, Mkn, Mke, Mik, Mpp, Mle, Mso, Mfz, Msp, Mfo, Mrd, Mrs, Mlt, Mfi, Mse⟩ := BM
  have hf : f_X6_allLoud Ms = some (r) := hf
  show zM l yX6_allLoud wsX6_allLoud ⟨1, 0, 0, 22⟩ G c3 (zwM c3.1 c3.2.2 oM (Ms, Mas, Mpa, Mkn, Mke, Mik, Mpp, Mle, Mso, Mfz, Msp, Mfo, Mrd, Mrs, Mlt, Mfi, Mse)) [.ref oM.1] (some (.int r)) (zwM c3.1 c3.2.2 oM (Ms, Mas, Mpa, Mkn, Mke, Mik, Mpp, Mle, Mso, Mfz, Msp, Mfo, Mrd, Mrs, Mlt, Mfi, Mse))
  refine zM.of (cc := cX6_allLoud) (maxL := 3) (ret := (some .int)) (by decide) rfl (Nat.le_of_ble_eq_true rfl) ?_
  intro p e s m args below meth c A ls S0 hr hlk hC hl
  have S0 : CallFix p m c cX6_allLoud 3 s args wsX6_allLoud RX6 := S0
  have hl : lv_has ls 3 [(0, .ref oM.1)] := hl
  have hx := S0.1
  have hb := S0.2.1
  obtain ⟨H, hH⟩ : ∃ y, y = s.heap := ⟨_, rfl⟩
  rw [← hH] at hC ⊢
  obtain ⟨locs, hlo⟩ : ∃ y : List Loc, y = [] := ⟨_, rfl⟩
  rw [← hlo] at hC ⊢
  clear hH hlo
  unfold f_X6_allLoud at hf
  refine lv_iconst (v := 0) hx hb dX6_allLoud_0 (by decide) ?_
  refine lv_istore_n (lv' := [(1, .int 0), (0, .ref oM.1)]) hx hb dX6_allLoud_1 rfl hl (by decide) rfl (fun ls hl => ?_)
  refine lv_iconst (v := 0) hx hb dX6_allLoud_2 (by decide) ?_
  refine lv_istore_n (lv' := [(2, .int 0), (1, .int 0), (0, .ref oM.1)]) hx hb dX6_allLoud_3 rfl hl (by decide) rfl (fun ls hl => ?_)
  have L4 : ∀ (fu : Nat) (y1 : Int32) (y2 : Int32) (Ms : (Nat → Int32)) (Mas : (Nat → Int32)) (Mpa : (Nat → Int32)) (Mkn : Int32) (Mke : (Nat → Int32)) (Mik : Int32) (Mpp : (Nat → Int32)) (Mle : Int32) (Mso : (Nat → Int32)) (Mfz : Int32) (Msp : Int32) (Mfo : Int32) (Mrd : (Nat → Int32)) (Mrs : Int32) (Mlt : Int32) (Mfi : Int32) (Mse : Int32) (tt : Int32 × Int32), f_X6_allLoud_4 Ms fu y1 y2 = some tt → ∀ (H : Heap) (locs : List Loc) (ls : Array Slot), zC G c3 A s (zwM c3.1 c3.2.2 oM (Ms, Mas, Mpa, Mkn, Mke, Mik, Mpp, Mle, Mso, Mfz, Msp, Mfo, Mrd, Mrs, Mlt, Mfi, Mse)) H locs → lv_has ls 3 [(0, .ref oM.1), (1, .int y1), (2, .int y2)] → (∀ (H : Heap) (locs : List Loc) (ls : Array Slot), zC G c3 A s (zwM c3.1 c3.2.2 oM (Ms, Mas, Mpa, Mkn, Mke, Mik, Mpp, Mle, Mso, Mfz, Msp, Mfo, Mrd, Mrs, Mlt, Mfi, Mse)) H locs → lv_has ls 3 [(0, .ref oM.1), (1, .int tt.1), (2, .int tt.2)] → W p l e ⟨1, 0, 0, 22⟩ s m args below meth c H locs 0 0 (MQ below (zPost G (zwM c3.1 c3.2.2 oM (Ms, Mas, Mpa, Mkn, Mke, Mik, Mpp, Mle, Mso, Mfz, Msp, Mfo, Mrd, Mrs, Mlt, Mfi, Mse)) (some (.int r)) A) args s 0 0 A) (F0 m 29 ls [])) → W p l e ⟨1, 0, 0, 22⟩ s m args below meth c H locs 0 0 (MQ below (zPost G (zwM c3.1 c3.2.2 oM (Ms, Mas, Mpa, Mkn, Mke, Mik, Mpp, Mle, Mso, Mfz, Msp, Mfo, Mrd, Mrs, Mlt, Mfi, Mse)) (some (.int r)) A) args s 0 0 A) (F0 m 4 ls []) := by
    intro fu
    induction fu with
    | zero =>
      intro y1 y2 Ms Mas Mpa Mkn Mke Mik Mpp Mle Mso Mfz Msp Mfo Mrd Mrs Mlt Mfi Mse tt hf H locs ls hC hl hK
      exact (z_none hf).elim
    | succ fu ih4 =>
      intro y1 y2 Ms Mas Mpa Mkn Mke Mik Mpp Mle Mso Mfz Msp Mfo Mrd Mrs Mlt Mfi Mse tt hf H locs ls hC hl hK
      replace hf := (f_X6_allLoud_4_s Ms y1 y2 fu).symm.trans hf
      refine lv_iload_n hx hb dX6_allLoud_4 rfl (lv_at hl 2 rfl) ?_
      refine lv_aload_n hx hb dX6_allLoud_5 rfl (lv_at hl 0 rfl) ?_
      refine z_get S0 hC (ci := 6) (C := RX6) (T := TX6) (N := 17) (v := .ref oM.2.1) jX6_allLoud_X6 0 rfl rfl 0 (by decide) kX6_allLoud_7 rfl rfl dX6_allLoud_6 ?_
      refine lv_iconst (v := 1) hx hb dX6_allLoud_9 (by decide) ?_
      obtain ⟨x2, hx2, hf⟩ := z_bind hf
      refine z_iald S0 hC 1 rfl hx2 dX6_allLoud_10 ?_
      refine lv_icmp_ge (tgt := 29) hx hb dX6_allLoud_11 (by decide) (fun cd3 => ?_) (fun cd3 => ?_)
      · replace hf := z_pos cd3 hf
        have e1 := z_s1 hf
        subst e1
        exact hK H locs ls hC (lv_sub hl [0, 1, 2] rfl)
      · replace hf := z_neg cd3 hf
        refine lv_iload_n hx hb dX6_allLoud_14 rfl (lv_at hl 1 rfl) ?_
        refine lv_aload_n hx hb dX6_allLoud_15 rfl (lv_at hl 0 rfl) ?_
        refine lv_iload_n hx hb dX6_allLoud_16 rfl (lv_at hl 2 rfl) ?_
        refine lv_iconst (v := 3) hx hb dX6_allLoud_17 (by decide) ?_
        obtain ⟨r4, hr4, hf⟩ := z_bind hf
        refine z_callPi (z_runV (n := 2) (rest := [.int y1]) (As := [.int y2, .int 3]) S0 hC (c_X6_of l G c3 oM (Ms, Mas, Mpa, Mkn, Mke, Mik, Mpp, Mle, Mso, Mfz, Msp, Mfo, Mrd, Mrs, Mlt, Mfi, Mse) y2 3 hr4) [0, 1, 2, 3, 4, 5, 6, 7] (by decide) rfl gX6_allLoud_X6_of rfl rfl rfl (by decide +kernel) ⟨Nat.le_of_ble_eq_true rfl, Nat.le_of_ble_eq_true rfl⟩ (ci := 6) (q0 := 0) rfl rfl rfl hl.1 rfl (Nat.le_of_ble_eq_true rfl) dX6_allLoud_18) hC [0, 1, 2, 3, 4, 5, 6, 7] rfl (fun H locs hC => ?_)
        refine lv_iadd hx hb dX6_allLoud_21 ?_
        refine lv_istore_n (lv' := [(1, .int (y1 + r4)), (0, .ref oM.1), (2, .int y2)]) hx hb dX6_allLoud_22 rfl hl (by decide) rfl (fun ls hl => ?_)
        refine lv_iinc (v := (y2 + 1)) (lv' := [(2, .int (y2 + 1)), (1, .int (y1 + r4)), (0, .ref oM.1)]) hx hb dX6_allLoud_23 hl (k := 2) rfl rfl (by decide) rfl (fun ls hl => ?_)
        refine lv_goto (tgt := 4) hx hb dX6_allLoud_26 (by decide) ?_
        exact ih4 (y1 + r4) (y2 + 1) Ms Mas Mpa Mkn Mke Mik Mpp Mle Mso Mfz Msp Mfo Mrd Mrs Mlt Mfi Mse _ hf H locs ls hC (lv_sub hl [2, 1, 0] rfl) hK
  obtain ⟨t5, ht5, hf⟩ := z_bind hf
  refine L4 zF 0 0 Ms Mas Mpa Mkn Mke Mik Mpp Mle Mso Mfz Msp Mfo Mrd Mrs Mlt Mfi Mse t5 ht5 H locs ls hC (lv_sub hl [2, 1, 0] rfl) (fun H locs ls hC hl => ?_)
  refine lv_iload_n hx hb dX6_allLoud_29 rfl (lv_at hl 1 rfl) ?_
  have e1 := z_s1 hf
  subst e1
  exact z_iret S0 hr hlk hC dX6_allLoud_30

-- X6 count
def f_X6_count (Ms : (Nat → Int32)) (Mkn : Int32) (Mle : Int32) (p1 : Int32) : Option (Int32) :=
  if p1 = 0 then
    (zald 150 Ms p1).bind fun x2 => some (x2)
  else
    if p1 = 1 then
      (zald 150 Ms p1).bind fun x4 => some (x4)
    else
      if p1 = 2 then
        (f_X6_inState Ms (p1 - 2)).bind fun r6 => some (r6)
      else
        if p1 = 3 then
          (f_X6_inState Ms (p1 - 2)).bind fun r8 => some (r8)
        else
          if p1 = 4 then
            (f_X6_inState Ms (p1 - 2)).bind fun r10 => some (r10)
          else
            if p1 = 5 then
              (f_X6_allLoud Ms).bind fun r12 => some (r12)
            else
              if p1 = 20 then
                some (Mle)
              else
                if p1 = 21 then
                  some (Mkn)
                else
                  (f_X6_in p1 6 19).bind fun r15 => if r15 = 0 then
                    some ((-1))
                  else
                    (zald 150 Ms ((2 + p1) - 6)).bind fun x17 => some (x17)

theorem kX6_count_7 : Cond.fieldLink RX6 7 "ZoneSamplerModel" "s" "[I" ∈ wsX6_count := by decide +kernel
theorem kX6_count_125 : Cond.fieldLink RX6 125 "ZoneSamplerModel" "length" "I" ∈ wsX6_count := by decide +kernel
theorem kX6_count_32 : Cond.fieldLink RX6 32 "ZoneSamplerModel" "known" "I" ∈ wsX6_count := by decide +kernel
theorem jX6_count_X6 : ∀ w ∈ u_ws RX6 TX6 17, w ∈ wsX6_count := by decide +kernel
set_option maxHeartbeats 4000000 in
set_option maxRecDepth 100000 in
theorem c_X6_count (l : Launch) (G : va_G) (c3 : zT3) (oM : zR8) (BM : zMd) (p1 : Int32) {r : Int32} (hf : f_X6_count BM.1 BM.2.2.2.1 BM.2.2.2.2.2.2.2.1 p1 = some (r)) : zM l yX6_count wsX6_count ⟨2, 0, 0, 45⟩ G c3 (zwM c3.1 c3.2.2 oM (BM.1, BM.2.1, BM.2.2.1, BM.2.2.2.1, BM.2.2.2.2.1, BM.2.2.2.2.2.1, BM.2.2.2.2.2.2.1, BM.2.2.2.2.2.2.2.1, BM.2.2.2.2.2.2.2.2.1, BM.2.2.2.2.2.2.2.2.2.1, BM.2.2.2.2.2.2.2.2.2.2.1, BM.2.2.2.2.2.2.2.2.2.2.2.1, BM.2.2.2.2.2.2.2.2.2.2.2.2.1, BM.2.2.2.2.2.2.2.2.2.2.2.2.2.1, BM.2.2.2.2.2.2.2.2.2.2.2.2.2.2.1, BM.2.2.2.2.2.2.2.2.2.2.2.2.2.2.2.1, BM.2.2.2.2.2.2.2.2.2.2.2.2.2.2.2.2)) [.ref oM.1, .int p1] (some (.int r)) (zwM c3.1 c3.2.2 oM (BM.1, BM.2.1, BM.2.2.1, BM.2.2.2.1, BM.2.2.2.2.1, BM.2.2.2.2.2.1, BM.2.2.2.2.2.2.1, BM.2.2.2.2.2.2.2.1, BM.2.2.2.2.2.2.2.2.1, BM.2.2.2.2.2.2.2.2.2.1, BM.2.2.2.2.2.2.2.2.2.2.1, BM.2.2.2.2.2.2.2.2.2.2.2.1, BM.2.2.2.2.2.2.2.2.2.2.2.2.1, BM.2.2.2.2.2.2.2.2.2.2.2.2.2.1, BM.2.2.2.2.2.2.2.2.2.2.2.2.2.2.1, BM.2.2.2.2.2.2.2.2.2.2.2.2.2.2.2.1, BM.2.2.2.2.2.2.2.2.2.2.2.2.2.2.2.2)) := by
  obtain ⟨Ms, Mas, Mpa, Mkn, Mke, Mik, Mpp, Mle, Mso, Mfz, Msp, Mfo, Mrd, Mrs, Mlt, Mfi, Mse⟩ := BM
  have hf : f_X6_count Ms Mkn Mle p1 = some (r) := hf
  show zM l yX6_count wsX6_count ⟨2, 0, 0, 45⟩ G c3 (zwM c3.1 c3.2.2 oM (Ms, Mas, Mpa, Mkn, Mke, Mik, Mpp, Mle, Mso, Mfz, Msp, Mfo, Mrd, Mrs, Mlt, Mfi, Mse)) [.ref oM.1, .int p1] (some (.int r)) (zwM c3.1 c3.2.2 oM (Ms, Mas, Mpa, Mkn, Mke, Mik, Mpp, Mle, Mso, Mfz, Msp, Mfo, Mrd, Mrs, Mlt, Mfi, Mse))
  refine zM.of (cc := cX6_count) (maxL := 2) (ret := (some .int)) (by decide) rfl (Nat.le_of_ble_eq_true rfl) ?_
  intro p e s m args below meth c A ls S0 hr hlk hC hl
  have S0 : CallFix p m c cX6_count 2 s args wsX6_count RX6 := S0
  have hl : lv_has ls 2 [(0, .ref oM.1), (1, .int p1)] := hl
  have hx := S0.1
  have hb := S0.2.1
  obtain ⟨H, hH⟩ : ∃ y, y = s.heap := ⟨_, rfl⟩
  rw [← hH] at hC ⊢
  obtain ⟨locs, hlo⟩ : ∃ y : List Loc, y = [] := ⟨_, rfl⟩
  rw [← hlo] at hC ⊢
  clear hH hlo
  unfold f_X6_count at hf
  refine lv_iload_n hx hb dX6_count_0 rfl (lv_at hl 1 rfl) ?_
  by_cases cd1 : p1 = 0
  · replace hf := z_pos cd1 hf
    refine lv_tableIn (off := 103) (tgt := 104) hx hb dX6_count_1 (by rw [cd1]; decide) (by rw [cd1]; decide) (by rw [cd1]; rfl) (by decide) ?_
    refine lv_aload_n hx hb dX6_count_104 rfl (lv_at hl 0 rfl) ?_
    refine z_get S0 hC (ci := 6) (C := RX6) (T := TX6) (N := 17) (v := .ref oM.2.1) jX6_count_X6 0 rfl rfl 0 (by decide) kX6_count_7 rfl rfl dX6_count_105 ?_
    refine lv_iload_n hx hb dX6_count_108 rfl (lv_at hl 1 rfl) ?_
    obtain ⟨x2, hx2, hf⟩ := z_bind hf
    refine z_iald S0 hC 1 rfl hx2 dX6_count_109 ?_
    have e1 := z_s1 hf
    subst e1
    exact z_iret S0 hr hlk hC dX6_count_110
  replace hf := z_neg cd1 hf
  by_cases cd3 : p1 = 1
  · replace hf := z_pos cd3 hf
    refine lv_tableIn (off := 103) (tgt := 104) hx hb dX6_count_1 (by rw [cd3]; decide) (by rw [cd3]; decide) (by rw [cd3]; rfl) (by decide) ?_
    refine lv_aload_n hx hb dX6_count_104 rfl (lv_at hl 0 rfl) ?_
    refine z_get S0 hC (ci := 6) (C := RX6) (T := TX6) (N := 17) (v := .ref oM.2.1) jX6_count_X6 0 rfl rfl 0 (by decide) kX6_count_7 rfl rfl dX6_count_105 ?_
    refine lv_iload_n hx hb dX6_count_108 rfl (lv_at hl 1 rfl) ?_
    obtain ⟨x4, hx4, hf⟩ := z_bind hf
    refine z_iald S0 hC 1 rfl hx4 dX6_count_109 ?_
    have e1 := z_s1 hf
    subst e1
    exact z_iret S0 hr hlk hC dX6_count_110
  replace hf := z_neg cd3 hf
  by_cases cd5 : p1 = 2
  · replace hf := z_pos cd5 hf
    refine lv_tableIn (off := 110) (tgt := 111) hx hb dX6_count_1 (by rw [cd5]; decide) (by rw [cd5]; decide) (by rw [cd5]; rfl) (by decide) ?_
    refine lv_aload_n hx hb dX6_count_111 rfl (lv_at hl 0 rfl) ?_
    refine lv_iload_n hx hb dX6_count_112 rfl (lv_at hl 1 rfl) ?_
    refine lv_iconst (v := 2) hx hb dX6_count_113 (by decide) ?_
    refine lv_isub hx hb dX6_count_114 ?_
    obtain ⟨r6, hr6, hf⟩ := z_bind hf
    refine z_callPi (z_runV (n := 1) (rest := []) (As := [.int (p1 - 2)]) S0 hC (c_X6_inState l G c3 oM (Ms, Mas, Mpa, Mkn, Mke, Mik, Mpp, Mle, Mso, Mfz, Msp, Mfo, Mrd, Mrs, Mlt, Mfi, Mse) (p1 - 2) hr6) [0, 1, 2, 3, 4, 5, 6, 7] (by decide) rfl gX6_count_X6_inState rfl rfl rfl (by decide +kernel) ⟨Nat.le_of_ble_eq_true rfl, Nat.le_of_ble_eq_true rfl⟩ (ci := 6) (q0 := 0) rfl rfl rfl hl.1 rfl (Nat.le_of_ble_eq_true rfl) dX6_count_115) hC [0, 1, 2, 3, 4, 5, 6, 7] rfl (fun H locs hC => ?_)
    have e1 := z_s1 hf
    subst e1
    exact z_iret S0 hr hlk hC dX6_count_118
  replace hf := z_neg cd5 hf
  by_cases cd7 : p1 = 3
  · replace hf := z_pos cd7 hf
    refine lv_tableIn (off := 110) (tgt := 111) hx hb dX6_count_1 (by rw [cd7]; decide) (by rw [cd7]; decide) (by rw [cd7]; rfl) (by decide) ?_
    refine lv_aload_n hx hb dX6_count_111 rfl (lv_at hl 0 rfl) ?_
    refine lv_iload_n hx hb dX6_count_112 rfl (lv_at hl 1 rfl) ?_
    refine lv_iconst (v := 2) hx hb dX6_count_113 (by decide) ?_
    refine lv_isub hx hb dX6_count_114 ?_
    obtain ⟨r8, hr8, hf⟩ := z_bind hf
    refine z_callPi (z_runV (n := 1) (rest := []) (As := [.int (p1 - 2)]) S0 hC (c_X6_inState l G c3 oM (Ms, Mas, Mpa, Mkn, Mke, Mik, Mpp, Mle, Mso, Mfz, Msp, Mfo, Mrd, Mrs, Mlt, Mfi, Mse) (p1 - 2) hr8) [0, 1, 2, 3, 4, 5, 6, 7] (by decide) rfl gX6_count_X6_inState rfl rfl rfl (by decide +kernel) ⟨Nat.le_of_ble_eq_true rfl, Nat.le_of_ble_eq_true rfl⟩ (ci := 6) (q0 := 0) rfl rfl rfl hl.1 rfl (Nat.le_of_ble_eq_true rfl) dX6_count_115) hC [0, 1, 2, 3, 4, 5, 6, 7] rfl (fun H locs hC => ?_)
    have e1 := z_s1 hf
    subst e1
    exact z_iret S0 hr hlk hC dX6_count_118
  replace hf := z_neg cd7 hf
  by_cases cd9 : p1 = 4
  · replace hf := z_pos cd9 hf
    refine lv_tableIn (off := 110) (tgt := 111) hx hb dX6_count_1 (by rw [cd9]; decide) (by rw [cd9]; decide) (by rw [cd9]; rfl) (by decide) ?_
    refine lv_aload_n hx hb dX6_count_111 rfl (lv_at hl 0 rfl) ?_
    refine lv_iload_n hx hb dX6_count_112 rfl (lv_at hl 1 rfl) ?_
    refine lv_iconst (v := 2) hx hb dX6_count_113 (by decide) ?_
    refine lv_isub hx hb dX6_count_114 ?_
    obtain ⟨r10, hr10, hf⟩ := z_bind hf
    refine z_callPi (z_runV (n := 1) (rest := []) (As := [.int (p1 - 2)]) S0 hC (c_X6_inState l G c3 oM (Ms, Mas, Mpa, Mkn, Mke, Mik, Mpp, Mle, Mso, Mfz, Msp, Mfo, Mrd, Mrs, Mlt, Mfi, Mse) (p1 - 2) hr10) [0, 1, 2, 3, 4, 5, 6, 7] (by decide) rfl gX6_count_X6_inState rfl rfl rfl (by decide +kernel) ⟨Nat.le_of_ble_eq_true rfl, Nat.le_of_ble_eq_true rfl⟩ (ci := 6) (q0 := 0) rfl rfl rfl hl.1 rfl (Nat.le_of_ble_eq_true rfl) dX6_count_115) hC [0, 1, 2, 3, 4, 5, 6, 7] rfl (fun H locs hC => ?_)
    have e1 := z_s1 hf
    subst e1
    exact z_iret S0 hr hlk hC dX6_count_118
  replace hf := z_neg cd9 hf
  by_cases cd11 : p1 = 5
  · replace hf := z_pos cd11 hf
    refine lv_tableIn (off := 118) (tgt := 119) hx hb dX6_count_1 (by rw [cd11]; decide) (by rw [cd11]; decide) (by rw [cd11]; rfl) (by decide) ?_
    refine lv_aload_n hx hb dX6_count_119 rfl (lv_at hl 0 rfl) ?_
    obtain ⟨r12, hr12, hf⟩ := z_bind hf
    refine z_callPi (z_runV (n := 0) (rest := []) (As := []) S0 hC (c_X6_allLoud l G c3 oM (Ms, Mas, Mpa, Mkn, Mke, Mik, Mpp, Mle, Mso, Mfz, Msp, Mfo, Mrd, Mrs, Mlt, Mfi, Mse) hr12) [0, 1, 2, 3, 4, 5, 6, 7] (by decide) rfl gX6_count_X6_allLoud rfl rfl rfl (by decide +kernel) ⟨Nat.le_of_ble_eq_true rfl, Nat.le_of_ble_eq_true rfl⟩ (ci := 6) (q0 := 0) rfl rfl rfl hl.1 rfl (Nat.le_of_ble_eq_true rfl) dX6_count_120) hC [0, 1, 2, 3, 4, 5, 6, 7] rfl (fun H locs hC => ?_)
    have e1 := z_s1 hf
    subst e1
    exact z_iret S0 hr hlk hC dX6_count_123
  replace hf := z_neg cd11 hf
  by_cases cd13 : p1 = 20
  · replace hf := z_pos cd13 hf
    refine lv_tableIn (off := 123) (tgt := 124) hx hb dX6_count_1 (by rw [cd13]; decide) (by rw [cd13]; decide) (by rw [cd13]; rfl) (by decide) ?_
    refine lv_aload_n hx hb dX6_count_124 rfl (lv_at hl 0 rfl) ?_
    refine z_get S0 hC (ci := 6) (C := RX6) (T := TX6) (N := 17) (v := .int Mle) jX6_count_X6 0 rfl rfl 7 (by decide) kX6_count_125 rfl rfl dX6_count_125 ?_
    have e1 := z_s1 hf
    subst e1
    exact z_iret S0 hr hlk hC dX6_count_128
  replace hf := z_neg cd13 hf
  by_cases cd14 : p1 = 21
  · replace hf := z_pos cd14 hf
    refine lv_tableIn (off := 128) (tgt := 129) hx hb dX6_count_1 (by rw [cd14]; decide) (by rw [cd14]; decide) (by rw [cd14]; rfl) (by decide) ?_
    refine lv_aload_n hx hb dX6_count_129 rfl (lv_at hl 0 rfl) ?_
    refine z_get S0 hC (ci := 6) (C := RX6) (T := TX6) (N := 17) (v := .int Mkn) jX6_count_X6 0 rfl rfl 3 (by decide) kX6_count_32 rfl rfl dX6_count_130 ?_
    have e1 := z_s1 hf
    subst e1
    exact z_iret S0 hr hlk hC dX6_count_133
  replace hf := z_neg cd14 hf
  have D1 : W p l e ⟨2, 0, 0, 45⟩ s m args below meth c H locs 0 0 (MQ below (zPost G (zwM c3.1 c3.2.2 oM (Ms, Mas, Mpa, Mkn, Mke, Mik, Mpp, Mle, Mso, Mfz, Msp, Mfo, Mrd, Mrs, Mlt, Mfi, Mse)) (some (.int r)) A) args s 0 0 A) (F0 m 134 ls []) := by
    refine lv_iload_n hx hb dX6_count_134 rfl (lv_at hl 1 rfl) ?_
    refine lv_bipush (v := 6) hx hb dX6_count_135 (by decide) ?_
    refine lv_bipush (v := 19) hx hb dX6_count_137 (by decide) ?_
    obtain ⟨r15, hr15, hf⟩ := z_bind hf
    refine z_callPi (z_runS (n := 3) (rest := []) (As := [.int p1, .int 6, .int 19]) S0 hC (c_X6_in l G c3 p1 6 19 hr15) [] (by decide) rfl gX6_count_X6_in rfl rfl rfl (by decide +kernel) ⟨Nat.le_of_ble_eq_true rfl, Nat.le_of_ble_eq_true rfl⟩ rfl hl.1 rfl (Nat.le_of_ble_eq_true rfl) dX6_count_139) hC [] rfl (fun H locs hC => ?_)
    refine lv_if_eq (tgt := 159) hx hb dX6_count_142 (by decide) (fun cd16 => ?_) (fun cd16 => ?_)
    · replace hf := z_pos cd16 hf
      refine lv_iconst (v := (-1)) hx hb dX6_count_159 (by decide) ?_
      have e1 := z_s1 hf
      subst e1
      exact z_iret S0 hr hlk hC dX6_count_160
    · replace hf := z_neg cd16 hf
      refine lv_aload_n hx hb dX6_count_145 rfl (lv_at hl 0 rfl) ?_
      refine z_get S0 hC (ci := 6) (C := RX6) (T := TX6) (N := 17) (v := .ref oM.2.1) jX6_count_X6 0 rfl rfl 0 (by decide) kX6_count_7 rfl rfl dX6_count_146 ?_
      refine lv_iconst (v := 2) hx hb dX6_count_149 (by decide) ?_
      refine lv_iload_n hx hb dX6_count_150 rfl (lv_at hl 1 rfl) ?_
      refine lv_iadd hx hb dX6_count_151 ?_
      refine lv_bipush (v := 6) hx hb dX6_count_152 (by decide) ?_
      refine lv_isub hx hb dX6_count_154 ?_
      obtain ⟨x17, hx17, hf⟩ := z_bind hf
      refine z_iald S0 hC 1 rfl hx17 dX6_count_155 ?_
      refine lv_goto (tgt := 160) hx hb dX6_count_156 (by decide) ?_
      have e1 := z_s1 hf
      subst e1
      exact z_iret S0 hr hlk hC dX6_count_160
  by_cases cd18 : p1 = 6
  · exact lv_tableIn (off := 133) (tgt := 134) hx hb dX6_count_1 (by rw [cd18]; decide) (by rw [cd18]; decide) (by rw [cd18]; rfl) (by decide) D1
  by_cases cd19 : p1 = 7
  · exact lv_tableIn (off := 133) (tgt := 134) hx hb dX6_count_1 (by rw [cd19]; decide) (by rw [cd19]; decide) (by rw [cd19]; rfl) (by decide) D1
  by_cases cd20 : p1 = 8
  · exact lv_tableIn (off := 133) (tgt := 134) hx hb dX6_count_1 (by rw [cd20]; decide) (by rw [cd20]; decide) (by rw [cd20]; rfl) (by decide) D1
  by_cases cd21 : p1 = 9
  · exact lv_tableIn (off := 133) (tgt := 134) hx hb dX6_count_1 (by rw [cd21]; decide) (by rw [cd21]; decide) (by rw [cd21]; rfl) (by decide) D1
  by_cases cd22 : p1 = 10
  · exact lv_tableIn (off := 133) (tgt := 134) hx hb dX6_count_1 (by rw [cd22]; decide) (by rw [cd22]; decide) (by rw [cd22]; rfl) (by decide) D1
  by_cases cd23 : p1 = 11
  · exact lv_tableIn (off := 133) (tgt := 134) hx hb dX6_count_1 (by rw [cd23]; decide) (by rw [cd23]; decide) (by rw [cd23]; rfl) (by decide) D1
  by_cases cd24 : p1 = 12
  · exact lv_tableIn (off := 133) (tgt := 134) hx hb dX6_count_1 (by rw [cd24]; decide) (by rw [cd24]; decide) (by rw [cd24]; rfl) (by decide) D1
  by_cases cd25 : p1 = 13
  · exact lv_tableIn (off := 133) (tgt := 134) hx hb dX6_count_1 (by rw [cd25]; decide) (by rw [cd25]; decide) (by rw [cd25]; rfl) (by decide) D1
  by_cases cd26 : p1 = 14
  · exact lv_tableIn (off := 133) (tgt := 134) hx hb dX6_count_1 (by rw [cd26]; decide) (by rw [cd26]; decide) (by rw [cd26]; rfl) (by decide) D1
  by_cases cd27 : p1 = 15
  · exact lv_tableIn (off := 133) (tgt := 134) hx hb dX6_count_1 (by rw [cd27]; decide) (by rw [cd27]; decide) (by rw [cd27]; rfl) (by decide) D1
  by_cases cd28 : p1 = 16
  · exact lv_tableIn (off := 133) (tgt := 134) hx hb dX6_count_1 (by rw [cd28]; decide) (by rw [cd28]; decide) (by rw [cd28]; rfl) (by decide) D1
  by_cases cd29 : p1 = 17
  · exact lv_tableIn (off := 133) (tgt := 134) hx hb dX6_count_1 (by rw [cd29]; decide) (by rw [cd29]; decide) (by rw [cd29]; rfl) (by decide) D1
  by_cases cd30 : p1 = 18
  · exact lv_tableIn (off := 133) (tgt := 134) hx hb dX6_count_1 (by rw [cd30]; decide) (by rw [cd30]; decide) (by rw [cd30]; rfl) (by decide) D1
  by_cases cd31 : p1 = 19
  · exact lv_tableIn (off := 133) (tgt := 134) hx hb dX6_count_1 (by rw [cd31]; decide) (by rw [cd31]; decide) (by rw [cd31]; rfl) (by decide) D1
  have e0_1 : (p1).toInt ≠ 0 := fun h => cd1 (Int32.toInt_inj.mp (h.trans (by decide)))
  have e1_1 : (p1).toInt ≠ 1 := fun h => cd3 (Int32.toInt_inj.mp (h.trans (by decide)))
  have e2_1 : (p1).toInt ≠ 2 := fun h => cd5 (Int32.toInt_inj.mp (h.trans (by decide)))
  have e3_1 : (p1).toInt ≠ 3 := fun h => cd7 (Int32.toInt_inj.mp (h.trans (by decide)))
  have e4_1 : (p1).toInt ≠ 4 := fun h => cd9 (Int32.toInt_inj.mp (h.trans (by decide)))
  have e5_1 : (p1).toInt ≠ 5 := fun h => cd11 (Int32.toInt_inj.mp (h.trans (by decide)))
  have e20_1 : (p1).toInt ≠ 20 := fun h => cd13 (Int32.toInt_inj.mp (h.trans (by decide)))
  have e21_1 : (p1).toInt ≠ 21 := fun h => cd14 (Int32.toInt_inj.mp (h.trans (by decide)))
  have e6_1 : (p1).toInt ≠ 6 := fun h => cd18 (Int32.toInt_inj.mp (h.trans (by decide)))
  have e7_1 : (p1).toInt ≠ 7 := fun h => cd19 (Int32.toInt_inj.mp (h.trans (by decide)))
  have e8_1 : (p1).toInt ≠ 8 := fun h => cd20 (Int32.toInt_inj.mp (h.trans (by decide)))
  have e9_1 : (p1).toInt ≠ 9 := fun h => cd21 (Int32.toInt_inj.mp (h.trans (by decide)))
  have e10_1 : (p1).toInt ≠ 10 := fun h => cd22 (Int32.toInt_inj.mp (h.trans (by decide)))
  have e11_1 : (p1).toInt ≠ 11 := fun h => cd23 (Int32.toInt_inj.mp (h.trans (by decide)))
  have e12_1 : (p1).toInt ≠ 12 := fun h => cd24 (Int32.toInt_inj.mp (h.trans (by decide)))
  have e13_1 : (p1).toInt ≠ 13 := fun h => cd25 (Int32.toInt_inj.mp (h.trans (by decide)))
  have e14_1 : (p1).toInt ≠ 14 := fun h => cd26 (Int32.toInt_inj.mp (h.trans (by decide)))
  have e15_1 : (p1).toInt ≠ 15 := fun h => cd27 (Int32.toInt_inj.mp (h.trans (by decide)))
  have e16_1 : (p1).toInt ≠ 16 := fun h => cd28 (Int32.toInt_inj.mp (h.trans (by decide)))
  have e17_1 : (p1).toInt ≠ 17 := fun h => cd29 (Int32.toInt_inj.mp (h.trans (by decide)))
  have e18_1 : (p1).toInt ≠ 18 := fun h => cd30 (Int32.toInt_inj.mp (h.trans (by decide)))
  have e19_1 : (p1).toInt ≠ 19 := fun h => cd31 (Int32.toInt_inj.mp (h.trans (by decide)))
  exact lv_tableOut (tgt := 134) hx hb dX6_count_1 (by omega) (by decide) D1

-- X6 ifHit
def f_X6_ifHit (Ms : (Nat → Int32)) (Mas : (Nat → Int32)) (Mso : (Nat → Int32)) (Mfz : Int32) (p1 : Int32) (p2 : Int32) (p3 : Int32) : Option (Int32 × (Nat → Int32) × (Nat → Int32) × (Nat → Int32) × Int32) :=
  (f_X6_isNote p1 p2).bind fun r1 => if r1 = 0 then
    some ((-1), Ms, Mas, Mso, Mfz)
  else
    (f_X6_in p3 0 4).bind fun r3 => if r3 = 0 then
      some ((-1), Ms, Mas, Mso, Mfz)
    else
      (f_X6_copies 150 150 Ms Mas 0 0).bind fun r5 => (f_X6_goHit Ms Mso Mfz p1 p2).bind fun r6 => Option.bind (α := Int32) (
        if p3 = 0 then
          some (r6.1)
        else
          if p3 = 1 then
            (zald 150 r6.2.1 6).bind fun x16 => (zald 150 r5 6).bind fun x17 => some ((x16 - x17))
          else
            if p3 = 2 then
              (zald 150 r6.2.1 7).bind fun x14 => (zald 150 r5 7).bind fun x15 => some ((x14 - x15))
            else
              if p3 = 3 then
                some (r6.2.2.2)
              else
                (zald 150 r6.2.1 1).bind fun x13 => some (x13)
      ) fun t8 =>
        (f_X6_copies 150 150 r5 r6.2.1 0 0).bind fun r9 => some (t8, r9, r5, r6.2.2.1, r6.2.2.2)

theorem kX6_ifHit_7 : Cond.fieldLink RX6 7 "ZoneSamplerModel" "s" "[I" ∈ wsX6_ifHit := by decide +kernel
theorem kX6_ifHit_13 : Cond.fieldLink RX6 13 "ZoneSamplerModel" "aside" "[I" ∈ wsX6_ifHit := by decide +kernel
theorem kX6_ifHit_76 : Cond.fieldLink RX6 76 "ZoneSamplerModel" "firstZone" "I" ∈ wsX6_ifHit := by decide +kernel
theorem jX6_ifHit_X6 : ∀ w ∈ u_ws RX6 TX6 17, w ∈ wsX6_ifHit := by decide +kernel
set_option maxHeartbeats 4000000 in
set_option maxRecDepth 100000 in
theorem c_X6_ifHit (l : Launch) (G : va_G) (c3 : zT3) (oM : zR8) (BM : zMd) (p1 : Int32) (p2 : Int32) (p3 : Int32) {r : Int32} {Ms' : (Nat → Int32)} {Mas' : (Nat → Int32)} {Mso' : (Nat → Int32)} {Mfz' : Int32} (hf : f_X6_ifHit BM.1 BM.2.1 BM.2.2.2.2.2.2.2.2.1 BM.2.2.2.2.2.2.2.2.2.1 p1 p2 p3 = some (r, Ms', Mas', Mso', Mfz')) : zM l yX6_ifHit wsX6_ifHit ⟨5, 0, 0, 120⟩ G c3 (zwM c3.1 c3.2.2 oM (BM.1, BM.2.1, BM.2.2.1, BM.2.2.2.1, BM.2.2.2.2.1, BM.2.2.2.2.2.1, BM.2.2.2.2.2.2.1, BM.2.2.2.2.2.2.2.1, BM.2.2.2.2.2.2.2.2.1, BM.2.2.2.2.2.2.2.2.2.1, BM.2.2.2.2.2.2.2.2.2.2.1, BM.2.2.2.2.2.2.2.2.2.2.2.1, BM.2.2.2.2.2.2.2.2.2.2.2.2.1, BM.2.2.2.2.2.2.2.2.2.2.2.2.2.1, BM.2.2.2.2.2.2.2.2.2.2.2.2.2.2.1, BM.2.2.2.2.2.2.2.2.2.2.2.2.2.2.2.1, BM.2.2.2.2.2.2.2.2.2.2.2.2.2.2.2.2)) [.ref oM.1, .int p1, .int p2, .int p3] (some (.int r)) (zwM c3.1 c3.2.2 oM (Ms', Mas', BM.2.2.1, BM.2.2.2.1, BM.2.2.2.2.1, BM.2.2.2.2.2.1, BM.2.2.2.2.2.2.1, BM.2.2.2.2.2.2.2.1, Mso', Mfz', BM.2.2.2.2.2.2.2.2.2.2.1, BM.2.2.2.2.2.2.2.2.2.2.2.1, BM.2.2.2.2.2.2.2.2.2.2.2.2.1, BM.2.2.2.2.2.2.2.2.2.2.2.2.2.1, BM.2.2.2.2.2.2.2.2.2.2.2.2.2.2.1, BM.2.2.2.2.2.2.2.2.2.2.2.2.2.2.2.1, BM.2.2.2.2.2.2.2.2.2.2.2.2.2.2.2.2)) := by
  obtain ⟨Ms, Mas, Mpa, Mkn, Mke, Mik, Mpp, Mle, Mso, Mfz, Msp, Mfo, Mrd, Mrs, Mlt, Mfi, Mse⟩ := BM
  have hf : f_X6_ifHit Ms Mas Mso Mfz p1 p2 p3 = some (r, Ms', Mas', Mso', Mfz') := hf
  show zM l yX6_ifHit wsX6_ifHit ⟨5, 0, 0, 120⟩ G c3 (zwM c3.1 c3.2.2 oM (Ms, Mas, Mpa, Mkn, Mke, Mik, Mpp, Mle, Mso, Mfz, Msp, Mfo, Mrd, Mrs, Mlt, Mfi, Mse)) [.ref oM.1, .int p1, .int p2, .int p3] (some (.int r)) (zwM c3.1 c3.2.2 oM (Ms', Mas', Mpa, Mkn, Mke, Mik, Mpp, Mle, Mso', Mfz', Msp, Mfo, Mrd, Mrs, Mlt, Mfi, Mse))
  refine zM.of (cc := cX6_ifHit) (maxL := 6) (ret := (some .int)) (by decide) rfl (Nat.le_of_ble_eq_true rfl) ?_
  intro p e s m args below meth c A ls S0 hr hlk hC hl
  have S0 : CallFix p m c cX6_ifHit 6 s args wsX6_ifHit RX6 := S0
  have hl : lv_has ls 6 [(0, .ref oM.1), (1, .int p1), (2, .int p2), (3, .int p3)] := hl
  have hx := S0.1
  have hb := S0.2.1
  obtain ⟨H, hH⟩ : ∃ y, y = s.heap := ⟨_, rfl⟩
  rw [← hH] at hC ⊢
  obtain ⟨locs, hlo⟩ : ∃ y : List Loc, y = [] := ⟨_, rfl⟩
  rw [← hlo] at hC ⊢
  clear hH hlo
  unfold f_X6_ifHit at hf
  refine lv_iload_n hx hb dX6_ifHit_0 rfl (lv_at hl 1 rfl) ?_
  refine lv_iload_n hx hb dX6_ifHit_1 rfl (lv_at hl 2 rfl) ?_
  obtain ⟨r1, hr1, hf⟩ := z_bind hf
  refine z_callPi (z_runS (n := 2) (rest := []) (As := [.int p1, .int p2]) S0 hC (c_X6_isNote l G c3 p1 p2 hr1) [] (by decide) rfl gX6_ifHit_X6_isNote rfl rfl rfl (by decide +kernel) ⟨Nat.le_of_ble_eq_true rfl, Nat.le_of_ble_eq_true rfl⟩ rfl hl.1 rfl (Nat.le_of_ble_eq_true rfl) dX6_ifHit_2) hC [] rfl (fun H locs hC => ?_)
  refine lv_if_eq (tgt := 17) hx hb dX6_ifHit_5 (by decide) (fun cd2 => ?_) (fun cd2 => ?_)
  · replace hf := z_pos cd2 hf
    refine lv_iconst (v := (-1)) hx hb dX6_ifHit_17 (by decide) ?_
    obtain ⟨e1, e2, e3, e4, e5⟩ := z_s5 hf
    subst e1
    subst e2
    subst e3
    subst e4
    subst e5
    exact z_iret S0 hr hlk hC dX6_ifHit_18
  · replace hf := z_neg cd2 hf
    refine lv_iload_n hx hb dX6_ifHit_8 rfl (lv_at hl 3 rfl) ?_
    refine lv_iconst (v := 0) hx hb dX6_ifHit_9 (by decide) ?_
    refine lv_iconst (v := 4) hx hb dX6_ifHit_10 (by decide) ?_
    obtain ⟨r3, hr3, hf⟩ := z_bind hf
    refine z_callPi (z_runS (n := 3) (rest := []) (As := [.int p3, .int 0, .int 4]) S0 hC (c_X6_in l G c3 p3 0 4 hr3) [] (by decide) rfl gX6_ifHit_X6_in rfl rfl rfl (by decide +kernel) ⟨Nat.le_of_ble_eq_true rfl, Nat.le_of_ble_eq_true rfl⟩ rfl hl.1 rfl (Nat.le_of_ble_eq_true rfl) dX6_ifHit_11) hC [] rfl (fun H locs hC => ?_)
    refine lv_if_ne (tgt := 19) hx hb dX6_ifHit_14 (by decide) (fun cd4 => ?_) (fun cd4 => ?_)
    · replace hf := z_neg cd4 hf
      refine lv_aload_n hx hb dX6_ifHit_19 rfl (lv_at hl 0 rfl) ?_
      refine z_get S0 hC (ci := 6) (C := RX6) (T := TX6) (N := 17) (v := .ref oM.2.1) jX6_ifHit_X6 0 rfl rfl 0 (by decide) kX6_ifHit_7 rfl rfl dX6_ifHit_20 ?_
      refine lv_iconst (v := 0) hx hb dX6_ifHit_23 (by decide) ?_
      refine lv_aload_n hx hb dX6_ifHit_24 rfl (lv_at hl 0 rfl) ?_
      refine z_get S0 hC (ci := 6) (C := RX6) (T := TX6) (N := 17) (v := .ref oM.2.2.1) jX6_ifHit_X6 0 rfl rfl 1 (by decide) kX6_ifHit_13 rfl rfl dX6_ifHit_25 ?_
      refine lv_iconst (v := 0) hx hb dX6_ifHit_28 (by decide) ?_
      obtain ⟨r5, hr5, hf⟩ := z_bind hf
      refine z_callv (z_runS (n := 4) (rest := []) (As := [.ref oM.2.1, .int 0, .ref oM.2.2.1, .int 0]) S0 hC (c_X6_copies l G c3 oM.2.1 150 Ms oM.2.2.1 150 Mas 0 0 hr5) [1, 2] (by decide) rfl gX6_ifHit_X6_copies rfl rfl rfl (by decide +kernel) ⟨Nat.le_of_ble_eq_true rfl, Nat.le_of_ble_eq_true rfl⟩ rfl hl.1 rfl (Nat.le_of_ble_eq_true rfl) dX6_ifHit_29) hC [1, 2] [0, 3, 4, 5, 6, 7] [0, 6, 7, 1, 2, 3, 4, 5] rfl (wr := [(oM.1, .inr (6, [.ref oM.2.1, .ref oM.2.2.1, .ref oM.2.2.2.1, .int Mkn, .ref oM.2.2.2.2.1, .int Mik, .ref oM.2.2.2.2.2.1, .int Mle, .ref oM.2.2.2.2.2.2.1, .int Mfz, .int Msp, .int Mfo, .ref oM.2.2.2.2.2.2.2, .int Mrs, .int Mlt, .int Mfi, .int Mse])), (oM.2.2.2.1, .inl (c3.1, 600, .inl Mpa)), (oM.2.2.2.2.1, .inl (c3.1, 150, .inl Mke)), (oM.2.2.2.2.2.1, .inl (c3.1, 60, .inl Mpp)), (oM.2.2.2.2.2.2.1, .inl (c3.2.2, 10, .inl Mso)), (oM.2.2.2.2.2.2.2, .inl (c3.1, 84, .inl Mrd))]) rfl (by decide) (by decide) (ws2 := (zwM c3.1 c3.2.2 oM (Ms, r5, Mpa, Mkn, Mke, Mik, Mpp, Mle, Mso, Mfz, Msp, Mfo, Mrd, Mrs, Mlt, Mfi, Mse))) rfl (by decide) (fun H locs hC => ?_)
      refine lv_aload_n hx hb dX6_ifHit_32 rfl (lv_at hl 0 rfl) ?_
      refine lv_iload_n hx hb dX6_ifHit_33 rfl (lv_at hl 1 rfl) ?_
      refine lv_iload_n hx hb dX6_ifHit_34 rfl (lv_at hl 2 rfl) ?_
      obtain ⟨r6, hr6, hf⟩ := z_bind hf
      refine z_calli (z_runV (n := 2) (rest := []) (As := [.int p1, .int p2]) S0 hC (c_X6_goHit l G c3 oM (Ms, r5, Mpa, Mkn, Mke, Mik, Mpp, Mle, Mso, Mfz, Msp, Mfo, Mrd, Mrs, Mlt, Mfi, Mse) p1 p2 hr6) [0, 1, 2, 3, 4, 5, 6, 7] (by decide) rfl gX6_ifHit_X6_goHit rfl rfl rfl (by decide +kernel) ⟨Nat.le_of_ble_eq_true rfl, Nat.le_of_ble_eq_true rfl⟩ (ci := 6) (q0 := 0) rfl rfl rfl hl.1 rfl (Nat.le_of_ble_eq_true rfl) dX6_ifHit_35) hC [0, 1, 2, 3, 4, 5, 6, 7] [] [0, 1, 2, 3, 4, 5, 6, 7] rfl (wr := ([] : va_W)) rfl (by decide) (by decide) (ws2 := (zwM c3.1 c3.2.2 oM (r6.2.1, r5, Mpa, Mkn, Mke, Mik, Mpp, Mle, r6.2.2.1, r6.2.2.2, Msp, Mfo, Mrd, Mrs, Mlt, Mfi, Mse))) rfl (by decide) (fun H locs hC => ?_)
      refine lv_istore (lv' := [(4, .int r6.1), (0, .ref oM.1), (1, .int p1), (2, .int p2), (3, .int p3)]) hx hb dX6_ifHit_38 hl (by decide) rfl (fun ls hl => ?_)
      refine lv_iload_n hx hb dX6_ifHit_40 rfl (lv_at hl 4 rfl) ?_
      obtain ⟨t8, ht8, hf⟩ := z_bind hf
      have Jt8 : ∀ (H : Heap) (locs : List Loc) (ls : Array Slot), zC G c3 A s (zwM c3.1 c3.2.2 oM (r6.2.1, r5, Mpa, Mkn, Mke, Mik, Mpp, Mle, r6.2.2.1, r6.2.2.2, Msp, Mfo, Mrd, Mrs, Mlt, Mfi, Mse)) H locs → lv_has ls 6 [(0, .ref oM.1), (1, .int p1), (2, .int p2), (3, .int p3), (4, .int r6.1)] → W p l e ⟨5, 0, 0, 120⟩ s m args below meth c H locs 0 0 (MQ below (zPost G (zwM c3.1 c3.2.2 oM (Ms', Mas', Mpa, Mkn, Mke, Mik, Mpp, Mle, Mso', Mfz', Msp, Mfo, Mrd, Mrs, Mlt, Mfi, Mse)) (some (.int r)) A) args s 0 0 A) (F0 m 113 ls [.int t8]) := by
        intro H locs ls hC hl
        refine lv_istore (lv' := [(5, .int t8), (0, .ref oM.1), (1, .int p1), (2, .int p2), (3, .int p3), (4, .int r6.1)]) hx hb dX6_ifHit_113 hl (by decide) rfl (fun ls hl => ?_)
        refine lv_aload_n hx hb dX6_ifHit_115 rfl (lv_at hl 1 rfl) ?_
        refine z_get S0 hC (ci := 6) (C := RX6) (T := TX6) (N := 17) (v := .ref oM.2.2.1) jX6_ifHit_X6 0 rfl rfl 1 (by decide) kX6_ifHit_13 rfl rfl dX6_ifHit_116 ?_
        refine lv_iconst (v := 0) hx hb dX6_ifHit_119 (by decide) ?_
        refine lv_aload_n hx hb dX6_ifHit_120 rfl (lv_at hl 1 rfl) ?_
        refine z_get S0 hC (ci := 6) (C := RX6) (T := TX6) (N := 17) (v := .ref oM.2.1) jX6_ifHit_X6 0 rfl rfl 0 (by decide) kX6_ifHit_7 rfl rfl dX6_ifHit_121 ?_
        refine lv_iconst (v := 0) hx hb dX6_ifHit_124 (by decide) ?_
        obtain ⟨r9, hr9, hf⟩ := z_bind hf
        refine z_callv (z_runS (n := 4) (rest := []) (As := [.ref oM.2.2.1, .int 0, .ref oM.2.1, .int 0]) S0 hC (c_X6_copies l G c3 oM.2.2.1 150 r5 oM.2.1 150 r6.2.1 0 0 hr9) [2, 1] (by decide) rfl gX6_ifHit_X6_copies rfl rfl rfl (by decide +kernel) ⟨Nat.le_of_ble_eq_true rfl, Nat.le_of_ble_eq_true rfl⟩ rfl hl.1 rfl (Nat.le_of_ble_eq_true rfl) dX6_ifHit_125) hC [2, 1] [0, 3, 4, 5, 6, 7] [0, 7, 6, 1, 2, 3, 4, 5] rfl (wr := [(oM.1, .inr (6, [.ref oM.2.1, .ref oM.2.2.1, .ref oM.2.2.2.1, .int Mkn, .ref oM.2.2.2.2.1, .int Mik, .ref oM.2.2.2.2.2.1, .int Mle, .ref oM.2.2.2.2.2.2.1, .int r6.2.2.2, .int Msp, .int Mfo, .ref oM.2.2.2.2.2.2.2, .int Mrs, .int Mlt, .int Mfi, .int Mse])), (oM.2.2.2.1, .inl (c3.1, 600, .inl Mpa)), (oM.2.2.2.2.1, .inl (c3.1, 150, .inl Mke)), (oM.2.2.2.2.2.1, .inl (c3.1, 60, .inl Mpp)), (oM.2.2.2.2.2.2.1, .inl (c3.2.2, 10, .inl r6.2.2.1)), (oM.2.2.2.2.2.2.2, .inl (c3.1, 84, .inl Mrd))]) rfl (by decide) (by decide) (ws2 := (zwM c3.1 c3.2.2 oM (r9, r5, Mpa, Mkn, Mke, Mik, Mpp, Mle, r6.2.2.1, r6.2.2.2, Msp, Mfo, Mrd, Mrs, Mlt, Mfi, Mse))) rfl (by decide) (fun H locs hC => ?_)
        refine lv_iload hx hb dX6_ifHit_128 (lv_at hl 0 rfl) ?_
        obtain ⟨e1, e2, e3, e4, e5⟩ := z_s5 hf
        subst e1
        subst e2
        subst e3
        subst e4
        subst e5
        exact z_iret S0 hr hlk hC dX6_ifHit_130
      refine lv_if_ne (tgt := 49) hx hb dX6_ifHit_41 (by decide) (fun cd7 => ?_) (fun cd7 => ?_)
      · replace ht8 := z_neg cd7 ht8
        refine lv_iload_n hx hb dX6_ifHit_49 rfl (lv_at hl 4 rfl) ?_
        refine lv_iconst (v := 1) hx hb dX6_ifHit_50 (by decide) ?_
        refine lv_icmp_ne (tgt := 72) hx hb dX6_ifHit_51 (by decide) (fun cd10 => ?_) (fun cd10 => ?_)
        · replace ht8 := z_neg cd10 ht8
          refine lv_iload_n hx hb dX6_ifHit_72 rfl (lv_at hl 4 rfl) ?_
          refine lv_iconst (v := 2) hx hb dX6_ifHit_73 (by decide) ?_
          refine lv_icmp_ne (tgt := 95) hx hb dX6_ifHit_74 (by decide) (fun cd11 => ?_) (fun cd11 => ?_)
          · replace ht8 := z_neg cd11 ht8
            refine lv_iload_n hx hb dX6_ifHit_95 rfl (lv_at hl 4 rfl) ?_
            refine lv_iconst (v := 3) hx hb dX6_ifHit_96 (by decide) ?_
            refine lv_icmp_ne (tgt := 107) hx hb dX6_ifHit_97 (by decide) (fun cd12 => ?_) (fun cd12 => ?_)
            · replace ht8 := z_neg cd12 ht8
              refine lv_aload_n hx hb dX6_ifHit_107 rfl (lv_at hl 1 rfl) ?_
              refine z_get S0 hC (ci := 6) (C := RX6) (T := TX6) (N := 17) (v := .ref oM.2.1) jX6_ifHit_X6 0 rfl rfl 0 (by decide) kX6_ifHit_7 rfl rfl dX6_ifHit_108 ?_
              refine lv_iconst (v := 1) hx hb dX6_ifHit_111 (by decide) ?_
              obtain ⟨x13, hx13, ht8⟩ := z_bind ht8
              refine z_iald S0 hC 1 rfl hx13 dX6_ifHit_112 ?_
              have e1 := z_s1 ht8
              subst e1
              exact Jt8 H locs ls hC (lv_sub hl [1, 2, 3, 4, 0] rfl)
            · replace ht8 := z_pos cd12 ht8
              refine lv_aload_n hx hb dX6_ifHit_100 rfl (lv_at hl 1 rfl) ?_
              refine z_get S0 hC (ci := 6) (C := RX6) (T := TX6) (N := 17) (v := .int r6.2.2.2) jX6_ifHit_X6 0 rfl rfl 9 (by decide) kX6_ifHit_76 rfl rfl dX6_ifHit_101 ?_
              refine lv_goto (tgt := 113) hx hb dX6_ifHit_104 (by decide) ?_
              have e1 := z_s1 ht8
              subst e1
              exact Jt8 H locs ls hC (lv_sub hl [1, 2, 3, 4, 0] rfl)
          · replace ht8 := z_pos cd11 ht8
            refine lv_aload_n hx hb dX6_ifHit_77 rfl (lv_at hl 1 rfl) ?_
            refine z_get S0 hC (ci := 6) (C := RX6) (T := TX6) (N := 17) (v := .ref oM.2.1) jX6_ifHit_X6 0 rfl rfl 0 (by decide) kX6_ifHit_7 rfl rfl dX6_ifHit_78 ?_
            refine lv_bipush (v := 7) hx hb dX6_ifHit_81 (by decide) ?_
            obtain ⟨x14, hx14, ht8⟩ := z_bind ht8
            refine z_iald S0 hC 1 rfl hx14 dX6_ifHit_83 ?_
            refine lv_aload_n hx hb dX6_ifHit_84 rfl (lv_at hl 1 rfl) ?_
            refine z_get S0 hC (ci := 6) (C := RX6) (T := TX6) (N := 17) (v := .ref oM.2.2.1) jX6_ifHit_X6 0 rfl rfl 1 (by decide) kX6_ifHit_13 rfl rfl dX6_ifHit_85 ?_
            refine lv_bipush (v := 7) hx hb dX6_ifHit_88 (by decide) ?_
            obtain ⟨x15, hx15, ht8⟩ := z_bind ht8
            refine z_iald S0 hC 2 rfl hx15 dX6_ifHit_90 ?_
            refine lv_isub hx hb dX6_ifHit_91 ?_
            refine lv_goto (tgt := 113) hx hb dX6_ifHit_92 (by decide) ?_
            have e1 := z_s1 ht8
            subst e1
            exact Jt8 H locs ls hC (lv_sub hl [1, 2, 3, 4, 0] rfl)
        · replace ht8 := z_pos cd10 ht8
          refine lv_aload_n hx hb dX6_ifHit_54 rfl (lv_at hl 1 rfl) ?_
          refine z_get S0 hC (ci := 6) (C := RX6) (T := TX6) (N := 17) (v := .ref oM.2.1) jX6_ifHit_X6 0 rfl rfl 0 (by decide) kX6_ifHit_7 rfl rfl dX6_ifHit_55 ?_
          refine lv_bipush (v := 6) hx hb dX6_ifHit_58 (by decide) ?_
          obtain ⟨x16, hx16, ht8⟩ := z_bind ht8
          refine z_iald S0 hC 1 rfl hx16 dX6_ifHit_60 ?_
          refine lv_aload_n hx hb dX6_ifHit_61 rfl (lv_at hl 1 rfl) ?_
          refine z_get S0 hC (ci := 6) (C := RX6) (T := TX6) (N := 17) (v := .ref oM.2.2.1) jX6_ifHit_X6 0 rfl rfl 1 (by decide) kX6_ifHit_13 rfl rfl dX6_ifHit_62 ?_
          refine lv_bipush (v := 6) hx hb dX6_ifHit_65 (by decide) ?_
          obtain ⟨x17, hx17, ht8⟩ := z_bind ht8
          refine z_iald S0 hC 2 rfl hx17 dX6_ifHit_67 ?_
          refine lv_isub hx hb dX6_ifHit_68 ?_
          refine lv_goto (tgt := 113) hx hb dX6_ifHit_69 (by decide) ?_
          have e1 := z_s1 ht8
          subst e1
          exact Jt8 H locs ls hC (lv_sub hl [1, 2, 3, 4, 0] rfl)
      · replace ht8 := z_pos cd7 ht8
        refine lv_iload hx hb dX6_ifHit_44 (lv_at hl 0 rfl) ?_
        refine lv_goto (tgt := 113) hx hb dX6_ifHit_46 (by decide) ?_
        have e1 := z_s1 ht8
        subst e1
        exact Jt8 H locs ls hC (lv_sub hl [1, 2, 3, 4, 0] rfl)
    · replace hf := z_pos cd4 hf
      refine lv_iconst (v := (-1)) hx hb dX6_ifHit_17 (by decide) ?_
      obtain ⟨e1, e2, e3, e4, e5⟩ := z_s5 hf
      subst e1
      subst e2
      subst e3
      subst e4
      subst e5
      exact z_iret S0 hr hlk hC dX6_ifHit_18

-- X6 silentIn
def f_X6_silentIn_15  : Nat → Int32 → (Nat → Int32) → Option (Int32 × (Nat → Int32))
  | 0, _, _ => none
  | fu + 1, y1, Ms =>
    (zald 150 Ms 1).bind fun x3 => if x3 ≤ 0 then
      some (y1, Ms)
    else
      (f_X6_tick Ms).bind fun r5 => f_X6_silentIn_15 fu (y1 + 1) r5.2

theorem f_X6_silentIn_15_s (y1 : Int32) (Ms : (Nat → Int32)) (fu : Nat) : f_X6_silentIn_15 (fu + 1) y1 Ms = (
    (zald 150 Ms 1).bind fun x3 => if x3 ≤ 0 then
      some (y1, Ms)
    else
      (f_X6_tick Ms).bind fun r5 => f_X6_silentIn_15 fu (y1 + 1) r5.2
    ) := rfl

def f_X6_silentIn (Ms : (Nat → Int32)) (Mas : (Nat → Int32)) : Option (Int32 × (Nat → Int32) × (Nat → Int32)) :=
  (f_X6_copies 150 150 Ms Mas 0 0).bind fun r1 => (f_X6_silentIn_15 zF 0 Ms).bind fun t6 =>
    (f_X6_copies 150 150 r1 t6.2 0 0).bind fun r7 => some (t6.1, r7, r1)

theorem kX6_silentIn_7 : Cond.fieldLink RX6 7 "ZoneSamplerModel" "s" "[I" ∈ wsX6_silentIn := by decide +kernel
theorem kX6_silentIn_13 : Cond.fieldLink RX6 13 "ZoneSamplerModel" "aside" "[I" ∈ wsX6_silentIn := by decide +kernel
theorem jX6_silentIn_X6 : ∀ w ∈ u_ws RX6 TX6 17, w ∈ wsX6_silentIn := by decide +kernel
set_option maxHeartbeats 4000000 in
set_option maxRecDepth 100000 in
theorem c_X6_silentIn (l : Launch) (G : va_G) (c3 : zT3) (oM : zR8) (BM : zMd) {r : Int32} {Ms' : (Nat → Int32)} {Mas' : (Nat → Int32)} (hf : f_X6_silentIn BM.1 BM.2.1 = some (r, Ms', Mas')) : zM l yX6_silentIn wsX6_silentIn ⟨2, 0, 0, 45⟩ G c3 (zwM c3.1 c3.2.2 oM (BM.1, BM.2.1, BM.2.2.1, BM.2.2.2.1, BM.2.2.2.2.1, BM.2.2.2.2.2.1, BM.2.2.2.2.2.2.1, BM.2.2.2.2.2.2.2.1, BM.2.2.2.2.2.2.2.2.1, BM.2.2.2.2.2.2.2.2.2.1, BM.2.2.2.2.2.2.2.2.2.2.1, BM.2.2.2.2.2.2.2.2.2.2.2.1, BM.2.2.2.2.2.2.2.2.2.2.2.2.1, BM.2.2.2.2.2.2.2.2.2.2.2.2.2.1, BM.2.2.2.2.2.2.2.2.2.2.2.2.2.2.1, BM.2.2.2.2.2.2.2.2.2.2.2.2.2.2.2.1, BM.2.2.2.2.2.2.2.2.2.2.2.2.2.2.2.2)) [.ref oM.1] (some (.int r)) (zwM c3.1 c3.2.2 oM (Ms', Mas', BM.2.2.1, BM.2.2.2.1, BM.2.2.2.2.1, BM.2.2.2.2.2.1, BM.2.2.2.2.2.2.1, BM.2.2.2.2.2.2.2.1, BM.2.2.2.2.2.2.2.2.1, BM.2.2.2.2.2.2.2.2.2.1, BM.2.2.2.2.2.2.2.2.2.2.1, BM.2.2.2.2.2.2.2.2.2.2.2.1, BM.2.2.2.2.2.2.2.2.2.2.2.2.1, BM.2.2.2.2.2.2.2.2.2.2.2.2.2.1, BM.2.2.2.2.2.2.2.2.2.2.2.2.2.2.1, BM.2.2.2.2.2.2.2.2.2.2.2.2.2.2.2.1, BM.2.2.2.2.2.2.2.2.2.2.2.2.2.2.2.2)) := by
  obtain ⟨Ms, Mas, Mpa, Mkn, Mke, Mik, Mpp, Mle, Mso, Mfz, Msp, Mfo, Mrd, Mrs, Mlt, Mfi, Mse⟩ := BM
  have hf : f_X6_silentIn Ms Mas = some (r, Ms', Mas') := hf
  show zM l yX6_silentIn wsX6_silentIn ⟨2, 0, 0, 45⟩ G c3 (zwM c3.1 c3.2.2 oM (Ms, Mas, Mpa, Mkn, Mke, Mik, Mpp, Mle, Mso, Mfz, Msp, Mfo, Mrd, Mrs, Mlt, Mfi, Mse)) [.ref oM.1] (some (.int r)) (zwM c3.1 c3.2.2 oM (Ms', Mas', Mpa, Mkn, Mke, Mik, Mpp, Mle, Mso, Mfz, Msp, Mfo, Mrd, Mrs, Mlt, Mfi, Mse))
  refine zM.of (cc := cX6_silentIn) (maxL := 3) (ret := (some .int)) (by decide) rfl (Nat.le_of_ble_eq_true rfl) ?_
  intro p e s m args below meth c A ls S0 hr hlk hC hl
  have S0 : CallFix p m c cX6_silentIn 3 s args wsX6_silentIn RX6 := S0
  have hl : lv_has ls 3 [(0, .ref oM.1)] := hl
  have hx := S0.1
  have hb := S0.2.1
  obtain ⟨H, hH⟩ : ∃ y, y = s.heap := ⟨_, rfl⟩
  rw [← hH] at hC ⊢
  obtain ⟨locs, hlo⟩ : ∃ y : List Loc, y = [] := ⟨_, rfl⟩
  rw [← hlo] at hC ⊢
  clear hH hlo
  unfold f_X6_silentIn at hf
  refine lv_aload_n hx hb dX6_silentIn_0 rfl (lv_at hl 0 rfl) ?_
  refine z_get S0 hC (ci := 6) (C := RX6) (T := TX6) (N := 17) (v := .ref oM.2.1) jX6_silentIn_X6 0 rfl rfl 0 (by decide) kX6_silentIn_7 rfl rfl dX6_silentIn_1 ?_
  refine lv_iconst (v := 0) hx hb dX6_silentIn_4 (by decide) ?_
  refine lv_aload_n hx hb dX6_silentIn_5 rfl (lv_at hl 0 rfl) ?_
  refine z_get S0 hC (ci := 6) (C := RX6) (T := TX6) (N := 17) (v := .ref oM.2.2.1) jX6_silentIn_X6 0 rfl rfl 1 (by decide) kX6_silentIn_13 rfl rfl dX6_silentIn_6 ?_
  refine lv_iconst (v := 0) hx hb dX6_silentIn_9 (by decide) ?_
  obtain ⟨r1, hr1, hf⟩ := z_bind hf
  refine z_callv (z_runS (n := 4) (rest := []) (As := [.ref oM.2.1, .int 0, .ref oM.2.2.1, .int 0]) S0 hC (c_X6_copies l G c3 oM.2.1 150 Ms oM.2.2.1 150 Mas 0 0 hr1) [1, 2] (by decide) rfl gX6_silentIn_X6_copies rfl rfl rfl (by decide +kernel) ⟨Nat.le_of_ble_eq_true rfl, Nat.le_of_ble_eq_true rfl⟩ rfl hl.1 rfl (Nat.le_of_ble_eq_true rfl) dX6_silentIn_10) hC [1, 2] [0, 3, 4, 5, 6, 7] [0, 6, 7, 1, 2, 3, 4, 5] rfl (wr := [(oM.1, .inr (6, [.ref oM.2.1, .ref oM.2.2.1, .ref oM.2.2.2.1, .int Mkn, .ref oM.2.2.2.2.1, .int Mik, .ref oM.2.2.2.2.2.1, .int Mle, .ref oM.2.2.2.2.2.2.1, .int Mfz, .int Msp, .int Mfo, .ref oM.2.2.2.2.2.2.2, .int Mrs, .int Mlt, .int Mfi, .int Mse])), (oM.2.2.2.1, .inl (c3.1, 600, .inl Mpa)), (oM.2.2.2.2.1, .inl (c3.1, 150, .inl Mke)), (oM.2.2.2.2.2.1, .inl (c3.1, 60, .inl Mpp)), (oM.2.2.2.2.2.2.1, .inl (c3.2.2, 10, .inl Mso)), (oM.2.2.2.2.2.2.2, .inl (c3.1, 84, .inl Mrd))]) rfl (by decide) (by decide) (ws2 := (zwM c3.1 c3.2.2 oM (Ms, r1, Mpa, Mkn, Mke, Mik, Mpp, Mle, Mso, Mfz, Msp, Mfo, Mrd, Mrs, Mlt, Mfi, Mse))) rfl (by decide) (fun H locs hC => ?_)
  refine lv_iconst (v := 0) hx hb dX6_silentIn_13 (by decide) ?_
  refine lv_istore_n (lv' := [(1, .int 0), (0, .ref oM.1)]) hx hb dX6_silentIn_14 rfl hl (by decide) rfl (fun ls hl => ?_)
  have L15 : ∀ (fu : Nat) (y1 : Int32) (Ms : (Nat → Int32)) (Mas : (Nat → Int32)) (Mpa : (Nat → Int32)) (Mkn : Int32) (Mke : (Nat → Int32)) (Mik : Int32) (Mpp : (Nat → Int32)) (Mle : Int32) (Mso : (Nat → Int32)) (Mfz : Int32) (Msp : Int32) (Mfo : Int32) (Mrd : (Nat → Int32)) (Mrs : Int32) (Mlt : Int32) (Mfi : Int32) (Mse : Int32) (tt : Int32 × (Nat → Int32)), f_X6_silentIn_15 fu y1 Ms = some tt → ∀ (H : Heap) (locs : List Loc) (ls : Array Slot), zC G c3 A s (zwM c3.1 c3.2.2 oM (Ms, Mas, Mpa, Mkn, Mke, Mik, Mpp, Mle, Mso, Mfz, Msp, Mfo, Mrd, Mrs, Mlt, Mfi, Mse)) H locs → lv_has ls 3 [(0, .ref oM.1), (1, .int y1)] → (∀ (H : Heap) (locs : List Loc) (ls : Array Slot), zC G c3 A s (zwM c3.1 c3.2.2 oM (tt.2, Mas, Mpa, Mkn, Mke, Mik, Mpp, Mle, Mso, Mfz, Msp, Mfo, Mrd, Mrs, Mlt, Mfi, Mse)) H locs → lv_has ls 3 [(0, .ref oM.1), (1, .int tt.1)] → W p l e ⟨2, 0, 0, 45⟩ s m args below meth c H locs 0 0 (MQ below (zPost G (zwM c3.1 c3.2.2 oM (Ms', Mas', Mpa, Mkn, Mke, Mik, Mpp, Mle, Mso, Mfz, Msp, Mfo, Mrd, Mrs, Mlt, Mfi, Mse)) (some (.int r)) A) args s 0 0 A) (F0 m 35 ls [])) → W p l e ⟨2, 0, 0, 45⟩ s m args below meth c H locs 0 0 (MQ below (zPost G (zwM c3.1 c3.2.2 oM (Ms', Mas', Mpa, Mkn, Mke, Mik, Mpp, Mle, Mso, Mfz, Msp, Mfo, Mrd, Mrs, Mlt, Mfi, Mse)) (some (.int r)) A) args s 0 0 A) (F0 m 15 ls []) := by
    intro fu
    induction fu with
    | zero =>
      intro y1 Ms Mas Mpa Mkn Mke Mik Mpp Mle Mso Mfz Msp Mfo Mrd Mrs Mlt Mfi Mse tt hf H locs ls hC hl hK
      exact (z_none hf).elim
    | succ fu ih15 =>
      intro y1 Ms Mas Mpa Mkn Mke Mik Mpp Mle Mso Mfz Msp Mfo Mrd Mrs Mlt Mfi Mse tt hf H locs ls hC hl hK
      replace hf := (f_X6_silentIn_15_s y1 Ms fu).symm.trans hf
      refine lv_aload_n hx hb dX6_silentIn_15 rfl (lv_at hl 0 rfl) ?_
      refine z_get S0 hC (ci := 6) (C := RX6) (T := TX6) (N := 17) (v := .ref oM.2.1) jX6_silentIn_X6 0 rfl rfl 0 (by decide) kX6_silentIn_7 rfl rfl dX6_silentIn_16 ?_
      refine lv_iconst (v := 1) hx hb dX6_silentIn_19 (by decide) ?_
      obtain ⟨x3, hx3, hf⟩ := z_bind hf
      refine z_iald S0 hC 1 rfl hx3 dX6_silentIn_20 ?_
      refine lv_if_le (tgt := 35) hx hb dX6_silentIn_21 (by decide) (fun cd4 => ?_) (fun cd4 => ?_)
      · replace hf := z_pos cd4 hf
        have e1 := z_s1 hf
        subst e1
        exact hK H locs ls hC (lv_sub hl [0, 1] rfl)
      · replace hf := z_neg cd4 hf
        refine lv_aload_n hx hb dX6_silentIn_24 rfl (lv_at hl 0 rfl) ?_
        obtain ⟨r5, hr5, hf⟩ := z_bind hf
        refine z_calli (z_runV (n := 0) (rest := []) (As := []) S0 hC (c_X6_tick l G c3 oM (Ms, Mas, Mpa, Mkn, Mke, Mik, Mpp, Mle, Mso, Mfz, Msp, Mfo, Mrd, Mrs, Mlt, Mfi, Mse) hr5) [0, 1, 2, 3, 4, 5, 6, 7] (by decide) rfl gX6_silentIn_X6_tick rfl rfl rfl (by decide +kernel) ⟨Nat.le_of_ble_eq_true rfl, Nat.le_of_ble_eq_true rfl⟩ (ci := 6) (q0 := 0) rfl rfl rfl hl.1 rfl (Nat.le_of_ble_eq_true rfl) dX6_silentIn_25) hC [0, 1, 2, 3, 4, 5, 6, 7] [] [0, 1, 2, 3, 4, 5, 6, 7] rfl (wr := ([] : va_W)) rfl (by decide) (by decide) (ws2 := (zwM c3.1 c3.2.2 oM (r5.2, Mas, Mpa, Mkn, Mke, Mik, Mpp, Mle, Mso, Mfz, Msp, Mfo, Mrd, Mrs, Mlt, Mfi, Mse))) rfl (by decide) (fun H locs hC => ?_)
        refine lv_istore_n (lv' := [(2, .int r5.1), (0, .ref oM.1), (1, .int y1)]) hx hb dX6_silentIn_28 rfl hl (by decide) rfl (fun ls hl => ?_)
        refine lv_iinc (v := (y1 + 1)) (lv' := [(1, .int (y1 + 1)), (2, .int r5.1), (0, .ref oM.1)]) hx hb dX6_silentIn_29 hl (k := 2) rfl rfl (by decide) rfl (fun ls hl => ?_)
        refine lv_goto (tgt := 15) hx hb dX6_silentIn_32 (by decide) ?_
        exact ih15 (y1 + 1) r5.2 Mas Mpa Mkn Mke Mik Mpp Mle Mso Mfz Msp Mfo Mrd Mrs Mlt Mfi Mse _ hf H locs ls hC (lv_sub hl [2, 0] rfl) hK
  obtain ⟨t6, ht6, hf⟩ := z_bind hf
  refine L15 zF 0 Ms r1 Mpa Mkn Mke Mik Mpp Mle Mso Mfz Msp Mfo Mrd Mrs Mlt Mfi Mse t6 ht6 H locs ls hC (lv_sub hl [1, 0] rfl) (fun H locs ls hC hl => ?_)
  refine lv_aload_n hx hb dX6_silentIn_35 rfl (lv_at hl 0 rfl) ?_
  refine z_get S0 hC (ci := 6) (C := RX6) (T := TX6) (N := 17) (v := .ref oM.2.2.1) jX6_silentIn_X6 0 rfl rfl 1 (by decide) kX6_silentIn_13 rfl rfl dX6_silentIn_36 ?_
  refine lv_iconst (v := 0) hx hb dX6_silentIn_39 (by decide) ?_
  refine lv_aload_n hx hb dX6_silentIn_40 rfl (lv_at hl 0 rfl) ?_
  refine z_get S0 hC (ci := 6) (C := RX6) (T := TX6) (N := 17) (v := .ref oM.2.1) jX6_silentIn_X6 0 rfl rfl 0 (by decide) kX6_silentIn_7 rfl rfl dX6_silentIn_41 ?_
  refine lv_iconst (v := 0) hx hb dX6_silentIn_44 (by decide) ?_
  obtain ⟨r7, hr7, hf⟩ := z_bind hf
  refine z_callv (z_runS (n := 4) (rest := []) (As := [.ref oM.2.2.1, .int 0, .ref oM.2.1, .int 0]) S0 hC (c_X6_copies l G c3 oM.2.2.1 150 r1 oM.2.1 150 t6.2 0 0 hr7) [2, 1] (by decide) rfl gX6_silentIn_X6_copies rfl rfl rfl (by decide +kernel) ⟨Nat.le_of_ble_eq_true rfl, Nat.le_of_ble_eq_true rfl⟩ rfl hl.1 rfl (Nat.le_of_ble_eq_true rfl) dX6_silentIn_45) hC [2, 1] [0, 3, 4, 5, 6, 7] [0, 7, 6, 1, 2, 3, 4, 5] rfl (wr := [(oM.1, .inr (6, [.ref oM.2.1, .ref oM.2.2.1, .ref oM.2.2.2.1, .int Mkn, .ref oM.2.2.2.2.1, .int Mik, .ref oM.2.2.2.2.2.1, .int Mle, .ref oM.2.2.2.2.2.2.1, .int Mfz, .int Msp, .int Mfo, .ref oM.2.2.2.2.2.2.2, .int Mrs, .int Mlt, .int Mfi, .int Mse])), (oM.2.2.2.1, .inl (c3.1, 600, .inl Mpa)), (oM.2.2.2.2.1, .inl (c3.1, 150, .inl Mke)), (oM.2.2.2.2.2.1, .inl (c3.1, 60, .inl Mpp)), (oM.2.2.2.2.2.2.1, .inl (c3.2.2, 10, .inl Mso)), (oM.2.2.2.2.2.2.2, .inl (c3.1, 84, .inl Mrd))]) rfl (by decide) (by decide) (ws2 := (zwM c3.1 c3.2.2 oM (r7, r1, Mpa, Mkn, Mke, Mik, Mpp, Mle, Mso, Mfz, Msp, Mfo, Mrd, Mrs, Mlt, Mfi, Mse))) rfl (by decide) (fun H locs hC => ?_)
  refine lv_iload_n hx hb dX6_silentIn_48 rfl (lv_at hl 1 rfl) ?_
  obtain ⟨e1, e2, e3⟩ := z_s3 hf
  subst e1
  subst e2
  subst e3
  exact z_iret S0 hr hlk hC dX6_silentIn_49

-- X6 chord
def f_X6_chord_50 (y1 : Int32) (y2 : Int32) (y3 : Int32) : Nat → Int32 → Int32 → (Nat → Int32) → (Nat → Int32) → Int32 → Option (Int32 × Int32 × (Nat → Int32) × (Nat → Int32) × Int32)
  | 0, _, _, _, _, _ => none
  | fu + 1, y4, y5, Ms, Mso, Mfz =>
    if 6 ≤ y5 then
      some (y4, y5, Ms, Mso, Mfz)
    else
      Option.bind (α := Int32 × (Nat → Int32) × (Nat → Int32) × Int32) (
        if ((y1 >>> (y5 &&& 31)) &&& 1) = 1 then
          (f_X6_goHit Ms Mso Mfz ((6 * y2) + y5) y3).bind fun r12 => some (r12.1, r12.2.1, r12.2.2.1, r12.2.2.2)
        else
          some (0, Ms, Mso, Mfz)
      ) fun t11 =>
        f_X6_chord_50 y1 y2 y3 fu (y4 + t11.1) (y5 + 1) t11.2.1 t11.2.2.1 t11.2.2.2

theorem f_X6_chord_50_s (y1 : Int32) (y2 : Int32) (y3 : Int32) (y4 : Int32) (y5 : Int32) (Ms : (Nat → Int32)) (Mso : (Nat → Int32)) (Mfz : Int32) (fu : Nat) : f_X6_chord_50 y1 y2 y3 (fu + 1) y4 y5 Ms Mso Mfz = (
    if 6 ≤ y5 then
      some (y4, y5, Ms, Mso, Mfz)
    else
      Option.bind (α := Int32 × (Nat → Int32) × (Nat → Int32) × Int32) (
        if ((y1 >>> (y5 &&& 31)) &&& 1) = 1 then
          (f_X6_goHit Ms Mso Mfz ((6 * y2) + y5) y3).bind fun r12 => some (r12.1, r12.2.1, r12.2.2.1, r12.2.2.2)
        else
          some (0, Ms, Mso, Mfz)
      ) fun t11 =>
        f_X6_chord_50 y1 y2 y3 fu (y4 + t11.1) (y5 + 1) t11.2.1 t11.2.2.1 t11.2.2.2
    ) := rfl

def f_X6_chord (Ms : (Nat → Int32)) (Mas : (Nat → Int32)) (Mso : (Nat → Int32)) (Mfz : Int32) (p1 : Int32) (p2 : Int32) (p3 : Int32) : Option (Int32 × (Nat → Int32) × (Nat → Int32) × (Nat → Int32) × Int32) :=
  (f_X6_in p1 1 63).bind fun r1 => if r1 = 0 then
    some ((-1), Ms, Mas, Mso, Mfz)
  else
    (f_X6_in p2 0 5).bind fun r3 => if r3 = 0 then
      some ((-1), Ms, Mas, Mso, Mfz)
    else
      (f_X6_in p3 1 9).bind fun r5 => if r5 = 0 then
        some ((-1), Ms, Mas, Mso, Mfz)
      else
        (f_X6_copies 150 150 Ms Mas 0 0).bind fun r7 => (f_X6_chord_50 p1 p2 p3 zF 0 0 Ms Mso Mfz).bind fun t13 =>
          (f_X6_copies 150 150 r7 t13.2.2.1 0 0).bind fun r14 => some (t13.1, r14, r7, t13.2.2.2.1, t13.2.2.2.2)

theorem kX6_chord_7 : Cond.fieldLink RX6 7 "ZoneSamplerModel" "s" "[I" ∈ wsX6_chord := by decide +kernel
theorem kX6_chord_13 : Cond.fieldLink RX6 13 "ZoneSamplerModel" "aside" "[I" ∈ wsX6_chord := by decide +kernel
theorem jX6_chord_X6 : ∀ w ∈ u_ws RX6 TX6 17, w ∈ wsX6_chord := by decide +kernel
set_option maxHeartbeats 4000000 in
set_option maxRecDepth 100000 in
theorem c_X6_chord (l : Launch) (G : va_G) (c3 : zT3) (oM : zR8) (BM : zMd) (p1 : Int32) (p2 : Int32) (p3 : Int32) {r : Int32} {Ms' : (Nat → Int32)} {Mas' : (Nat → Int32)} {Mso' : (Nat → Int32)} {Mfz' : Int32} (hf : f_X6_chord BM.1 BM.2.1 BM.2.2.2.2.2.2.2.2.1 BM.2.2.2.2.2.2.2.2.2.1 p1 p2 p3 = some (r, Ms', Mas', Mso', Mfz')) : zM l yX6_chord wsX6_chord ⟨5, 0, 0, 120⟩ G c3 (zwM c3.1 c3.2.2 oM (BM.1, BM.2.1, BM.2.2.1, BM.2.2.2.1, BM.2.2.2.2.1, BM.2.2.2.2.2.1, BM.2.2.2.2.2.2.1, BM.2.2.2.2.2.2.2.1, BM.2.2.2.2.2.2.2.2.1, BM.2.2.2.2.2.2.2.2.2.1, BM.2.2.2.2.2.2.2.2.2.2.1, BM.2.2.2.2.2.2.2.2.2.2.2.1, BM.2.2.2.2.2.2.2.2.2.2.2.2.1, BM.2.2.2.2.2.2.2.2.2.2.2.2.2.1, BM.2.2.2.2.2.2.2.2.2.2.2.2.2.2.1, BM.2.2.2.2.2.2.2.2.2.2.2.2.2.2.2.1, BM.2.2.2.2.2.2.2.2.2.2.2.2.2.2.2.2)) [.ref oM.1, .int p1, .int p2, .int p3] (some (.int r)) (zwM c3.1 c3.2.2 oM (Ms', Mas', BM.2.2.1, BM.2.2.2.1, BM.2.2.2.2.1, BM.2.2.2.2.2.1, BM.2.2.2.2.2.2.1, BM.2.2.2.2.2.2.2.1, Mso', Mfz', BM.2.2.2.2.2.2.2.2.2.2.1, BM.2.2.2.2.2.2.2.2.2.2.2.1, BM.2.2.2.2.2.2.2.2.2.2.2.2.1, BM.2.2.2.2.2.2.2.2.2.2.2.2.2.1, BM.2.2.2.2.2.2.2.2.2.2.2.2.2.2.1, BM.2.2.2.2.2.2.2.2.2.2.2.2.2.2.2.1, BM.2.2.2.2.2.2.2.2.2.2.2.2.2.2.2.2)) := by
  obtain ⟨Ms, Mas, Mpa, Mkn, Mke, Mik, Mpp, Mle, Mso, Mfz, Msp, Mfo, Mrd, Mrs, Mlt, Mfi, Mse⟩ := BM
  have hf : f_X6_chord Ms Mas Mso Mfz p1 p2 p3 = some (r, Ms', Mas', Mso', Mfz') := hf
  show zM l yX6_chord wsX6_chord ⟨5, 0, 0, 120⟩ G c3 (zwM c3.1 c3.2.2 oM (Ms, Mas, Mpa, Mkn, Mke, Mik, Mpp, Mle, Mso, Mfz, Msp, Mfo, Mrd, Mrs, Mlt, Mfi, Mse)) [.ref oM.1, .int p1, .int p2, .int p3] (some (.int r)) (zwM c3.1 c3.2.2 oM (Ms', Mas', Mpa, Mkn, Mke, Mik, Mpp, Mle, Mso', Mfz', Msp, Mfo, Mrd, Mrs, Mlt, Mfi, Mse))
  refine zM.of (cc := cX6_chord) (maxL := 6) (ret := (some .int)) (by decide) rfl (Nat.le_of_ble_eq_true rfl) ?_
  intro p e s m args below meth c A ls S0 hr hlk hC hl
  have S0 : CallFix p m c cX6_chord 6 s args wsX6_chord RX6 := S0
  have hl : lv_has ls 6 [(0, .ref oM.1), (1, .int p1), (2, .int p2), (3, .int p3)] := hl
  have hx := S0.1
  have hb := S0.2.1
  obtain ⟨H, hH⟩ : ∃ y, y = s.heap := ⟨_, rfl⟩
  rw [← hH] at hC ⊢
  obtain ⟨locs, hlo⟩ : ∃ y : List Loc, y = [] := ⟨_, rfl⟩
  rw [← hlo] at hC ⊢
  clear hH hlo
  unfold f_X6_chord at hf
  refine lv_iload_n hx hb dX6_chord_0 rfl (lv_at hl 1 rfl) ?_
  refine lv_iconst (v := 1) hx hb dX6_chord_1 (by decide) ?_
  refine lv_bipush (v := 63) hx hb dX6_chord_2 (by decide) ?_
  obtain ⟨r1, hr1, hf⟩ := z_bind hf
  refine z_callPi (z_runS (n := 3) (rest := []) (As := [.int p1, .int 1, .int 63]) S0 hC (c_X6_in l G c3 p1 1 63 hr1) [] (by decide) rfl gX6_chord_X6_in rfl rfl rfl (by decide +kernel) ⟨Nat.le_of_ble_eq_true rfl, Nat.le_of_ble_eq_true rfl⟩ rfl hl.1 rfl (Nat.le_of_ble_eq_true rfl) dX6_chord_4) hC [] rfl (fun H locs hC => ?_)
  refine lv_if_eq (tgt := 29) hx hb dX6_chord_7 (by decide) (fun cd2 => ?_) (fun cd2 => ?_)
  · replace hf := z_pos cd2 hf
    refine lv_iconst (v := (-1)) hx hb dX6_chord_29 (by decide) ?_
    obtain ⟨e1, e2, e3, e4, e5⟩ := z_s5 hf
    subst e1
    subst e2
    subst e3
    subst e4
    subst e5
    exact z_iret S0 hr hlk hC dX6_chord_30
  · replace hf := z_neg cd2 hf
    refine lv_iload_n hx hb dX6_chord_10 rfl (lv_at hl 2 rfl) ?_
    refine lv_iconst (v := 0) hx hb dX6_chord_11 (by decide) ?_
    refine lv_iconst (v := 5) hx hb dX6_chord_12 (by decide) ?_
    obtain ⟨r3, hr3, hf⟩ := z_bind hf
    refine z_callPi (z_runS (n := 3) (rest := []) (As := [.int p2, .int 0, .int 5]) S0 hC (c_X6_in l G c3 p2 0 5 hr3) [] (by decide) rfl gX6_chord_X6_in rfl rfl rfl (by decide +kernel) ⟨Nat.le_of_ble_eq_true rfl, Nat.le_of_ble_eq_true rfl⟩ rfl hl.1 rfl (Nat.le_of_ble_eq_true rfl) dX6_chord_13) hC [] rfl (fun H locs hC => ?_)
    refine lv_if_eq (tgt := 29) hx hb dX6_chord_16 (by decide) (fun cd4 => ?_) (fun cd4 => ?_)
    · replace hf := z_pos cd4 hf
      refine lv_iconst (v := (-1)) hx hb dX6_chord_29 (by decide) ?_
      obtain ⟨e1, e2, e3, e4, e5⟩ := z_s5 hf
      subst e1
      subst e2
      subst e3
      subst e4
      subst e5
      exact z_iret S0 hr hlk hC dX6_chord_30
    · replace hf := z_neg cd4 hf
      refine lv_iload_n hx hb dX6_chord_19 rfl (lv_at hl 3 rfl) ?_
      refine lv_iconst (v := 1) hx hb dX6_chord_20 (by decide) ?_
      refine lv_bipush (v := 9) hx hb dX6_chord_21 (by decide) ?_
      obtain ⟨r5, hr5, hf⟩ := z_bind hf
      refine z_callPi (z_runS (n := 3) (rest := []) (As := [.int p3, .int 1, .int 9]) S0 hC (c_X6_in l G c3 p3 1 9 hr5) [] (by decide) rfl gX6_chord_X6_in rfl rfl rfl (by decide +kernel) ⟨Nat.le_of_ble_eq_true rfl, Nat.le_of_ble_eq_true rfl⟩ rfl hl.1 rfl (Nat.le_of_ble_eq_true rfl) dX6_chord_23) hC [] rfl (fun H locs hC => ?_)
      refine lv_if_ne (tgt := 31) hx hb dX6_chord_26 (by decide) (fun cd6 => ?_) (fun cd6 => ?_)
      · replace hf := z_neg cd6 hf
        refine lv_aload_n hx hb dX6_chord_31 rfl (lv_at hl 0 rfl) ?_
        refine z_get S0 hC (ci := 6) (C := RX6) (T := TX6) (N := 17) (v := .ref oM.2.1) jX6_chord_X6 0 rfl rfl 0 (by decide) kX6_chord_7 rfl rfl dX6_chord_32 ?_
        refine lv_iconst (v := 0) hx hb dX6_chord_35 (by decide) ?_
        refine lv_aload_n hx hb dX6_chord_36 rfl (lv_at hl 0 rfl) ?_
        refine z_get S0 hC (ci := 6) (C := RX6) (T := TX6) (N := 17) (v := .ref oM.2.2.1) jX6_chord_X6 0 rfl rfl 1 (by decide) kX6_chord_13 rfl rfl dX6_chord_37 ?_
        refine lv_iconst (v := 0) hx hb dX6_chord_40 (by decide) ?_
        obtain ⟨r7, hr7, hf⟩ := z_bind hf
        refine z_callv (z_runS (n := 4) (rest := []) (As := [.ref oM.2.1, .int 0, .ref oM.2.2.1, .int 0]) S0 hC (c_X6_copies l G c3 oM.2.1 150 Ms oM.2.2.1 150 Mas 0 0 hr7) [1, 2] (by decide) rfl gX6_chord_X6_copies rfl rfl rfl (by decide +kernel) ⟨Nat.le_of_ble_eq_true rfl, Nat.le_of_ble_eq_true rfl⟩ rfl hl.1 rfl (Nat.le_of_ble_eq_true rfl) dX6_chord_41) hC [1, 2] [0, 3, 4, 5, 6, 7] [0, 6, 7, 1, 2, 3, 4, 5] rfl (wr := [(oM.1, .inr (6, [.ref oM.2.1, .ref oM.2.2.1, .ref oM.2.2.2.1, .int Mkn, .ref oM.2.2.2.2.1, .int Mik, .ref oM.2.2.2.2.2.1, .int Mle, .ref oM.2.2.2.2.2.2.1, .int Mfz, .int Msp, .int Mfo, .ref oM.2.2.2.2.2.2.2, .int Mrs, .int Mlt, .int Mfi, .int Mse])), (oM.2.2.2.1, .inl (c3.1, 600, .inl Mpa)), (oM.2.2.2.2.1, .inl (c3.1, 150, .inl Mke)), (oM.2.2.2.2.2.1, .inl (c3.1, 60, .inl Mpp)), (oM.2.2.2.2.2.2.1, .inl (c3.2.2, 10, .inl Mso)), (oM.2.2.2.2.2.2.2, .inl (c3.1, 84, .inl Mrd))]) rfl (by decide) (by decide) (ws2 := (zwM c3.1 c3.2.2 oM (Ms, r7, Mpa, Mkn, Mke, Mik, Mpp, Mle, Mso, Mfz, Msp, Mfo, Mrd, Mrs, Mlt, Mfi, Mse))) rfl (by decide) (fun H locs hC => ?_)
        refine lv_iconst (v := 0) hx hb dX6_chord_44 (by decide) ?_
        refine lv_istore (lv' := [(4, .int 0), (0, .ref oM.1), (1, .int p1), (2, .int p2), (3, .int p3)]) hx hb dX6_chord_45 hl (by decide) rfl (fun ls hl => ?_)
        refine lv_iconst (v := 0) hx hb dX6_chord_47 (by decide) ?_
        refine lv_istore (lv' := [(5, .int 0), (4, .int 0), (0, .ref oM.1), (1, .int p1), (2, .int p2), (3, .int p3)]) hx hb dX6_chord_48 hl (by decide) rfl (fun ls hl => ?_)
        have L50 : ∀ (fu : Nat) (y1 : Int32) (y2 : Int32) (y3 : Int32) (y4 : Int32) (y5 : Int32) (Ms : (Nat → Int32)) (Mas : (Nat → Int32)) (Mpa : (Nat → Int32)) (Mkn : Int32) (Mke : (Nat → Int32)) (Mik : Int32) (Mpp : (Nat → Int32)) (Mle : Int32) (Mso : (Nat → Int32)) (Mfz : Int32) (Msp : Int32) (Mfo : Int32) (Mrd : (Nat → Int32)) (Mrs : Int32) (Mlt : Int32) (Mfi : Int32) (Mse : Int32) (tt : Int32 × Int32 × (Nat → Int32) × (Nat → Int32) × Int32), f_X6_chord_50 y1 y2 y3 fu y4 y5 Ms Mso Mfz = some tt → ∀ (H : Heap) (locs : List Loc) (ls : Array Slot), zC G c3 A s (zwM c3.1 c3.2.2 oM (Ms, Mas, Mpa, Mkn, Mke, Mik, Mpp, Mle, Mso, Mfz, Msp, Mfo, Mrd, Mrs, Mlt, Mfi, Mse)) H locs → lv_has ls 6 [(0, .ref oM.1), (1, .int y1), (2, .int y2), (3, .int y3), (4, .int y4), (5, .int y5)] → (∀ (H : Heap) (locs : List Loc) (ls : Array Slot), zC G c3 A s (zwM c3.1 c3.2.2 oM (tt.2.2.1, Mas, Mpa, Mkn, Mke, Mik, Mpp, Mle, tt.2.2.2.1, tt.2.2.2.2, Msp, Mfo, Mrd, Mrs, Mlt, Mfi, Mse)) H locs → lv_has ls 6 [(0, .ref oM.1), (1, .int y1), (2, .int y2), (3, .int y3), (4, .int tt.1), (5, .int tt.2.1)] → W p l e ⟨5, 0, 0, 120⟩ s m args below meth c H locs 0 0 (MQ below (zPost G (zwM c3.1 c3.2.2 oM (Ms', Mas', Mpa, Mkn, Mke, Mik, Mpp, Mle, Mso', Mfz', Msp, Mfo, Mrd, Mrs, Mlt, Mfi, Mse)) (some (.int r)) A) args s 0 0 A) (F0 m 94 ls [])) → W p l e ⟨5, 0, 0, 120⟩ s m args below meth c H locs 0 0 (MQ below (zPost G (zwM c3.1 c3.2.2 oM (Ms', Mas', Mpa, Mkn, Mke, Mik, Mpp, Mle, Mso', Mfz', Msp, Mfo, Mrd, Mrs, Mlt, Mfi, Mse)) (some (.int r)) A) args s 0 0 A) (F0 m 50 ls []) := by
          intro fu
          induction fu with
          | zero =>
            intro y1 y2 y3 y4 y5 Ms Mas Mpa Mkn Mke Mik Mpp Mle Mso Mfz Msp Mfo Mrd Mrs Mlt Mfi Mse tt hf H locs ls hC hl hK
            exact (z_none hf).elim
          | succ fu ih50 =>
            intro y1 y2 y3 y4 y5 Ms Mas Mpa Mkn Mke Mik Mpp Mle Mso Mfz Msp Mfo Mrd Mrs Mlt Mfi Mse tt hf H locs ls hC hl hK
            replace hf := (f_X6_chord_50_s y1 y2 y3 y4 y5 Ms Mso Mfz fu).symm.trans hf
            refine lv_iload hx hb dX6_chord_50 (lv_at hl 5 rfl) ?_
            refine lv_bipush (v := 6) hx hb dX6_chord_52 (by decide) ?_
            refine lv_icmp_ge (tgt := 94) hx hb dX6_chord_54 (by decide) (fun cd9 => ?_) (fun cd9 => ?_)
            · replace hf := z_pos cd9 hf
              have e1 := z_s1 hf
              subst e1
              exact hK H locs ls hC (lv_sub hl [0, 1, 2, 3, 4, 5] rfl)
            · replace hf := z_neg cd9 hf
              refine lv_iload hx hb dX6_chord_57 (lv_at hl 4 rfl) ?_
              refine lv_iload_n hx hb dX6_chord_59 rfl (lv_at hl 1 rfl) ?_
              refine lv_iload hx hb dX6_chord_60 (lv_at hl 5 rfl) ?_
              refine lv_ishr hx hb dX6_chord_62 ?_
              refine lv_iconst (v := 1) hx hb dX6_chord_63 (by decide) ?_
              refine lv_iand hx hb dX6_chord_64 ?_
              refine lv_iconst (v := 1) hx hb dX6_chord_65 (by decide) ?_
              obtain ⟨t11, ht11, hf⟩ := z_bind hf
              have Jt11 : ∀ (H : Heap) (locs : List Loc) (ls : Array Slot), zC G c3 A s (zwM c3.1 c3.2.2 oM (t11.2.1, Mas, Mpa, Mkn, Mke, Mik, Mpp, Mle, t11.2.2.1, t11.2.2.2, Msp, Mfo, Mrd, Mrs, Mlt, Mfi, Mse)) H locs → lv_has ls 6 [(0, .ref oM.1), (1, .int y1), (2, .int y2), (3, .int y3), (4, .int y4), (5, .int y5)] → W p l e ⟨5, 0, 0, 120⟩ s m args below meth c H locs 0 0 (MQ below (zPost G (zwM c3.1 c3.2.2 oM (Ms', Mas', Mpa, Mkn, Mke, Mik, Mpp, Mle, Mso', Mfz', Msp, Mfo, Mrd, Mrs, Mlt, Mfi, Mse)) (some (.int r)) A) args s 0 0 A) (F0 m 85 ls [.int t11.1, .int y4]) := by
                intro H locs ls hC hl
                refine lv_iadd hx hb dX6_chord_85 ?_
                refine lv_istore (lv' := [(4, .int (y4 + t11.1)), (0, .ref oM.1), (1, .int y1), (2, .int y2), (3, .int y3), (5, .int y5)]) hx hb dX6_chord_86 hl (by decide) rfl (fun ls hl => ?_)
                refine lv_iinc (v := (y5 + 1)) (lv' := [(5, .int (y5 + 1)), (4, .int (y4 + t11.1)), (0, .ref oM.1), (1, .int y1), (2, .int y2), (3, .int y3)]) hx hb dX6_chord_88 hl (k := 5) rfl rfl (by decide) rfl (fun ls hl => ?_)
                refine lv_goto (tgt := 50) hx hb dX6_chord_91 (by decide) ?_
                exact ih50 y1 y2 y3 (y4 + t11.1) (y5 + 1) t11.2.1 Mas Mpa Mkn Mke Mik Mpp Mle t11.2.2.1 t11.2.2.2 Msp Mfo Mrd Mrs Mlt Mfi Mse _ hf H locs ls hC (lv_sub hl [2, 3, 4, 5, 1, 0] rfl) hK
              refine lv_icmp_ne (tgt := 84) hx hb dX6_chord_66 (by decide) (fun cd10 => ?_) (fun cd10 => ?_)
              · replace ht11 := z_neg cd10 ht11
                refine lv_iconst (v := 0) hx hb dX6_chord_84 (by decide) ?_
                have e1 := z_s1 ht11
                subst e1
                exact Jt11 H locs ls hC (lv_sub hl [0, 1, 2, 3, 4, 5] rfl)
              · replace ht11 := z_pos cd10 ht11
                refine lv_aload_n hx hb dX6_chord_69 rfl (lv_at hl 0 rfl) ?_
                refine lv_bipush (v := 6) hx hb dX6_chord_70 (by decide) ?_
                refine lv_iload_n hx hb dX6_chord_72 rfl (lv_at hl 2 rfl) ?_
                refine lv_imul hx hb dX6_chord_73 ?_
                refine lv_iload hx hb dX6_chord_74 (lv_at hl 5 rfl) ?_
                refine lv_iadd hx hb dX6_chord_76 ?_
                refine lv_iload_n hx hb dX6_chord_77 rfl (lv_at hl 3 rfl) ?_
                obtain ⟨r12, hr12, ht11⟩ := z_bind ht11
                refine z_calli (z_runV (n := 2) (rest := [.int y4]) (As := [.int ((6 * y2) + y5), .int y3]) S0 hC (c_X6_goHit l G c3 oM (Ms, Mas, Mpa, Mkn, Mke, Mik, Mpp, Mle, Mso, Mfz, Msp, Mfo, Mrd, Mrs, Mlt, Mfi, Mse) ((6 * y2) + y5) y3 hr12) [0, 1, 2, 3, 4, 5, 6, 7] (by decide) rfl gX6_chord_X6_goHit rfl rfl rfl (by decide +kernel) ⟨Nat.le_of_ble_eq_true rfl, Nat.le_of_ble_eq_true rfl⟩ (ci := 6) (q0 := 0) rfl rfl rfl hl.1 rfl (Nat.le_of_ble_eq_true rfl) dX6_chord_78) hC [0, 1, 2, 3, 4, 5, 6, 7] [] [0, 1, 2, 3, 4, 5, 6, 7] rfl (wr := ([] : va_W)) rfl (by decide) (by decide) (ws2 := (zwM c3.1 c3.2.2 oM (r12.2.1, Mas, Mpa, Mkn, Mke, Mik, Mpp, Mle, r12.2.2.1, r12.2.2.2, Msp, Mfo, Mrd, Mrs, Mlt, Mfi, Mse))) rfl (by decide) (fun H locs hC => ?_)
                refine lv_goto (tgt := 85) hx hb dX6_chord_81 (by decide) ?_
                have e1 := z_s1 ht11
                subst e1
                exact Jt11 H locs ls hC (lv_sub hl [0, 1, 2, 3, 4, 5] rfl)
        obtain ⟨t13, ht13, hf⟩ := z_bind hf
        refine L50 zF p1 p2 p3 0 0 Ms r7 Mpa Mkn Mke Mik Mpp Mle Mso Mfz Msp Mfo Mrd Mrs Mlt Mfi Mse t13 ht13 H locs ls hC (lv_sub hl [2, 3, 4, 5, 1, 0] rfl) (fun H locs ls hC hl => ?_)
        refine lv_aload_n hx hb dX6_chord_94 rfl (lv_at hl 0 rfl) ?_
        refine z_get S0 hC (ci := 6) (C := RX6) (T := TX6) (N := 17) (v := .ref oM.2.2.1) jX6_chord_X6 0 rfl rfl 1 (by decide) kX6_chord_13 rfl rfl dX6_chord_95 ?_
        refine lv_iconst (v := 0) hx hb dX6_chord_98 (by decide) ?_
        refine lv_aload_n hx hb dX6_chord_99 rfl (lv_at hl 0 rfl) ?_
        refine z_get S0 hC (ci := 6) (C := RX6) (T := TX6) (N := 17) (v := .ref oM.2.1) jX6_chord_X6 0 rfl rfl 0 (by decide) kX6_chord_7 rfl rfl dX6_chord_100 ?_
        refine lv_iconst (v := 0) hx hb dX6_chord_103 (by decide) ?_
        obtain ⟨r14, hr14, hf⟩ := z_bind hf
        refine z_callv (z_runS (n := 4) (rest := []) (As := [.ref oM.2.2.1, .int 0, .ref oM.2.1, .int 0]) S0 hC (c_X6_copies l G c3 oM.2.2.1 150 r7 oM.2.1 150 t13.2.2.1 0 0 hr14) [2, 1] (by decide) rfl gX6_chord_X6_copies rfl rfl rfl (by decide +kernel) ⟨Nat.le_of_ble_eq_true rfl, Nat.le_of_ble_eq_true rfl⟩ rfl hl.1 rfl (Nat.le_of_ble_eq_true rfl) dX6_chord_104) hC [2, 1] [0, 3, 4, 5, 6, 7] [0, 7, 6, 1, 2, 3, 4, 5] rfl (wr := [(oM.1, .inr (6, [.ref oM.2.1, .ref oM.2.2.1, .ref oM.2.2.2.1, .int Mkn, .ref oM.2.2.2.2.1, .int Mik, .ref oM.2.2.2.2.2.1, .int Mle, .ref oM.2.2.2.2.2.2.1, .int t13.2.2.2.2, .int Msp, .int Mfo, .ref oM.2.2.2.2.2.2.2, .int Mrs, .int Mlt, .int Mfi, .int Mse])), (oM.2.2.2.1, .inl (c3.1, 600, .inl Mpa)), (oM.2.2.2.2.1, .inl (c3.1, 150, .inl Mke)), (oM.2.2.2.2.2.1, .inl (c3.1, 60, .inl Mpp)), (oM.2.2.2.2.2.2.1, .inl (c3.2.2, 10, .inl t13.2.2.2.1)), (oM.2.2.2.2.2.2.2, .inl (c3.1, 84, .inl Mrd))]) rfl (by decide) (by decide) (ws2 := (zwM c3.1 c3.2.2 oM (r14, r7, Mpa, Mkn, Mke, Mik, Mpp, Mle, t13.2.2.2.1, t13.2.2.2.2, Msp, Mfo, Mrd, Mrs, Mlt, Mfi, Mse))) rfl (by decide) (fun H locs hC => ?_)
        refine lv_iload hx hb dX6_chord_107 (lv_at hl 4 rfl) ?_
        obtain ⟨e1, e2, e3, e4, e5⟩ := z_s5 hf
        subst e1
        subst e2
        subst e3
        subst e4
        subst e5
        exact z_iret S0 hr hlk hC dX6_chord_109
      · replace hf := z_pos cd6 hf
        refine lv_iconst (v := (-1)) hx hb dX6_chord_29 (by decide) ?_
        obtain ⟨e1, e2, e3, e4, e5⟩ := z_s5 hf
        subst e1
        subst e2
        subst e3
        subst e4
        subst e5
        exact z_iret S0 hr hlk hC dX6_chord_30

-- X6 undo
def f_X6_undo (Ms : (Nat → Int32)) (Mpa : (Nat → Int32)) (Mkn : Int32) : Option (Int32 × (Nat → Int32) × Int32) :=
  if Mkn = 0 then
    some ((-2), Ms, Mkn)
  else
    (f_X6_copies 600 150 Mpa Ms (150 * (Mkn - 1)) 0).bind fun r2 => some ((Mkn - 1), r2, (Mkn - 1))

theorem kX6_undo_32 : Cond.fieldLink RX6 32 "ZoneSamplerModel" "known" "I" ∈ wsX6_undo := by decide +kernel
theorem kX6_undo_16 : Cond.fieldLink RX6 16 "ZoneSamplerModel" "past" "[I" ∈ wsX6_undo := by decide +kernel
theorem kX6_undo_7 : Cond.fieldLink RX6 7 "ZoneSamplerModel" "s" "[I" ∈ wsX6_undo := by decide +kernel
theorem jX6_undo_X6 : ∀ w ∈ u_ws RX6 TX6 17, w ∈ wsX6_undo := by decide +kernel
set_option maxHeartbeats 4000000 in
set_option maxRecDepth 100000 in
theorem c_X6_undo (l : Launch) (G : va_G) (c3 : zT3) (oM : zR8) (BM : zMd) {r : Int32} {Ms' : (Nat → Int32)} {Mkn' : Int32} (hf : f_X6_undo BM.1 BM.2.2.1 BM.2.2.2.1 = some (r, Ms', Mkn')) : zM l yX6_undo wsX6_undo ⟨1, 0, 0, 24⟩ G c3 (zwM c3.1 c3.2.2 oM (BM.1, BM.2.1, BM.2.2.1, BM.2.2.2.1, BM.2.2.2.2.1, BM.2.2.2.2.2.1, BM.2.2.2.2.2.2.1, BM.2.2.2.2.2.2.2.1, BM.2.2.2.2.2.2.2.2.1, BM.2.2.2.2.2.2.2.2.2.1, BM.2.2.2.2.2.2.2.2.2.2.1, BM.2.2.2.2.2.2.2.2.2.2.2.1, BM.2.2.2.2.2.2.2.2.2.2.2.2.1, BM.2.2.2.2.2.2.2.2.2.2.2.2.2.1, BM.2.2.2.2.2.2.2.2.2.2.2.2.2.2.1, BM.2.2.2.2.2.2.2.2.2.2.2.2.2.2.2.1, BM.2.2.2.2.2.2.2.2.2.2.2.2.2.2.2.2)) [.ref oM.1] (some (.int r)) (zwM c3.1 c3.2.2 oM (Ms', BM.2.1, BM.2.2.1, Mkn', BM.2.2.2.2.1, BM.2.2.2.2.2.1, BM.2.2.2.2.2.2.1, BM.2.2.2.2.2.2.2.1, BM.2.2.2.2.2.2.2.2.1, BM.2.2.2.2.2.2.2.2.2.1, BM.2.2.2.2.2.2.2.2.2.2.1, BM.2.2.2.2.2.2.2.2.2.2.2.1, BM.2.2.2.2.2.2.2.2.2.2.2.2.1, BM.2.2.2.2.2.2.2.2.2.2.2.2.2.1, BM.2.2.2.2.2.2.2.2.2.2.2.2.2.2.1, BM.2.2.2.2.2.2.2.2.2.2.2.2.2.2.2.1, BM.2.2.2.2.2.2.2.2.2.2.2.2.2.2.2.2)) := by
  obtain ⟨Ms, Mas, Mpa, Mkn, Mke, Mik, Mpp, Mle, Mso, Mfz, Msp, Mfo, Mrd, Mrs, Mlt, Mfi, Mse⟩ := BM
  have hf : f_X6_undo Ms Mpa Mkn = some (r, Ms', Mkn') := hf
  show zM l yX6_undo wsX6_undo ⟨1, 0, 0, 24⟩ G c3 (zwM c3.1 c3.2.2 oM (Ms, Mas, Mpa, Mkn, Mke, Mik, Mpp, Mle, Mso, Mfz, Msp, Mfo, Mrd, Mrs, Mlt, Mfi, Mse)) [.ref oM.1] (some (.int r)) (zwM c3.1 c3.2.2 oM (Ms', Mas, Mpa, Mkn', Mke, Mik, Mpp, Mle, Mso, Mfz, Msp, Mfo, Mrd, Mrs, Mlt, Mfi, Mse))
  refine zM.of (cc := cX6_undo) (maxL := 1) (ret := (some .int)) (by decide) rfl (Nat.le_of_ble_eq_true rfl) ?_
  intro p e s m args below meth c A ls S0 hr hlk hC hl
  have S0 : CallFix p m c cX6_undo 1 s args wsX6_undo RX6 := S0
  have hl : lv_has ls 1 [(0, .ref oM.1)] := hl
  have hx := S0.1
  have hb := S0.2.1
  obtain ⟨H, hH⟩ : ∃ y, y = s.heap := ⟨_, rfl⟩
  rw [← hH] at hC ⊢
  obtain ⟨locs, hlo⟩ : ∃ y : List Loc, y = [] := ⟨_, rfl⟩
  rw [← hlo] at hC ⊢
  clear hH hlo
  unfold f_X6_undo at hf
  refine lv_aload_n hx hb dX6_undo_0 rfl (lv_at hl 0 rfl) ?_
  refine z_get S0 hC (ci := 6) (C := RX6) (T := TX6) (N := 17) (v := .int Mkn) jX6_undo_X6 0 rfl rfl 3 (by decide) kX6_undo_32 rfl rfl dX6_undo_1 ?_
  refine lv_if_ne (tgt := 10) hx hb dX6_undo_4 (by decide) (fun cd1 => ?_) (fun cd1 => ?_)
  · replace hf := z_neg cd1 hf
    refine lv_aload_n hx hb dX6_undo_10 rfl (lv_at hl 0 rfl) ?_
    refine lv_dup hx hb dX6_undo_11 rfl ?_
    refine z_get S0 hC (ci := 6) (C := RX6) (T := TX6) (N := 17) (v := .int Mkn) jX6_undo_X6 0 rfl rfl 3 (by decide) kX6_undo_32 rfl rfl dX6_undo_12 ?_
    refine lv_iconst (v := 1) hx hb dX6_undo_15 (by decide) ?_
    refine lv_isub hx hb dX6_undo_16 ?_
    refine z_put S0 hC (ci := 6) (C := RX6) (T := TX6) (N := 17) (v := .int (Mkn - 1)) jX6_undo_X6 tyX6 tyX6_ok nmX6 0 rfl rfl 3 (by decide) kX6_undo_32 rfl rfl rfl rfl (Nat.le_of_ble_eq_true rfl) dX6_undo_17 (ws2 := (zwM c3.1 c3.2.2 oM (Ms, Mas, Mpa, (Mkn - 1), Mke, Mik, Mpp, Mle, Mso, Mfz, Msp, Mfo, Mrd, Mrs, Mlt, Mfi, Mse))) rfl (fun H locs hC => ?_)
    refine lv_aload_n hx hb dX6_undo_20 rfl (lv_at hl 0 rfl) ?_
    refine z_get S0 hC (ci := 6) (C := RX6) (T := TX6) (N := 17) (v := .ref oM.2.2.2.1) jX6_undo_X6 0 rfl rfl 2 (by decide) kX6_undo_16 rfl rfl dX6_undo_21 ?_
    refine lv_sipush (v := 150) hx hb dX6_undo_24 (by decide) ?_
    refine lv_aload_n hx hb dX6_undo_27 rfl (lv_at hl 0 rfl) ?_
    refine z_get S0 hC (ci := 6) (C := RX6) (T := TX6) (N := 17) (v := .int (Mkn - 1)) jX6_undo_X6 0 rfl rfl 3 (by decide) kX6_undo_32 rfl rfl dX6_undo_28 ?_
    refine lv_imul hx hb dX6_undo_31 ?_
    refine lv_aload_n hx hb dX6_undo_32 rfl (lv_at hl 0 rfl) ?_
    refine z_get S0 hC (ci := 6) (C := RX6) (T := TX6) (N := 17) (v := .ref oM.2.1) jX6_undo_X6 0 rfl rfl 0 (by decide) kX6_undo_7 rfl rfl dX6_undo_33 ?_
    refine lv_iconst (v := 0) hx hb dX6_undo_36 (by decide) ?_
    obtain ⟨r2, hr2, hf⟩ := z_bind hf
    refine z_callv (z_runS (n := 4) (rest := []) (As := [.ref oM.2.2.2.1, .int (150 * (Mkn - 1)), .ref oM.2.1, .int 0]) S0 hC (c_X6_copies l G c3 oM.2.2.2.1 600 Mpa oM.2.1 150 Ms (150 * (Mkn - 1)) 0 hr2) [3, 1] (by decide) rfl gX6_undo_X6_copies rfl rfl rfl (by decide +kernel) ⟨Nat.le_of_ble_eq_true rfl, Nat.le_of_ble_eq_true rfl⟩ rfl hl.1 rfl (Nat.le_of_ble_eq_true rfl) dX6_undo_37) hC [3, 1] [0, 2, 4, 5, 6, 7] [0, 7, 1, 6, 2, 3, 4, 5] rfl (wr := [(oM.1, .inr (6, [.ref oM.2.1, .ref oM.2.2.1, .ref oM.2.2.2.1, .int (Mkn - 1), .ref oM.2.2.2.2.1, .int Mik, .ref oM.2.2.2.2.2.1, .int Mle, .ref oM.2.2.2.2.2.2.1, .int Mfz, .int Msp, .int Mfo, .ref oM.2.2.2.2.2.2.2, .int Mrs, .int Mlt, .int Mfi, .int Mse])), (oM.2.2.1, .inl (c3.1, 150, .inl Mas)), (oM.2.2.2.2.1, .inl (c3.1, 150, .inl Mke)), (oM.2.2.2.2.2.1, .inl (c3.1, 60, .inl Mpp)), (oM.2.2.2.2.2.2.1, .inl (c3.2.2, 10, .inl Mso)), (oM.2.2.2.2.2.2.2, .inl (c3.1, 84, .inl Mrd))]) rfl (by decide) (by decide) (ws2 := (zwM c3.1 c3.2.2 oM (r2, Mas, Mpa, (Mkn - 1), Mke, Mik, Mpp, Mle, Mso, Mfz, Msp, Mfo, Mrd, Mrs, Mlt, Mfi, Mse))) rfl (by decide) (fun H locs hC => ?_)
    refine lv_aload_n hx hb dX6_undo_40 rfl (lv_at hl 0 rfl) ?_
    refine z_get S0 hC (ci := 6) (C := RX6) (T := TX6) (N := 17) (v := .int (Mkn - 1)) jX6_undo_X6 0 rfl rfl 3 (by decide) kX6_undo_32 rfl rfl dX6_undo_41 ?_
    obtain ⟨e1, e2, e3⟩ := z_s3 hf
    subst e1
    subst e2
    subst e3
    exact z_iret S0 hr hlk hC dX6_undo_44
  · replace hf := z_pos cd1 hf
    refine lv_bipush (v := (-2)) hx hb dX6_undo_7 (by decide) ?_
    obtain ⟨e1, e2, e3⟩ := z_s3 hf
    subst e1
    subst e2
    subst e3
    exact z_iret S0 hr hlk hC dX6_undo_9

-- X6 save
def f_X6_save (Ms : (Nat → Int32)) (Mke : (Nat → Int32)) (Mik : Int32) : Option (Int32 × (Nat → Int32) × Int32) :=
  (f_X6_copies 150 150 Ms Mke 0 0).bind fun r1 => (zald 150 Ms 1).bind fun x2 => some (x2, r1, 1)

theorem kX6_save_7 : Cond.fieldLink RX6 7 "ZoneSamplerModel" "s" "[I" ∈ wsX6_save := by decide +kernel
theorem kX6_save_19 : Cond.fieldLink RX6 19 "ZoneSamplerModel" "kept" "[I" ∈ wsX6_save := by decide +kernel
theorem kX6_save_200 : Cond.fieldLink RX6 200 "ZoneSamplerModel" "isKept" "Z" ∈ wsX6_save := by decide +kernel
theorem jX6_save_X6 : ∀ w ∈ u_ws RX6 TX6 17, w ∈ wsX6_save := by decide +kernel
set_option maxHeartbeats 4000000 in
set_option maxRecDepth 100000 in
theorem c_X6_save (l : Launch) (G : va_G) (c3 : zT3) (oM : zR8) (BM : zMd) {r : Int32} {Mke' : (Nat → Int32)} {Mik' : Int32} (hf : f_X6_save BM.1 BM.2.2.2.2.1 BM.2.2.2.2.2.1 = some (r, Mke', Mik')) : zM l yX6_save wsX6_save ⟨1, 0, 0, 24⟩ G c3 (zwM c3.1 c3.2.2 oM (BM.1, BM.2.1, BM.2.2.1, BM.2.2.2.1, BM.2.2.2.2.1, BM.2.2.2.2.2.1, BM.2.2.2.2.2.2.1, BM.2.2.2.2.2.2.2.1, BM.2.2.2.2.2.2.2.2.1, BM.2.2.2.2.2.2.2.2.2.1, BM.2.2.2.2.2.2.2.2.2.2.1, BM.2.2.2.2.2.2.2.2.2.2.2.1, BM.2.2.2.2.2.2.2.2.2.2.2.2.1, BM.2.2.2.2.2.2.2.2.2.2.2.2.2.1, BM.2.2.2.2.2.2.2.2.2.2.2.2.2.2.1, BM.2.2.2.2.2.2.2.2.2.2.2.2.2.2.2.1, BM.2.2.2.2.2.2.2.2.2.2.2.2.2.2.2.2)) [.ref oM.1] (some (.int r)) (zwM c3.1 c3.2.2 oM (BM.1, BM.2.1, BM.2.2.1, BM.2.2.2.1, Mke', Mik', BM.2.2.2.2.2.2.1, BM.2.2.2.2.2.2.2.1, BM.2.2.2.2.2.2.2.2.1, BM.2.2.2.2.2.2.2.2.2.1, BM.2.2.2.2.2.2.2.2.2.2.1, BM.2.2.2.2.2.2.2.2.2.2.2.1, BM.2.2.2.2.2.2.2.2.2.2.2.2.1, BM.2.2.2.2.2.2.2.2.2.2.2.2.2.1, BM.2.2.2.2.2.2.2.2.2.2.2.2.2.2.1, BM.2.2.2.2.2.2.2.2.2.2.2.2.2.2.2.1, BM.2.2.2.2.2.2.2.2.2.2.2.2.2.2.2.2)) := by
  obtain ⟨Ms, Mas, Mpa, Mkn, Mke, Mik, Mpp, Mle, Mso, Mfz, Msp, Mfo, Mrd, Mrs, Mlt, Mfi, Mse⟩ := BM
  have hf : f_X6_save Ms Mke Mik = some (r, Mke', Mik') := hf
  show zM l yX6_save wsX6_save ⟨1, 0, 0, 24⟩ G c3 (zwM c3.1 c3.2.2 oM (Ms, Mas, Mpa, Mkn, Mke, Mik, Mpp, Mle, Mso, Mfz, Msp, Mfo, Mrd, Mrs, Mlt, Mfi, Mse)) [.ref oM.1] (some (.int r)) (zwM c3.1 c3.2.2 oM (Ms, Mas, Mpa, Mkn, Mke', Mik', Mpp, Mle, Mso, Mfz, Msp, Mfo, Mrd, Mrs, Mlt, Mfi, Mse))
  refine zM.of (cc := cX6_save) (maxL := 1) (ret := (some .int)) (by decide) rfl (Nat.le_of_ble_eq_true rfl) ?_
  intro p e s m args below meth c A ls S0 hr hlk hC hl
  have S0 : CallFix p m c cX6_save 1 s args wsX6_save RX6 := S0
  have hl : lv_has ls 1 [(0, .ref oM.1)] := hl
  have hx := S0.1
  have hb := S0.2.1
  obtain ⟨H, hH⟩ : ∃ y, y = s.heap := ⟨_, rfl⟩
  rw [← hH] at hC ⊢
  obtain ⟨locs, hlo⟩ : ∃ y : List Loc, y = [] := ⟨_, rfl⟩
  rw [← hlo] at hC ⊢
  clear hH hlo
  unfold f_X6_save at hf
  refine lv_aload_n hx hb dX6_save_0 rfl (lv_at hl 0 rfl) ?_
  refine z_get S0 hC (ci := 6) (C := RX6) (T := TX6) (N := 17) (v := .ref oM.2.1) jX6_save_X6 0 rfl rfl 0 (by decide) kX6_save_7 rfl rfl dX6_save_1 ?_
  refine lv_iconst (v := 0) hx hb dX6_save_4 (by decide) ?_
  refine lv_aload_n hx hb dX6_save_5 rfl (lv_at hl 0 rfl) ?_
  refine z_get S0 hC (ci := 6) (C := RX6) (T := TX6) (N := 17) (v := .ref oM.2.2.2.2.1) jX6_save_X6 0 rfl rfl 4 (by decide) kX6_save_19 rfl rfl dX6_save_6 ?_
  refine lv_iconst (v := 0) hx hb dX6_save_9 (by decide) ?_
  obtain ⟨r1, hr1, hf⟩ := z_bind hf
  refine z_callv (z_runS (n := 4) (rest := []) (As := [.ref oM.2.1, .int 0, .ref oM.2.2.2.2.1, .int 0]) S0 hC (c_X6_copies l G c3 oM.2.1 150 Ms oM.2.2.2.2.1 150 Mke 0 0 hr1) [1, 4] (by decide) rfl gX6_save_X6_copies rfl rfl rfl (by decide +kernel) ⟨Nat.le_of_ble_eq_true rfl, Nat.le_of_ble_eq_true rfl⟩ rfl hl.1 rfl (Nat.le_of_ble_eq_true rfl) dX6_save_10) hC [1, 4] [0, 2, 3, 5, 6, 7] [0, 6, 1, 2, 7, 3, 4, 5] rfl (wr := [(oM.1, .inr (6, [.ref oM.2.1, .ref oM.2.2.1, .ref oM.2.2.2.1, .int Mkn, .ref oM.2.2.2.2.1, .int Mik, .ref oM.2.2.2.2.2.1, .int Mle, .ref oM.2.2.2.2.2.2.1, .int Mfz, .int Msp, .int Mfo, .ref oM.2.2.2.2.2.2.2, .int Mrs, .int Mlt, .int Mfi, .int Mse])), (oM.2.2.1, .inl (c3.1, 150, .inl Mas)), (oM.2.2.2.1, .inl (c3.1, 600, .inl Mpa)), (oM.2.2.2.2.2.1, .inl (c3.1, 60, .inl Mpp)), (oM.2.2.2.2.2.2.1, .inl (c3.2.2, 10, .inl Mso)), (oM.2.2.2.2.2.2.2, .inl (c3.1, 84, .inl Mrd))]) rfl (by decide) (by decide) (ws2 := (zwM c3.1 c3.2.2 oM (Ms, Mas, Mpa, Mkn, r1, Mik, Mpp, Mle, Mso, Mfz, Msp, Mfo, Mrd, Mrs, Mlt, Mfi, Mse))) rfl (by decide) (fun H locs hC => ?_)
  refine lv_aload_n hx hb dX6_save_13 rfl (lv_at hl 0 rfl) ?_
  refine lv_iconst (v := 1) hx hb dX6_save_14 (by decide) ?_
  refine z_put S0 hC (ci := 6) (C := RX6) (T := TX6) (N := 17) (v := .int 1) jX6_save_X6 tyX6 tyX6_ok nmX6 0 rfl rfl 5 (by decide) kX6_save_200 rfl rfl rfl rfl (Nat.le_of_ble_eq_true rfl) dX6_save_15 (ws2 := (zwM c3.1 c3.2.2 oM (Ms, Mas, Mpa, Mkn, r1, 1, Mpp, Mle, Mso, Mfz, Msp, Mfo, Mrd, Mrs, Mlt, Mfi, Mse))) rfl (fun H locs hC => ?_)
  refine lv_aload_n hx hb dX6_save_18 rfl (lv_at hl 0 rfl) ?_
  refine z_get S0 hC (ci := 6) (C := RX6) (T := TX6) (N := 17) (v := .ref oM.2.1) jX6_save_X6 0 rfl rfl 0 (by decide) kX6_save_7 rfl rfl dX6_save_19 ?_
  refine lv_iconst (v := 1) hx hb dX6_save_22 (by decide) ?_
  obtain ⟨x2, hx2, hf⟩ := z_bind hf
  refine z_iald S0 hC 1 rfl hx2 dX6_save_23 ?_
  obtain ⟨e1, e2, e3⟩ := z_s3 hf
  subst e1
  subst e2
  subst e3
  exact z_iret S0 hr hlk hC dX6_save_24

-- X6 restore
def f_X6_restore (Ms : (Nat → Int32)) (Mpa : (Nat → Int32)) (Mkn : Int32) (Mke : (Nat → Int32)) (Mik : Int32) : Option (Int32 × (Nat → Int32) × (Nat → Int32) × Int32) :=
  if Mik = 0 then
    some ((-2), Ms, Mpa, Mkn)
  else
    (f_X6_records Ms Mpa Mkn).bind fun r2 => (f_X6_copies 150 150 Mke Ms 0 0).bind fun r3 => (zald 150 r3 1).bind fun x4 => some (x4, r3, r2.1, r2.2)

theorem kX6_restore_200 : Cond.fieldLink RX6 200 "ZoneSamplerModel" "isKept" "Z" ∈ wsX6_restore := by decide +kernel
theorem kX6_restore_19 : Cond.fieldLink RX6 19 "ZoneSamplerModel" "kept" "[I" ∈ wsX6_restore := by decide +kernel
theorem kX6_restore_7 : Cond.fieldLink RX6 7 "ZoneSamplerModel" "s" "[I" ∈ wsX6_restore := by decide +kernel
theorem jX6_restore_X6 : ∀ w ∈ u_ws RX6 TX6 17, w ∈ wsX6_restore := by decide +kernel
set_option maxHeartbeats 4000000 in
set_option maxRecDepth 100000 in
theorem c_X6_restore (l : Launch) (G : va_G) (c3 : zT3) (oM : zR8) (BM : zMd) {r : Int32} {Ms' : (Nat → Int32)} {Mpa' : (Nat → Int32)} {Mkn' : Int32} (hf : f_X6_restore BM.1 BM.2.2.1 BM.2.2.2.1 BM.2.2.2.2.1 BM.2.2.2.2.2.1 = some (r, Ms', Mpa', Mkn')) : zM l yX6_restore wsX6_restore ⟨2, 0, 0, 45⟩ G c3 (zwM c3.1 c3.2.2 oM (BM.1, BM.2.1, BM.2.2.1, BM.2.2.2.1, BM.2.2.2.2.1, BM.2.2.2.2.2.1, BM.2.2.2.2.2.2.1, BM.2.2.2.2.2.2.2.1, BM.2.2.2.2.2.2.2.2.1, BM.2.2.2.2.2.2.2.2.2.1, BM.2.2.2.2.2.2.2.2.2.2.1, BM.2.2.2.2.2.2.2.2.2.2.2.1, BM.2.2.2.2.2.2.2.2.2.2.2.2.1, BM.2.2.2.2.2.2.2.2.2.2.2.2.2.1, BM.2.2.2.2.2.2.2.2.2.2.2.2.2.2.1, BM.2.2.2.2.2.2.2.2.2.2.2.2.2.2.2.1, BM.2.2.2.2.2.2.2.2.2.2.2.2.2.2.2.2)) [.ref oM.1] (some (.int r)) (zwM c3.1 c3.2.2 oM (Ms', BM.2.1, Mpa', Mkn', BM.2.2.2.2.1, BM.2.2.2.2.2.1, BM.2.2.2.2.2.2.1, BM.2.2.2.2.2.2.2.1, BM.2.2.2.2.2.2.2.2.1, BM.2.2.2.2.2.2.2.2.2.1, BM.2.2.2.2.2.2.2.2.2.2.1, BM.2.2.2.2.2.2.2.2.2.2.2.1, BM.2.2.2.2.2.2.2.2.2.2.2.2.1, BM.2.2.2.2.2.2.2.2.2.2.2.2.2.1, BM.2.2.2.2.2.2.2.2.2.2.2.2.2.2.1, BM.2.2.2.2.2.2.2.2.2.2.2.2.2.2.2.1, BM.2.2.2.2.2.2.2.2.2.2.2.2.2.2.2.2)) := by
  obtain ⟨Ms, Mas, Mpa, Mkn, Mke, Mik, Mpp, Mle, Mso, Mfz, Msp, Mfo, Mrd, Mrs, Mlt, Mfi, Mse⟩ := BM
  have hf : f_X6_restore Ms Mpa Mkn Mke Mik = some (r, Ms', Mpa', Mkn') := hf
  show zM l yX6_restore wsX6_restore ⟨2, 0, 0, 45⟩ G c3 (zwM c3.1 c3.2.2 oM (Ms, Mas, Mpa, Mkn, Mke, Mik, Mpp, Mle, Mso, Mfz, Msp, Mfo, Mrd, Mrs, Mlt, Mfi, Mse)) [.ref oM.1] (some (.int r)) (zwM c3.1 c3.2.2 oM (Ms', Mas, Mpa', Mkn', Mke, Mik, Mpp, Mle, Mso, Mfz, Msp, Mfo, Mrd, Mrs, Mlt, Mfi, Mse))
  refine zM.of (cc := cX6_restore) (maxL := 1) (ret := (some .int)) (by decide) rfl (Nat.le_of_ble_eq_true rfl) ?_
  intro p e s m args below meth c A ls S0 hr hlk hC hl
  have S0 : CallFix p m c cX6_restore 1 s args wsX6_restore RX6 := S0
  have hl : lv_has ls 1 [(0, .ref oM.1)] := hl
  have hx := S0.1
  have hb := S0.2.1
  obtain ⟨H, hH⟩ : ∃ y, y = s.heap := ⟨_, rfl⟩
  rw [← hH] at hC ⊢
  obtain ⟨locs, hlo⟩ : ∃ y : List Loc, y = [] := ⟨_, rfl⟩
  rw [← hlo] at hC ⊢
  clear hH hlo
  unfold f_X6_restore at hf
  refine lv_aload_n hx hb dX6_restore_0 rfl (lv_at hl 0 rfl) ?_
  refine z_get S0 hC (ci := 6) (C := RX6) (T := TX6) (N := 17) (v := .int Mik) jX6_restore_X6 0 rfl rfl 5 (by decide) kX6_restore_200 rfl rfl dX6_restore_1 ?_
  refine lv_if_ne (tgt := 10) hx hb dX6_restore_4 (by decide) (fun cd1 => ?_) (fun cd1 => ?_)
  · replace hf := z_neg cd1 hf
    refine lv_aload_n hx hb dX6_restore_10 rfl (lv_at hl 0 rfl) ?_
    obtain ⟨r2, hr2, hf⟩ := z_bind hf
    refine z_callv (z_runV (n := 0) (rest := []) (As := []) S0 hC (c_X6_records l G c3 oM (Ms, Mas, Mpa, Mkn, Mke, Mik, Mpp, Mle, Mso, Mfz, Msp, Mfo, Mrd, Mrs, Mlt, Mfi, Mse) hr2) [0, 1, 2, 3, 4, 5, 6, 7] (by decide) rfl gX6_restore_X6_records rfl rfl rfl (by decide +kernel) ⟨Nat.le_of_ble_eq_true rfl, Nat.le_of_ble_eq_true rfl⟩ (ci := 6) (q0 := 0) rfl rfl rfl hl.1 rfl (Nat.le_of_ble_eq_true rfl) dX6_restore_11) hC [0, 1, 2, 3, 4, 5, 6, 7] [] [0, 1, 2, 3, 4, 5, 6, 7] rfl (wr := ([] : va_W)) rfl (by decide) (by decide) (ws2 := (zwM c3.1 c3.2.2 oM (Ms, Mas, r2.1, r2.2, Mke, Mik, Mpp, Mle, Mso, Mfz, Msp, Mfo, Mrd, Mrs, Mlt, Mfi, Mse))) rfl (by decide) (fun H locs hC => ?_)
    refine lv_aload_n hx hb dX6_restore_14 rfl (lv_at hl 0 rfl) ?_
    refine z_get S0 hC (ci := 6) (C := RX6) (T := TX6) (N := 17) (v := .ref oM.2.2.2.2.1) jX6_restore_X6 0 rfl rfl 4 (by decide) kX6_restore_19 rfl rfl dX6_restore_15 ?_
    refine lv_iconst (v := 0) hx hb dX6_restore_18 (by decide) ?_
    refine lv_aload_n hx hb dX6_restore_19 rfl (lv_at hl 0 rfl) ?_
    refine z_get S0 hC (ci := 6) (C := RX6) (T := TX6) (N := 17) (v := .ref oM.2.1) jX6_restore_X6 0 rfl rfl 0 (by decide) kX6_restore_7 rfl rfl dX6_restore_20 ?_
    refine lv_iconst (v := 0) hx hb dX6_restore_23 (by decide) ?_
    obtain ⟨r3, hr3, hf⟩ := z_bind hf
    refine z_callv (z_runS (n := 4) (rest := []) (As := [.ref oM.2.2.2.2.1, .int 0, .ref oM.2.1, .int 0]) S0 hC (c_X6_copies l G c3 oM.2.2.2.2.1 150 Mke oM.2.1 150 Ms 0 0 hr3) [4, 1] (by decide) rfl gX6_restore_X6_copies rfl rfl rfl (by decide +kernel) ⟨Nat.le_of_ble_eq_true rfl, Nat.le_of_ble_eq_true rfl⟩ rfl hl.1 rfl (Nat.le_of_ble_eq_true rfl) dX6_restore_24) hC [4, 1] [0, 2, 3, 5, 6, 7] [0, 7, 1, 2, 6, 3, 4, 5] rfl (wr := [(oM.1, .inr (6, [.ref oM.2.1, .ref oM.2.2.1, .ref oM.2.2.2.1, .int r2.2, .ref oM.2.2.2.2.1, .int Mik, .ref oM.2.2.2.2.2.1, .int Mle, .ref oM.2.2.2.2.2.2.1, .int Mfz, .int Msp, .int Mfo, .ref oM.2.2.2.2.2.2.2, .int Mrs, .int Mlt, .int Mfi, .int Mse])), (oM.2.2.1, .inl (c3.1, 150, .inl Mas)), (oM.2.2.2.1, .inl (c3.1, 600, .inl r2.1)), (oM.2.2.2.2.2.1, .inl (c3.1, 60, .inl Mpp)), (oM.2.2.2.2.2.2.1, .inl (c3.2.2, 10, .inl Mso)), (oM.2.2.2.2.2.2.2, .inl (c3.1, 84, .inl Mrd))]) rfl (by decide) (by decide) (ws2 := (zwM c3.1 c3.2.2 oM (r3, Mas, r2.1, r2.2, Mke, Mik, Mpp, Mle, Mso, Mfz, Msp, Mfo, Mrd, Mrs, Mlt, Mfi, Mse))) rfl (by decide) (fun H locs hC => ?_)
    refine lv_aload_n hx hb dX6_restore_27 rfl (lv_at hl 0 rfl) ?_
    refine z_get S0 hC (ci := 6) (C := RX6) (T := TX6) (N := 17) (v := .ref oM.2.1) jX6_restore_X6 0 rfl rfl 0 (by decide) kX6_restore_7 rfl rfl dX6_restore_28 ?_
    refine lv_iconst (v := 1) hx hb dX6_restore_31 (by decide) ?_
    obtain ⟨x4, hx4, hf⟩ := z_bind hf
    refine z_iald S0 hC 1 rfl hx4 dX6_restore_32 ?_
    obtain ⟨e1, e2, e3, e4⟩ := z_s4 hf
    subst e1
    subst e2
    subst e3
    subst e4
    exact z_iret S0 hr hlk hC dX6_restore_33
  · replace hf := z_pos cd1 hf
    refine lv_bipush (v := (-2)) hx hb dX6_restore_7 (by decide) ?_
    obtain ⟨e1, e2, e3, e4⟩ := z_s4 hf
    subst e1
    subst e2
    subst e3
    subst e4
    exact z_iret S0 hr hlk hC dX6_restore_9
