-- the constructors: a contract that makes cells
def zS0 : zSt := ((0, fun _ => 0), (0, fun _ => 0), upd (upd (upd (fun _ => 0) 6 6) 7 0) 8 10, 0, 0)
def zP0 : zPd := (fun _ => 0, 0, 0, 0, 0, 0, 0, 0, 0, 0, 0, 0, 0, 0)
def zV0 : zSv := (fun _ => 0, 0, 0, 0, 0)
def zM0 : zMd := (upd (upd (fun _ => 0) 9 6) 11 10, fun _ => 0, fun _ => 0, 0, fun _ => 0, 0, fun _ => 0, 0, fun _ => 0, 0, 0, 0, fun _ => 0, 0, 0, 0, 0)
def zNMw : List Cond := [.methodLinkNest "ZoneSampler" 24 ⟨"ZoneSampler$History", "<init>", "()V"⟩ "ZoneSampler", .methodLinkNest "ZoneSampler" 31 ⟨"ZoneSampler$Pad", "<init>", "()V"⟩ "ZoneSampler", .methodLinkNest "ZoneSampler" 38 ⟨"ZoneSampler$Survey", "<init>", "()V"⟩ "ZoneSampler"]
theorem zNMw_tbl : ∀ w ∈ zNMw, w ∈ tables_1 := by decide +kernel
def zNM (U : State) : Prop := ∀ w ∈ zNMw, va_Nw w U
theorem zNMw_ml : ∀ w ∈ zNMw, ∃ (a : String) (i : Nat) (x : MethodName) (h : String), w = .methodLinkNest a i x h := by
  intro w hw
  simp only [zNMw, List.mem_cons, List.not_mem_nil, or_false] at hw
  rcases hw with rfl | rfl | rfl <;> exact ⟨_, _, _, _, rfl⟩
theorem zNM.warm {s U : State} (hW : s.WarmedH U.vm) (h : zNM s) : zNM U := by
  intro w hw
  obtain ⟨a, i, x, k, rfl⟩ := zNMw_ml w hw
  exact va_Nw.warmM hW (h _ hw)
theorem zNM.same {u U : State} (hv : u.vm = U.vm) (h : zNM u) : zNM U := by
  intro w hw
  have h1 := h _ hw
  obtain ⟨a, i, x, k, rfl⟩ := zNMw_ml w hw
  exact va_Nw.same rfl hv h1
def zPreN (G : va_G) (c3 : zT3) (WS : va_W) (sz : Nat) (av : List Value) : Array Value → State → Prop := va_Pc av (fun U => U.heap.size = sz ∧ va_P G vwCl WS U.heap ∧ zK G c3 U ∧ va_D (fun _ => True) WS ∧ zNM U)
def zPostN (G : va_G) (P : va_W → Prop) (A : Nat → Prop) : Array Value → State → Outcome → State → Prop := fun _ st oc t => (oc = .returned none ∧ ∃ w1 : va_W, P w1 ∧ va_P G vwCl w1 t.heap ∧ va_D A w1) ∧ va_F A st t
def zMn (l : Launch) (y : MethodName) (ws : List Cond) (rm : Room) (G : va_G) (c3 : zT3) (WS : va_W) (av : List Value) (P : va_W → Prop) (mc ms : Nat) : Prop := ∀ sz : Nat, Met l y ws rm (zPreN G c3 WS sz av) (zPostN G P (va_A WS sz)) mc ms (va_A WS sz)
theorem zPreN.blind {G : va_G} {c3 : zT3} {WS : va_W} {sz : Nat} {av : List Value} : FrameBlind (zPreN G c3 WS sz av) := by
  intro a U g mk q
  obtain ⟨q0, q1, qP, qK, qD, qN⟩ := q
  exact ⟨q0, q1, qP, ⟨va_K.moved (u := U) (U := U.calling g mk a) (Vm.Alike.refl U.vm) qK.1, zNs.same (u := U) rfl qK.2⟩, qD, zNM.same (u := U) rfl qN⟩
theorem zMn.of {l : Launch} {y : MethodName} {ws ws' : List Cond} {rm : Room} {G : va_G} {c3 : zT3} {WS : va_W} {av : List Value} {P : va_W → Prop} {mc ms : Nat} {cc : ByteArray} {maxL : Nat}
    (hy : plainName y.cls = true) (hw : ws = Cond.code y cc maxL none :: ws') (hnm : y.name = "<init>") (hlen : (lg_sl av).length ≤ maxL)
    (body : ∀ (p : Program) (e : Env) (s : State) (m : MethodId) (args : Array Value) (below : List Frame) (meth : Method) (c : Code) (A : Nat → Prop) (ls : Array Slot), CallFix p m c cc maxL s args ws y.cls → meth.sig.returnType = none → meth.locks = false → meth.name = "<init>" → zNM s → zC G c3 A s WS s.heap [] → lv_has ls maxL (lv_args 0 av) →
      W p l e rm s m args below meth c s.heap [] 0 0 (MQ below (zPostN G P A) args s mc ms A) (F0 m 0 ls [])) : zMn l y ws rm G c3 WS av P mc ms := by
  intro sz
  refine Met.ofW (cc := cc) (maxL := maxL) (ret := none) hy hw ?_
  intro p e s m args below meth c s₁ B hml hv
  obtain ⟨rfl, hsz, hP, hK, hD0, hN⟩ := hv
  have hts := atoms_spec (ws := ws) B.pre
  subst hsz
  have hl := lv_entry av (n := maxL) hlen
  rw [lg_entry_eq]
  exact body p e s m av.toArray below meth c _ _ ⟨B.exec, B.bytes, hml, findClass_of_methodNamed B.named, hts⟩ B.returns B.notSynchronized ((name_of_methodNamed B.named B.method).1.trans hnm) hN ⟨hK, hP, hD0.self, va_S.rf, fun q h => Or.inr h⟩ hl
section ZIROWS
variable {p : Program} {l : Launch} {e : Env} {R : Room} {s : State} {m : MethodId} {args : Array Value} {below : List Frame} {meth : Method} {c : Code} {H : Heap} {locs : List Loc} {Q : State → Prop} {cells slots : Nat}
variable {cc : ByteArray} {nL pc : Nat} {Ts : List Cond} {own : String} {ls : Array Slot} {rest st0 : List Value} {G : va_G} {c3 : zT3} {A : Nat → Prop} {a : Nat} {ws : va_W}
theorem zi_get (S : CallFix p m c cc nL s args Ts own) (hC : zC G c3 A s ws H locs) {ref C : String} {T : u_T} {N ci index : Nat} (hin : ∀ w ∈ u_ws C T N, w ∈ Ts) (q0 : Nat) {fs : List Value} (he : ws[q0]? = some (a, .inr (ci, fs))) (hc : vwCl[ci]? = some (C, T, N)) (k : Nat) (hk : k < N) (hlink : Cond.fieldLink own index ref (T k).2.1 (T k).2.2.1 ∈ Ts) (hsame : ref = (T k).1) {v : Value} (hv : fs[k]? = some v) (hdg : decode cc pc = .ok (.getfield index, 3))
    (kk : W p l e R s m args below meth c H locs cells slots Q (F0 m (pc + 3) ls (v :: rest))) : W p l e R s m args below meth c H locs cells slots Q (F0 m pc ls (.ref a :: rest)) :=
  va_get S.1 S.2.1 S.2.2.2.2 hin S.2.2.2.1 hC.1.1 hC.2.1 q0 he hc k hk (S.2.2.2.2 _ hlink) (fun _ h => by rw [hsame]; exact h) hv hdg kk
theorem zi_put (S : CallFix p m c cc nL s args Ts own) (hC : zC G c3 A s ws H locs) {ref C : String} {T : u_T} {N ci index : Nat} (hin : ∀ w ∈ u_ws C T N, w ∈ Ts) (ty0 : Nat → FieldType) (hty : ∀ k, k < N → parseFieldDescriptor (T k).2.2.1 = some (ty0 k)) (hnm : ∀ a, a < N → ∀ b, b < N → a ≠ b → (T a).2.1 ≠ (T b).2.1) (q0 : Nat) {fs : List Value} (he : ws[q0]? = some (a, .inr (ci, fs))) (hc : vwCl[ci]? = some (C, T, N)) (k : Nat) (hk : k < N) (hlink : Cond.fieldLink own index ref (T k).2.1 (T k).2.2.1 ∈ Ts) (hsame : ref = (T k).1) (hfin : (T k).2.2.2 = false) {v : Value} (hn : narrow (ty0 k) v = v) (hfit : fits (ty0 k) v = true) (hl : k < fs.length) (hdg : decode cc pc = .ok (.putfield index, 3)) {ws2 : va_W} (hws : ws.set q0 (a, .inr (ci, fs.set k v)) = ws2)
    (kk : ∀ (H1 : Heap) (locs1 : List Loc), zC G c3 A s ws2 H1 locs1 → W p l e R s m args below meth c H1 locs1 cells slots Q (F0 m (pc + 3) ls rest)) : W p l e R s m args below meth c H locs cells slots Q (F0 m pc ls (v :: .ref a :: rest)) := by
  subst hws
  exact va_put S.1 S.2.1 S.2.2.2.2 hin ty0 hty hnm S.2.2.2.1 hC.1.1 hC.2.1 hC.2.2.1 hC.2.2.2.1 q0 he hc k hk (S.2.2.2.2 _ hlink) (fun _ h => by rw [hsame]; exact h) hfin (hty k hk) hn hfit hl hdg (fun H1 locs1 hP hD hS => kk H1 locs1 ⟨hC.1, hP, hD, hS, hC.2.2.2.2⟩)
theorem zi_putF (S : CallFix p m c cc nL s args Ts own) (hC : zC G c3 A s ws H locs) {ref C : String} {T : u_T} {N ci index : Nat} (hin : ∀ w ∈ u_ws C T N, w ∈ Ts) (ty0 : Nat → FieldType) (hty : ∀ k, k < N → parseFieldDescriptor (T k).2.2.1 = some (ty0 k)) (hnm : ∀ a, a < N → ∀ b, b < N → a ≠ b → (T a).2.1 ≠ (T b).2.1) (q0 : Nat) {fs : List Value} (he : ws[q0]? = some (a, .inr (ci, fs))) (hc : vwCl[ci]? = some (C, T, N)) (k : Nat) (hk : k < N) (hlink : Cond.fieldLink own index ref (T k).2.1 (T k).2.2.1 ∈ Ts) (hsame : ref = (T k).1) (hfin : (T k).2.2.2 = true) (hin2 : meth.name = "<init>") (hdecl : (T k).1 = own) {v : Value} (hn : narrow (ty0 k) v = v) (hfit : fits (ty0 k) v = true) (hl : k < fs.length) (hdg : decode cc pc = .ok (.putfield index, 3)) {ws2 : va_W} (hws : ws.set q0 (a, .inr (ci, fs.set k v)) = ws2)
    (kk : ∀ (H1 : Heap) (locs1 : List Loc), zC G c3 A s ws2 H1 locs1 → W p l e R s m args below meth c H1 locs1 cells slots Q (F0 m (pc + 3) ls rest)) : W p l e R s m args below meth c H locs cells slots Q (F0 m pc ls (v :: .ref a :: rest)) := by
  subst hws
  exact va_putF S.1 S.2.1 S.2.2.2.2 hin ty0 hty hnm S.2.2.2.1 hC.1.1 hC.2.1 hC.2.2.1 hC.2.2.2.1 q0 he hc k hk (S.2.2.2.2 _ hlink) (fun _ h => by rw [hsame]; exact h) hfin hin2 hdecl (hty k hk) hn hfit hl hdg (fun H1 locs1 hP hD hS => kk H1 locs1 ⟨hC.1, hP, hD, hS, hC.2.2.2.2⟩)
theorem zi_iast (S : CallFix p m c cc nL s args Ts own) (hC : zC G c3 A s ws H locs) (q0 : Nat) {n : Nat} {f g : Nat → Int32} {i x : Int32} (ha : ws[q0]? = some (a, .inl (c3.1, n, .inl f))) (hx : zast n f i x = some g) (hdg : decode cc pc = .ok (.iastore, 1)) {ws2 : va_W} (hws : ws.set q0 (a, .inl (c3.1, n, .inl g)) = ws2)
    (kk : ∀ (H1 : Heap) (locs1 : List Loc), zC G c3 A s ws2 H1 locs1 → W p l e R s m args below meth c H1 locs1 cells slots Q (F0 m (pc + 1) ls rest)) : W p l e R s m args below meth c H locs cells slots Q (F0 m pc ls (.int x :: .int i :: .ref a :: rest)) := by
  obtain ⟨h1, rfl⟩ := zast_spec hx
  subst hws
  exact va_iast S.1 S.2.1 hC.1.1 hC.2.1 hC.2.2.1 hC.2.2.2.1 q0 0 ha rfl h1 hdg (fun H1 locs1 hP hD hS => kk H1 locs1 ⟨hC.1, hP, hD, hS, hC.2.2.2.2⟩)
theorem zi_obj (S : CallFix p m c cc nL s args Ts own) (hsz : ls.size = nL) {idx : Nat} (hlink : Cond.methodLink own idx objectInit ∈ Ts) (hinst : Cond.instanceMethod objectInit ∈ Ts) (hcode : Cond.code objectInit ⟨#[0xb1]⟩ 1 none ∈ Ts) (hframes : 1 ≤ R.frames) (hlocals : (rest.map fun v => v.category).sum + 12 ≤ R.locals) (hdg : decode cc pc = .ok (.invokespecial idx, 3))
    (kk : W p l e R s m args below meth c H locs cells slots Q (F0 m (pc + 3) ls rest)) : W p l e R s m args below meth c H locs cells slots Q (F0 m pc ls (.ref a :: rest)) :=
  W.objInit S.1 S.2.1 S.2.2.2.1 (S.2.2.2.2 _ hlink) (S.2.2.2.2 _ hinst) (S.2.2.2.2 _ hcode) rfl (hsz.trans S.2.2.1.symm) rfl hdg hframes (by show 2 * 0 + _ + 12 ≤ _; omega) kk
theorem zi_newa (S : CallFix p m c cc nL s args Ts own) (hC : zC G c3 A s ws H locs) {atype : ArrayType} {ty : FieldType} (hty : newarray.typeOf atype = ty) (harr : Cond.arrayClass ty ∈ Ts) {cX : ClassId} (t0 : Nat) (ht0 : (zty c3)[t0]? = some (cX, ty)) (hRA : ∀ (U : State) (cA : ClassId), va_RA U cA ty → U.vm.findClass ("[" ++ ty.toString) = some cA) {n : Int32} {N : Nat} (hn : ¬ n < 0) (hN : n.toNatClampNeg = N) (hdef : defaultValue ty = .int 0) (hbytes : N * componentBytes ty ≤ 536870912) (hcells : cells + 1 ≤ R.cells) (hslots : slots + N ≤ R.slots) (hdg : decode cc pc = .ok (.newarray atype, 2))
    (kk : ∀ (q : Nat) (H1 : Heap), zC G c3 A s (ws ++ [(q, .inl (cX, N, .inl (fun _ => 0)))]) H1 locs → W p l e R s m args below meth c H1 locs (cells + 1) (slots + N) Q (F0 m (pc + 2) ls (.ref q :: rest))) : W p l e R s m args below meth c H locs cells slots Q (F0 m pc ls (.int n :: rest)) := by
  subst hty
  refine va_newa S.1 S.2.1 (S.2.2.2.2 _ harr) rfl hC.1.1 hC.2.1 hC.2.2.1 hC.2.2.2.1 hC.2.2.2.2 (a0 := (N, .inl (fun _ => 0))) (fun cA => by rw [vp_cell_i, hdef]) hn hN hbytes hcells hslots hdg (fun q cA H1 hK hP hD hS => ?_)
  have e1 := hRA s cA (hK.2 3 (cA, _) rfl).2
  have e2 := hRA s cX (hC.1.1.2 t0 (cX, _) ht0).2
  have e : cA = cX := Option.some.inj (e1.symm.trans e2)
  subst e
  exact kk q H1 ⟨hC.1, hP, hD, hS, hC.2.2.2.2⟩
theorem zi_new (S : CallFix p m c cc nL s args Ts own) (hC : zC G c3 A s ws H locs) {C : String} {T : u_T} {N ci index : Nat} (hin : ∀ w ∈ u_ws C T N, w ∈ Ts) (ty : Nat → FieldType) (hty : ∀ k, k < N → parseFieldDescriptor (T k).2.2.1 = some (ty k)) (hcl : Cond.classLink own index C ∈ Ts) (hinst : Cond.instantiable C N ∈ Ts) (hini : Cond.initialized C ∈ Ts) (hc : vwCl[ci]? = some (C, T, N)) {fs : List Value} (hfs : ∀ j, j < N → defaultValue (ty j) = vp_V fs j) (hcells : cells + 1 ≤ R.cells) (hslots : slots + N ≤ R.slots) (hdg : decode cc pc = .ok (.new index, 3))
    (kk : ∀ (q : Nat) (H1 : Heap), zC G c3 A s (ws ++ [(q, .inr (ci, fs))]) H1 locs → W p l e R s m args below meth c H1 locs (cells + 1) (slots + N) Q (F0 m (pc + 3) ls (.ref q :: rest))) : W p l e R s m args below meth c H locs cells slots Q (F0 m pc ls rest) :=
  va_new S.1 S.2.1 S.2.2.2.2 hin ty hty S.2.2.2.1 (S.2.2.2.2 _ hcl) (S.2.2.2.2 _ hinst) (S.2.2.2.2 _ hini) hC.1.1 hC.2.1 hC.2.2.1 hC.2.2.2.1 hC.2.2.2.2 hc hfs hcells hslots hdg (fun q H1 hP hD hS => kk q H1 ⟨hC.1, hP, hD, hS, hC.2.2.2.2⟩)
theorem zi_call {P : va_W → Prop} {mc ms : Nat} {wc wr : va_W} {aa : Array Value} (hr : va_Run p l e R s m args below meth c H locs cells slots mc ms (F0 m pc ls st0) rest (zPostN G P (va_A wc H.size) aa) (va_A wc H.size)) (hC : zC G c3 A s ws H locs) (isC isR : List Nat)
    (hc : isC.map (fun i => ws[i]?) = wc.map some) (hR : isR.map (fun i => ws[i]?) = wr.map some) (hn : va_nd isR = true) (hdis : ∀ i ∈ isR, i ∉ isC)
    (kk : ∀ (w1 : va_W) (H1 : Heap) (locs1 : List Loc), P w1 → zC G c3 A s (wr ++ w1) H1 locs1 → W p l e R s m args below meth c H1 locs1 (cells + mc) (slots + ms) Q (F0 m (pc + 3) ls rest)) : W p l e R s m args below meth c H locs cells slots Q (F0 m pc ls st0) := by
  obtain ⟨hK, hP, hD, hS, hA⟩ := hC
  have hFc : ∀ q, va_A wc H.size q → A q := va_free hD hS hA isC hc
  intro T hT X
  obtain ⟨v, st₀, t, T', L, h0, X', hL, e1, e2, ⟨⟨hv, w1, hp1, hP1, hD1⟩, hz, hk⟩, st⟩ := hr T hT X
  cases hv
  rw [h0] at hz hk
  rw [← e1] at hz hk hP1
  obtain ⟨hP2, hD2⟩ := va_join (wr := wr) (w1 := w1) hP hD isC isR hc hR hn hdis hk hFc hP1 hD1
  obtain ⟨t2, a1, b1⟩ := kk w1 T'.heap (locs ++ L) hp1 ⟨hK, hP2, hD2, ⟨Nat.le_trans hS.1 hz, fun q h1 h2 => by rw [hk q (Nat.lt_of_lt_of_le h1 hS.1) (fun z => h2 (hFc q z))]; exact hS.2.1 q h1 h2, fun q hq => by
      rcases List.mem_append.mp hq with h | h
      · exact hS.2.2 q h
      · exact hFc _ (hL q h)⟩, hA⟩ T' rfl X'
  exact ⟨t2, st t2 a1, b1⟩
theorem zC.preN {ws wc : va_W} (h : zC G c3 A s ws H locs) (hN : zNM s) (isC : List Nat) (hn : va_nd isC = true) (hc : isC.map (fun i => ws[i]?) = wc.map some) {av : List Value} (U : State) (hU : U.heap = H) (hW : s.WarmedH U.vm) : zPreN G c3 wc H.size av av.toArray U := by
  obtain ⟨h1, h2, h3, h4, h5⟩ := h.pre isC hn hc (av := av) U hU hW
  exact ⟨h1, h2, h3, h4, h5, hN.warm hW⟩
theorem zi_runI {y : MethodName} {bytes : ByteArray} {maxL n index mc ms : Nat} {wsy wsy' : List Cond} {rm : Room} {wc : va_W} {P : va_W → Prop} {b : Addr} {As : List Value}
    (S : CallFix p m c cc nL s args Ts own) (hC : zC G c3 A s ws H locs) (hN : zNM s) (hM : zMn l y wsy rm G c3 wc (.ref b :: As) P mc ms) (isC : List Nat) (hn0 : va_nd isC = true) (hc : isC.map (fun i => ws[i]?) = wc.map some)
    (hG : GoodIn Ts wsy) (hw : wsy = Cond.code y bytes maxL none :: wsy') (hrc : rm.cells = mc) (hrs : rm.slots = ms) (hini : Cond.initialized y.cls ∈ Ts) (hl : Cond.methodLink own index y ∈ Ts) (hin : Cond.instanceMethod y ∈ Ts) (hy1 : y.name = "<init>")
    (hd : y.cls ≠ "java/lang/invoke/MethodHandle" ∧ y.cls ≠ "java/lang/invoke/VarHandle" ∧ (parseMethodDescriptor y.desc).map (fun d => d.parameters.length) = some n) (hRm : rm.frames + 1 ≤ R.frames ∧ 8 + (maxL + 11) + rm.locals ≤ R.locals)
    (hn : As.length = n) (hsize : ls.size = nL) (hstack : st0 = As.reverse ++ .ref b :: rest) (hW : (rest.map fun v => v.category).sum ≤ 8) (hdg : decode cc pc = .ok (.invokespecial index, 3)) (hf : cells + mc ≤ R.cells ∧ slots + ms ≤ R.slots) :
    va_Run p l e R s m args below meth c H locs cells slots mc ms (F0 m pc ls st0) rest (zPostN G P (va_A wc H.size) (Value.ref b :: As).toArray) (va_A wc H.size) :=
  va_runI S (hM H.size) (cwI n S.2.2.2.2 hG hw hrc hrs (S.2.2.2.2 _ hini) (S.2.2.2.2 _ hl) (S.2.2.2.2 _ hin) hy1 hd hRm) ⟨zPreN.blind, fun U hU hW1 => hC.preN hN isC hn0 hc U hU hW1⟩ rfl hn hsize hstack (lv_room hW) hdg hf
theorem zi_runIN {y : MethodName} {host : String} {bytes : ByteArray} {maxL n index mc ms : Nat} {wsy wsy' : List Cond} {rm : Room} {wc : va_W} {P : va_W → Prop} {b : Addr} {As : List Value}
    (S : CallFix p m c cc nL s args Ts own) (hC : zC G c3 A s ws H locs) (hN : zNM s) (hM : zMn l y wsy rm G c3 wc (.ref b :: As) P mc ms) (isC : List Nat) (hn0 : va_nd isC = true) (hc : isC.map (fun i => ws[i]?) = wc.map some)
    (hG : GoodIn Ts wsy) (hw : wsy = Cond.code y bytes maxL none :: wsy') (hrc : rm.cells = mc) (hrs : rm.slots = ms) (hini : Cond.initialized y.cls ∈ Ts) (hl : va_Nw (.methodLinkNest own index y host) s) (hin : Cond.instanceMethod y ∈ Ts) (hy1 : y.name = "<init>")
    (hd : y.cls ≠ "java/lang/invoke/MethodHandle" ∧ y.cls ≠ "java/lang/invoke/VarHandle" ∧ (parseMethodDescriptor y.desc).map (fun d => d.parameters.length) = some n) (hRm : rm.frames + 1 ≤ R.frames ∧ 8 + (maxL + 11) + rm.locals ≤ R.locals)
    (hn : As.length = n) (hsize : ls.size = nL) (hstack : st0 = As.reverse ++ .ref b :: rest) (hW : (rest.map fun v => v.category).sum ≤ 8) (hdg : decode cc pc = .ok (.invokespecial index, 3)) (hf : cells + mc ≤ R.cells ∧ slots + ms ≤ R.slots) :
    va_Run p l e R s m args below meth c H locs cells slots mc ms (F0 m pc ls st0) rest (zPostN G P (va_A wc H.size) (Value.ref b :: As).toArray) (va_A wc H.size) :=
  va_runIN S (hM H.size) ⟨va_cnB n S.2.2.2.2 hG hw hrc hrs hl (S.2.2.2.2 _ hini) hd hRm, hy1, S.2.2.2.2 _ hin⟩ ⟨zPreN.blind, fun U hU hW1 => hC.preN hN isC hn0 hc U hU hW1⟩ rfl hn hsize hstack (lv_room hW) hdg hf
/-- a virtual call of a method that makes no cells, out of a frame that has made some -/
theorem zi_runV {y : MethodName} {bytes : ByteArray} {maxL n index : Nat} {ret : Option FieldType} {wsy wsy' : List Cond} {rm : Room} {wc w1 : va_W} {rv : Option Value} {b : Addr} {As : List Value}
    (S : CallFix p m c cc nL s args Ts own) (hC : zC G c3 A s ws H locs) (hM : zM l y wsy rm G c3 wc (.ref b :: As) rv w1) (isC : List Nat) (hn0 : va_nd isC = true) (hc : isC.map (fun i => ws[i]?) = wc.map some)
    (hG : GoodIn Ts (wsV own index y.cls y wsy)) (hw : wsy = Cond.code y bytes maxL ret :: wsy') (hrc : rm.cells = 0) (hrs : rm.slots = 0)
    (hd : y.cls ≠ "java/lang/invoke/MethodHandle" ∧ y.cls ≠ "java/lang/invoke/VarHandle" ∧ (parseMethodDescriptor y.desc).map (fun d => d.parameters.length) = some n) (hRm : rm.frames + 1 ≤ R.frames ∧ 8 + (maxL + 11) + rm.locals ≤ R.locals)
    {ci q0 : Nat} {T : u_T} {N : Nat} {fs : List Value} (hci : vwCl[ci]? = some (y.cls, T, N)) (he : ws[q0]? = some (b, .inr (ci, fs)))
    (hn : As.length = n) (hsize : ls.size = nL) (hstack : st0 = As.reverse ++ .ref b :: rest) (hW : (rest.map fun v => v.category).sum ≤ 8) (hdg : decode cc pc = .ok (.invokevirtual index, 3)) (hf : cells + 0 ≤ R.cells ∧ slots + 0 ≤ R.slots) :
    va_Run p l e R s m args below meth c H locs cells slots 0 0 (F0 m pc ls st0) rest (zPost G w1 rv (va_A wc H.size) (Value.ref b :: As).toArray) (va_A wc H.size) :=
  va_runV S (hM H.size) (cwV n S.2.2.2.2 hG hw hrc hrs ⟨rfl, hd⟩ hRm) ⟨zPre.blind, va_recv hC.1.1 hC.2.1 hci he, fun U hU hW1 => hC.pre isC hn0 hc U hU hW1⟩ rfl hn hsize hstack (lv_room hW) hdg hf
theorem zi_callM {rv : Option Value} {wc wr w1 ws2 : va_W} {aa : Array Value} (hr : va_Run p l e R s m args below meth c H locs cells slots 0 0 (F0 m pc ls st0) rest (zPost G w1 rv (va_A wc H.size) aa) (va_A wc H.size)) (hC : zC G c3 A s ws H locs) (isC isR perm : List Nat)
    (hc : isC.map (fun i => ws[i]?) = wc.map some) (hR : isR.map (fun i => ws[i]?) = wr.map some) (hn : va_nd isR = true) (hdis : ∀ i ∈ isR, i ∉ isC) (hp : perm.map (fun i => (wr ++ w1)[i]?) = ws2.map some) (hnp : va_nd perm = true)
    (kk : ∀ (H1 : Heap) (locs1 : List Loc), zC G c3 A s ws2 H1 locs1 → W p l e R s m args below meth c H1 locs1 cells slots Q (F0 m (pc + 3) ls (rv.toList ++ rest))) : W p l e R s m args below meth c H locs cells slots Q (F0 m pc ls st0) := by
  obtain ⟨hK, hP, hD, hS, hA⟩ := hC
  have hFc : ∀ q, va_A wc H.size q → A q := va_free hD hS hA isC hc
  intro T hT X
  obtain ⟨v, st₀, t, T', L, h0, X', hL, e1, e2, ⟨⟨hv, hP1, hD1⟩, hz, hk⟩, st⟩ := hr T hT X
  cases hv
  rw [h0] at hz hk
  rw [← e1] at hz hk hP1
  obtain ⟨hP2, hD2⟩ := va_join (wr := wr) (w1 := w1) hP hD isC isR hc hR hn hdis hk hFc hP1 hD1
  have hP3 : va_P G vwCl ws2 T'.heap := by
    intro k q hq
    have h1 : (perm.map (fun i => (wr ++ w1)[i]?))[k]? = some (some q) := by rw [hp, List.getElem?_map, hq]; rfl
    rw [List.getElem?_map] at h1
    cases hi : perm[k]? with
    | none => rw [hi] at h1; cases h1
    | some i => rw [hi] at h1; exact hP2 i q (Option.some.inj h1)
  obtain ⟨t2, a1, b1⟩ := kk T'.heap (locs ++ L) ⟨hK, hP3, hD2.sub perm hnp hp, ⟨Nat.le_trans hS.1 hz, fun q h1 h2 => by rw [hk q (Nat.lt_of_lt_of_le h1 hS.1) (fun z => h2 (hFc q z))]; exact hS.2.1 q h1 h2, fun q hq => by
      rcases List.mem_append.mp hq with h | h
      · exact hS.2.2 q h
      · exact hFc _ (hL q h)⟩, hA⟩ T' rfl X'
  exact ⟨t2, st t2 a1, b1⟩
theorem zi_vret {P : va_W → Prop} (S : CallFix p m c cc nL s args Ts own) (hr : meth.sig.returnType = none) (hlk : meth.locks = false) (hC : ∃ WS1 : va_W, P WS1 ∧ zC G c3 A s WS1 H locs) (hdg : decode cc pc = .ok (.return_, 1)) : W p l e R s m args below meth c H locs cells slots (MQ below (zPostN G P A) args s cells slots A) (F0 m pc ls []) := by
  obtain ⟨WS1, hP, hC⟩ := hC
  exact W.vret S.1 S.2.1 hr (fun t ht hW => ⟨⟨rfl, WS1, hP, by rw [ht]; exact hC.2.1, hC.2.2.1⟩, hC.2.2.2.1.F ht⟩) hC.2.2.2.1.2.2 hdg hlk
end ZIROWS
-- X4 <init>
theorem kX4_init_1 : Cond.methodLink RX4 1 objectInit ∈ wsX4_init := by decide +kernel
theorem kX4_init_oi : Cond.instanceMethod objectInit ∈ wsX4_init := by decide +kernel
theorem kX4_init_oc : Cond.code objectInit ⟨#[0xb1]⟩ 1 none ∈ wsX4_init := by decide +kernel
theorem kX4_init_7 : Cond.fieldLink RX4 7 "ZoneSampler$Table" "width" "I" ∈ wsX4_init := by decide +kernel
theorem kX4_init_arint : Cond.arrayClass .int ∈ wsX4_init := by decide +kernel
theorem kX4_init_13 : Cond.fieldLink RX4 13 "ZoneSampler$Table" "cells" "[I" ∈ wsX4_init := by decide +kernel
theorem jX4_init_X4 : ∀ w ∈ u_ws RX4 TX4 3, w ∈ wsX4_init := by decide +kernel
set_option maxHeartbeats 4000000 in
set_option maxRecDepth 100000 in
theorem c_X4_init_70 (l : Launch) (G : va_G) (c3 : zT3) (h0 : Nat) : zMn l yX4_init wsX4_init ⟨1, 1, 70, 12⟩ G c3 [(h0, .inr (4, [.int 0, .null, .int 0]))] [.ref h0, .int 10, .int 7] (fun w => ∃ q : Nat, w = zwT c3.1 70 (h0, q) (0, fun _ => 0)) 1 70 := by
  refine zMn.of (cc := cX4_init) (maxL := 3) (by decide) rfl rfl (Nat.le_of_ble_eq_true rfl) ?_
  intro p e s m args below meth c A ls S0 hr hlk hin hN hC hl
  have S0 : CallFix p m c cX4_init 3 s args wsX4_init RX4 := S0
  have hl : lv_has ls 3 [(0, .ref h0), (1, .int 10), (2, .int 7)] := hl
  have hx := S0.1
  have hb := S0.2.1
  obtain ⟨H, hH⟩ : ∃ y, y = s.heap := ⟨_, rfl⟩
  rw [← hH] at hC ⊢
  obtain ⟨locs, hlo⟩ : ∃ y : List Loc, y = [] := ⟨_, rfl⟩
  rw [← hlo] at hC ⊢
  clear hH hlo
  refine lv_aload_n hx hb dX4_init_0 rfl (lv_at hl 0 rfl) ?_
  refine zi_obj S0 hl.1 kX4_init_1 kX4_init_oi kX4_init_oc (Nat.le_of_ble_eq_true rfl) (Nat.le_of_ble_eq_true rfl) dX4_init_1 ?_
  refine lv_aload_n hx hb dX4_init_4 rfl (lv_at hl 0 rfl) ?_
  refine lv_iload_n hx hb dX4_init_5 rfl (lv_at hl 2 rfl) ?_
  refine lv_if_le (tgt := 13) hx hb dX4_init_6 (by decide) (fun cd => absurd cd (by decide)) (fun _ => ?_)
  refine lv_iload_n hx hb dX4_init_9 rfl (lv_at hl 2 rfl) ?_
  refine lv_goto (tgt := 14) hx hb dX4_init_10 (by decide) ?_
  refine zi_putF S0 hC (ci := 4) (C := RX4) (T := TX4) (N := 3) (v := .int 7) jX4_init_X4 tyX4 tyX4_ok nmX4 0 rfl rfl 0 (by decide) kX4_init_7 rfl rfl hin rfl rfl rfl (Nat.le_of_ble_eq_true rfl) dX4_init_14 (ws2 := ([(h0, .inr (4, [.int 7, .null, .int 0]))] : va_W)) rfl (fun H locs hC => ?_)
  refine lv_aload_n hx hb dX4_init_17 rfl (lv_at hl 0 rfl) ?_
  refine lv_iload_n hx hb dX4_init_18 rfl (lv_at hl 1 rfl) ?_
  refine lv_if_le (tgt := 31) hx hb dX4_init_19 (by decide) (fun cd => absurd cd (by decide)) (fun _ => ?_)
  refine lv_iload_n hx hb dX4_init_22 rfl (lv_at hl 1 rfl) ?_
  refine lv_aload_n hx hb dX4_init_23 rfl (lv_at hl 0 rfl) ?_
  refine zi_get S0 hC (ci := 4) (C := RX4) (T := TX4) (N := 3) (v := .int 7) jX4_init_X4 0 rfl rfl 0 (by decide) kX4_init_7 rfl rfl dX4_init_24 ?_
  refine lv_imul hx hb dX4_init_27 ?_
  refine lv_goto (tgt := 32) hx hb dX4_init_28 (by decide) ?_
  refine zi_newa S0 hC (atype := .int) (ty := .int) rfl kX4_init_arint 0 rfl (fun _ _ h => h) (N := 70) (by decide) (by decide) rfl (Nat.le_of_ble_eq_true rfl) (Nat.le_of_ble_eq_true rfl) (Nat.le_of_ble_eq_true rfl) dX4_init_32 (fun q H hC => ?_)
  refine W.widen (k := 1) (n := 70) (Nat.le_of_ble_eq_true rfl) (Nat.le_of_ble_eq_true rfl) ?_
  have hC : zC G c3 A s ([(h0, .inr (4, [.int 7, .null, .int 0]))] ++ [(q, .inl (c3.1, 70, .inl (fun _ => 0)))]) H locs := hC
  refine zi_putF S0 hC (ci := 4) (C := RX4) (T := TX4) (N := 3) (v := .ref q) jX4_init_X4 tyX4 tyX4_ok nmX4 0 rfl rfl 1 (by decide) kX4_init_13 rfl rfl hin rfl rfl rfl (Nat.le_of_ble_eq_true rfl) dX4_init_34 (ws2 := ([(h0, .inr (4, [.int 7, .ref q, .int 0]))] ++ [(q, .inl (c3.1, 70, .inl (fun _ => 0)))])) rfl (fun H locs hC => ?_)
  exact zi_vret S0 hr hlk ⟨_, ⟨q, rfl⟩, hC⟩ dX4_init_37
-- X4 <init>
set_option maxHeartbeats 4000000 in
set_option maxRecDepth 100000 in
theorem c_X4_init_56 (l : Launch) (G : va_G) (c3 : zT3) (h0 : Nat) : zMn l yX4_init wsX4_init ⟨1, 1, 56, 12⟩ G c3 [(h0, .inr (4, [.int 0, .null, .int 0]))] [.ref h0, .int 8, .int 7] (fun w => ∃ q : Nat, w = zwT c3.1 56 (h0, q) (0, fun _ => 0)) 1 56 := by
  refine zMn.of (cc := cX4_init) (maxL := 3) (by decide) rfl rfl (Nat.le_of_ble_eq_true rfl) ?_
  intro p e s m args below meth c A ls S0 hr hlk hin hN hC hl
  have S0 : CallFix p m c cX4_init 3 s args wsX4_init RX4 := S0
  have hl : lv_has ls 3 [(0, .ref h0), (1, .int 8), (2, .int 7)] := hl
  have hx := S0.1
  have hb := S0.2.1
  obtain ⟨H, hH⟩ : ∃ y, y = s.heap := ⟨_, rfl⟩
  rw [← hH] at hC ⊢
  obtain ⟨locs, hlo⟩ : ∃ y : List Loc, y = [] := ⟨_, rfl⟩
  rw [← hlo] at hC ⊢
  clear hH hlo
  refine lv_aload_n hx hb dX4_init_0 rfl (lv_at hl 0 rfl) ?_
  refine zi_obj S0 hl.1 kX4_init_1 kX4_init_oi kX4_init_oc (Nat.le_of_ble_eq_true rfl) (Nat.le_of_ble_eq_true rfl) dX4_init_1 ?_
  refine lv_aload_n hx hb dX4_init_4 rfl (lv_at hl 0 rfl) ?_
  refine lv_iload_n hx hb dX4_init_5 rfl (lv_at hl 2 rfl) ?_
  refine lv_if_le (tgt := 13) hx hb dX4_init_6 (by decide) (fun cd => absurd cd (by decide)) (fun _ => ?_)
  refine lv_iload_n hx hb dX4_init_9 rfl (lv_at hl 2 rfl) ?_
  refine lv_goto (tgt := 14) hx hb dX4_init_10 (by decide) ?_
  refine zi_putF S0 hC (ci := 4) (C := RX4) (T := TX4) (N := 3) (v := .int 7) jX4_init_X4 tyX4 tyX4_ok nmX4 0 rfl rfl 0 (by decide) kX4_init_7 rfl rfl hin rfl rfl rfl (Nat.le_of_ble_eq_true rfl) dX4_init_14 (ws2 := ([(h0, .inr (4, [.int 7, .null, .int 0]))] : va_W)) rfl (fun H locs hC => ?_)
  refine lv_aload_n hx hb dX4_init_17 rfl (lv_at hl 0 rfl) ?_
  refine lv_iload_n hx hb dX4_init_18 rfl (lv_at hl 1 rfl) ?_
  refine lv_if_le (tgt := 31) hx hb dX4_init_19 (by decide) (fun cd => absurd cd (by decide)) (fun _ => ?_)
  refine lv_iload_n hx hb dX4_init_22 rfl (lv_at hl 1 rfl) ?_
  refine lv_aload_n hx hb dX4_init_23 rfl (lv_at hl 0 rfl) ?_
  refine zi_get S0 hC (ci := 4) (C := RX4) (T := TX4) (N := 3) (v := .int 7) jX4_init_X4 0 rfl rfl 0 (by decide) kX4_init_7 rfl rfl dX4_init_24 ?_
  refine lv_imul hx hb dX4_init_27 ?_
  refine lv_goto (tgt := 32) hx hb dX4_init_28 (by decide) ?_
  refine zi_newa S0 hC (atype := .int) (ty := .int) rfl kX4_init_arint 0 rfl (fun _ _ h => h) (N := 56) (by decide) (by decide) rfl (Nat.le_of_ble_eq_true rfl) (Nat.le_of_ble_eq_true rfl) (Nat.le_of_ble_eq_true rfl) dX4_init_32 (fun q H hC => ?_)
  refine W.widen (k := 1) (n := 56) (Nat.le_of_ble_eq_true rfl) (Nat.le_of_ble_eq_true rfl) ?_
  have hC : zC G c3 A s ([(h0, .inr (4, [.int 7, .null, .int 0]))] ++ [(q, .inl (c3.1, 56, .inl (fun _ => 0)))]) H locs := hC
  refine zi_putF S0 hC (ci := 4) (C := RX4) (T := TX4) (N := 3) (v := .ref q) jX4_init_X4 tyX4 tyX4_ok nmX4 0 rfl rfl 1 (by decide) kX4_init_13 rfl rfl hin rfl rfl rfl (Nat.le_of_ble_eq_true rfl) dX4_init_34 (ws2 := ([(h0, .inr (4, [.int 7, .ref q, .int 0]))] ++ [(q, .inl (c3.1, 56, .inl (fun _ => 0)))])) rfl (fun H locs hC => ?_)
  exact zi_vret S0 hr hlk ⟨_, ⟨q, rfl⟩, hC⟩ dX4_init_37
-- X2 <init>
theorem kX2_init_3 : Cond.methodLink RX2 3 objectInit ∈ wsX2_init := by decide +kernel
theorem kX2_init_oi : Cond.instanceMethod objectInit ∈ wsX2_init := by decide +kernel
theorem kX2_init_oc : Cond.code objectInit ⟨#[0xb1]⟩ 1 none ∈ wsX2_init := by decide +kernel
theorem kX2_init_c9 : Cond.classLink RX2 9 RX4 ∈ wsX2_init := by decide +kernel
theorem kX2_init_iX4 : Cond.instantiable RX4 3 ∈ wsX2_init := by decide +kernel
theorem kX2_init_nX4 : Cond.initialized RX4 ∈ wsX2_init := by decide +kernel
theorem kX2_init_m11 : Cond.methodLink RX2 11 yX4_init ∈ wsX2_init := by decide +kernel
theorem kX2_init_imX4 : Cond.instanceMethod yX4_init ∈ wsX2_init := by decide +kernel
theorem kX2_init_14 : Cond.fieldLink RX2 14 "ZoneSampler$State" "zones" "LZoneSampler$Table;" ∈ wsX2_init := by decide +kernel
theorem kX2_init_20 : Cond.fieldLink RX2 20 "ZoneSampler$State" "voices" "LZoneSampler$Table;" ∈ wsX2_init := by decide +kernel
theorem kX2_init_arint : Cond.arrayClass .int ∈ wsX2_init := by decide +kernel
theorem kX2_init_23 : Cond.fieldLink RX2 23 "ZoneSampler$State" "numbers" "[I" ∈ wsX2_init := by decide +kernel
theorem jX2_init_X2 : ∀ w ∈ u_ws RX2 TX2 5, w ∈ wsX2_init := by decide +kernel
theorem jX2_init_X4 : ∀ w ∈ u_ws RX4 TX4 3, w ∈ wsX2_init := by decide +kernel
set_option maxHeartbeats 4000000 in
set_option maxRecDepth 100000 in
theorem c_X2_init (l : Launch) (G : va_G) (c3 : zT3) (h0 : Nat) : zMn l yX2_init wsX2_init ⟨2, 5, 145, 34⟩ G c3 [(h0, .inr (2, [.null, .null, .null, .int 0, .int 0]))] [.ref h0] (fun w => ∃ o : zR6, o.1 = h0 ∧ w = zwS c3.1 o zS0) 5 145 := by
  refine zMn.of (cc := cX2_init) (maxL := 1) (by decide) rfl rfl (Nat.le_of_ble_eq_true rfl) ?_
  intro p e s m args below meth c A ls S0 hr hlk hin hN hC hl
  have S0 : CallFix p m c cX2_init 1 s args wsX2_init RX2 := S0
  have hl : lv_has ls 1 [(0, .ref h0)] := hl
  have hx := S0.1
  have hb := S0.2.1
  obtain ⟨H, hH⟩ : ∃ y, y = s.heap := ⟨_, rfl⟩
  rw [← hH] at hC ⊢
  obtain ⟨locs, hlo⟩ : ∃ y : List Loc, y = [] := ⟨_, rfl⟩
  rw [← hlo] at hC ⊢
  clear hH hlo
  refine lv_aload_n hx hb dX2_init_0 rfl (lv_at hl 0 rfl) ?_
  refine zi_obj S0 hl.1 kX2_init_3 kX2_init_oi kX2_init_oc (Nat.le_of_ble_eq_true rfl) (Nat.le_of_ble_eq_true rfl) dX2_init_1 ?_
  refine lv_aload_n hx hb dX2_init_4 rfl (lv_at hl 0 rfl) ?_
  refine zi_new S0 hC (ci := 4) (fs := [.int 0, .null, .int 0]) (C := RX4) (T := TX4) (N := 3) jX2_init_X4 tyX4 tyX4_ok kX2_init_c9 kX2_init_iX4 kX2_init_nX4 rfl (fun j hj => by rcases (show j = 0 ∨ j = 1 ∨ j = 2 by omega) with rfl | rfl | rfl <;> rfl) (Nat.le_of_ble_eq_true rfl) (Nat.le_of_ble_eq_true rfl) dX2_init_5 (fun q1 H hC => ?_)
  refine W.widen (k := 1) (n := 3) (Nat.le_of_ble_eq_true rfl) (Nat.le_of_ble_eq_true rfl) ?_
  have hC : zC G c3 A s ([(h0, .inr (2, [.null, .null, .null, .int 0, .int 0]))] ++ [(q1, .inr (4, [.int 0, .null, .int 0]))]) H locs := hC
  refine lv_dup hx hb dX2_init_8 rfl ?_
  refine lv_bipush (v := 10) hx hb dX2_init_9 (by decide) ?_
  refine lv_bipush (v := 7) hx hb dX2_init_11 (by decide) ?_
  refine zi_call (zi_runI (n := 2) (rest := [.ref q1, .ref h0]) (As := [.int 10, .int 7]) S0 hC hN (c_X4_init_70 l G c3 q1) [1] (by decide) rfl gX2_init_X4_init rfl rfl rfl kX2_init_nX4 kX2_init_m11 kX2_init_imX4 rfl (by decide +kernel) ⟨Nat.le_of_ble_eq_true rfl, Nat.le_of_ble_eq_true rfl⟩ rfl hl.1 rfl (Nat.le_of_ble_eq_true rfl) dX2_init_13 ⟨Nat.le_of_ble_eq_true rfl, Nat.le_of_ble_eq_true rfl⟩) hC [1] [0] rfl (wr := ([(h0, .inr (2, [.null, .null, .null, .int 0, .int 0]))] : va_W)) rfl (by decide) (by decide) (fun w1 H locs hP1 hC => ?_)
  obtain ⟨q2, rfl⟩ := hP1
  refine W.widen (k := 2) (n := 73) (Nat.le_of_ble_eq_true rfl) (Nat.le_of_ble_eq_true rfl) ?_
  have hC : zC G c3 A s ([(h0, .inr (2, [.null, .null, .null, .int 0, .int 0]))] ++ zwT c3.1 70 (q1, q2) (0, fun _ => 0)) H locs := hC
  refine zi_putF S0 hC (ci := 2) (C := RX2) (T := TX2) (N := 5) (v := .ref q1) jX2_init_X2 tyX2 tyX2_ok nmX2 0 rfl rfl 0 (by decide) kX2_init_14 rfl rfl hin rfl rfl rfl (Nat.le_of_ble_eq_true rfl) dX2_init_16 (ws2 := ([(h0, .inr (2, [.ref q1, .null, .null, .int 0, .int 0]))] ++ zwT c3.1 70 (q1, q2) (0, fun _ => 0))) rfl (fun H locs hC => ?_)
  refine lv_aload_n hx hb dX2_init_19 rfl (lv_at hl 0 rfl) ?_
  refine zi_new S0 hC (ci := 4) (fs := [.int 0, .null, .int 0]) (C := RX4) (T := TX4) (N := 3) jX2_init_X4 tyX4 tyX4_ok kX2_init_c9 kX2_init_iX4 kX2_init_nX4 rfl (fun j hj => by rcases (show j = 0 ∨ j = 1 ∨ j = 2 by omega) with rfl | rfl | rfl <;> rfl) (Nat.le_of_ble_eq_true rfl) (Nat.le_of_ble_eq_true rfl) dX2_init_20 (fun q3 H hC => ?_)
  refine W.widen (k := 3) (n := 76) (Nat.le_of_ble_eq_true rfl) (Nat.le_of_ble_eq_true rfl) ?_
  have hC : zC G c3 A s ([(h0, .inr (2, [.ref q1, .null, .null, .int 0, .int 0]))] ++ zwT c3.1 70 (q1, q2) (0, fun _ => 0) ++ [(q3, .inr (4, [.int 0, .null, .int 0]))]) H locs := hC
  refine lv_dup hx hb dX2_init_23 rfl ?_
  refine lv_bipush (v := 8) hx hb dX2_init_24 (by decide) ?_
  refine lv_bipush (v := 7) hx hb dX2_init_26 (by decide) ?_
  refine zi_call (zi_runI (n := 2) (rest := [.ref q3, .ref h0]) (As := [.int 8, .int 7]) S0 hC hN (c_X4_init_56 l G c3 q3) [3] (by decide) rfl gX2_init_X4_init rfl rfl rfl kX2_init_nX4 kX2_init_m11 kX2_init_imX4 rfl (by decide +kernel) ⟨Nat.le_of_ble_eq_true rfl, Nat.le_of_ble_eq_true rfl⟩ rfl hl.1 rfl (Nat.le_of_ble_eq_true rfl) dX2_init_28 ⟨Nat.le_of_ble_eq_true rfl, Nat.le_of_ble_eq_true rfl⟩) hC [3] [0, 1, 2] rfl (wr := ([(h0, .inr (2, [.ref q1, .null, .null, .int 0, .int 0]))] ++ zwT c3.1 70 (q1, q2) (0, fun _ => 0))) rfl (by decide) (by decide) (fun w1 H locs hP1 hC => ?_)
  obtain ⟨q4, rfl⟩ := hP1
  refine W.widen (k := 4) (n := 132) (Nat.le_of_ble_eq_true rfl) (Nat.le_of_ble_eq_true rfl) ?_
  have hC : zC G c3 A s ([(h0, .inr (2, [.ref q1, .null, .null, .int 0, .int 0]))] ++ zwT c3.1 70 (q1, q2) (0, fun _ => 0) ++ zwT c3.1 56 (q3, q4) (0, fun _ => 0)) H locs := hC
  refine zi_putF S0 hC (ci := 2) (C := RX2) (T := TX2) (N := 5) (v := .ref q3) jX2_init_X2 tyX2 tyX2_ok nmX2 0 rfl rfl 1 (by decide) kX2_init_20 rfl rfl hin rfl rfl rfl (Nat.le_of_ble_eq_true rfl) dX2_init_31 (ws2 := ([(h0, .inr (2, [.ref q1, .ref q3, .null, .int 0, .int 0]))] ++ zwT c3.1 70 (q1, q2) (0, fun _ => 0) ++ zwT c3.1 56 (q3, q4) (0, fun _ => 0))) rfl (fun H locs hC => ?_)
  refine lv_aload_n hx hb dX2_init_34 rfl (lv_at hl 0 rfl) ?_
  refine lv_bipush (v := 13) hx hb dX2_init_35 (by decide) ?_
  refine zi_newa S0 hC (atype := .int) (ty := .int) rfl kX2_init_arint 0 rfl (fun _ _ h => h) (N := 13) (by decide) (by decide) rfl (Nat.le_of_ble_eq_true rfl) (Nat.le_of_ble_eq_true rfl) (Nat.le_of_ble_eq_true rfl) dX2_init_37 (fun q5 H hC => ?_)
  refine W.widen (k := 5) (n := 145) (Nat.le_of_ble_eq_true rfl) (Nat.le_of_ble_eq_true rfl) ?_
  have hC : zC G c3 A s ([(h0, .inr (2, [.ref q1, .ref q3, .null, .int 0, .int 0]))] ++ zwT c3.1 70 (q1, q2) (0, fun _ => 0) ++ zwT c3.1 56 (q3, q4) (0, fun _ => 0) ++ [(q5, .inl (c3.1, 13, .inl (fun _ => 0)))]) H locs := hC
  refine zi_putF S0 hC (ci := 2) (C := RX2) (T := TX2) (N := 5) (v := .ref q5) jX2_init_X2 tyX2 tyX2_ok nmX2 0 rfl rfl 2 (by decide) kX2_init_23 rfl rfl hin rfl rfl rfl (Nat.le_of_ble_eq_true rfl) dX2_init_39 (ws2 := ([(h0, .inr (2, [.ref q1, .ref q3, .ref q5, .int 0, .int 0]))] ++ zwT c3.1 70 (q1, q2) (0, fun _ => 0) ++ zwT c3.1 56 (q3, q4) (0, fun _ => 0) ++ [(q5, .inl (c3.1, 13, .inl (fun _ => 0)))])) rfl (fun H locs hC => ?_)
  refine lv_aload_n hx hb dX2_init_42 rfl (lv_at hl 0 rfl) ?_
  refine lv_bipush (v := 6) hx hb dX2_init_43 (by decide) ?_
  refine lv_bipush (v := 6) hx hb dX2_init_45 (by decide) ?_
  have hput6 : f_X2_putNumber (fun _ => 0) 6 6 = some (upd (fun _ => 0) 6 6) := by
    have hz : zast 13 (fun _ => 0) 6 6 = some (upd (fun _ => 0) 6 6) := if_pos (by decide)
    unfold f_X2_putNumber
    rw [if_neg (by decide), if_neg (by decide), hz]
    rfl
  refine zi_callM (zi_runV (n := 2) (rest := []) (As := [.int 6, .int 6]) S0 hC (c_X2_putNumber l G c3 (h0, q5, (q1, q2), (q3, q4)) ((0, fun _ => 0), (0, fun _ => 0), (fun _ => 0), 0, 0) 6 6 (Snm' := (upd (fun _ => 0) 6 6)) hput6) [0, 5, 1, 2, 3, 4] (by decide) rfl gX2_init_X2_putNumber rfl rfl rfl (by decide +kernel) ⟨Nat.le_of_ble_eq_true rfl, Nat.le_of_ble_eq_true rfl⟩ (ci := 2) (q0 := 0) rfl rfl rfl hl.1 rfl (Nat.le_of_ble_eq_true rfl) dX2_init_47 ⟨Nat.le_of_ble_eq_true rfl, Nat.le_of_ble_eq_true rfl⟩) hC [0, 5, 1, 2, 3, 4] [] [0, 1, 2, 3, 4, 5] rfl (wr := ([] : va_W)) rfl (by decide) (by decide) (ws2 := zwS c3.1 (h0, q5, (q1, q2), (q3, q4)) ((0, fun _ => 0), (0, fun _ => 0), (upd (fun _ => 0) 6 6), 0, 0)) rfl (by decide) (fun H locs hC => ?_)
  refine lv_aload_n hx hb dX2_init_50 rfl (lv_at hl 0 rfl) ?_
  refine lv_bipush (v := 7) hx hb dX2_init_51 (by decide) ?_
  refine lv_iconst (v := 0) hx hb dX2_init_53 (by decide) ?_
  have hput7 : f_X2_putNumber (upd (fun _ => 0) 6 6) 7 0 = some (upd (upd (fun _ => 0) 6 6) 7 0) := by
    have hz : zast 13 (upd (fun _ => 0) 6 6) 7 0 = some (upd (upd (fun _ => 0) 6 6) 7 0) := if_pos (by decide)
    unfold f_X2_putNumber
    rw [if_neg (by decide), if_neg (by decide), hz]
    rfl
  refine zi_callM (zi_runV (n := 2) (rest := []) (As := [.int 7, .int 0]) S0 hC (c_X2_putNumber l G c3 (h0, q5, (q1, q2), (q3, q4)) ((0, fun _ => 0), (0, fun _ => 0), (upd (fun _ => 0) 6 6), 0, 0) 7 0 (Snm' := (upd (upd (fun _ => 0) 6 6) 7 0)) hput7) [0, 1, 2, 3, 4, 5] (by decide) rfl gX2_init_X2_putNumber rfl rfl rfl (by decide +kernel) ⟨Nat.le_of_ble_eq_true rfl, Nat.le_of_ble_eq_true rfl⟩ (ci := 2) (q0 := 0) rfl rfl rfl hl.1 rfl (Nat.le_of_ble_eq_true rfl) dX2_init_54 ⟨Nat.le_of_ble_eq_true rfl, Nat.le_of_ble_eq_true rfl⟩) hC [0, 1, 2, 3, 4, 5] [] [0, 1, 2, 3, 4, 5] rfl (wr := ([] : va_W)) rfl (by decide) (by decide) (ws2 := zwS c3.1 (h0, q5, (q1, q2), (q3, q4)) ((0, fun _ => 0), (0, fun _ => 0), (upd (upd (fun _ => 0) 6 6) 7 0), 0, 0)) rfl (by decide) (fun H locs hC => ?_)
  refine lv_aload_n hx hb dX2_init_57 rfl (lv_at hl 0 rfl) ?_
  refine lv_bipush (v := 8) hx hb dX2_init_58 (by decide) ?_
  refine lv_bipush (v := 10) hx hb dX2_init_60 (by decide) ?_
  have hput8 : f_X2_putNumber (upd (upd (fun _ => 0) 6 6) 7 0) 8 10 = some (upd (upd (upd (fun _ => 0) 6 6) 7 0) 8 10) := by
    have hz : zast 13 (upd (upd (fun _ => 0) 6 6) 7 0) 8 10 = some (upd (upd (upd (fun _ => 0) 6 6) 7 0) 8 10) := if_pos (by decide)
    unfold f_X2_putNumber
    rw [if_neg (by decide), if_neg (by decide), hz]
    rfl
  refine zi_callM (zi_runV (n := 2) (rest := []) (As := [.int 8, .int 10]) S0 hC (c_X2_putNumber l G c3 (h0, q5, (q1, q2), (q3, q4)) ((0, fun _ => 0), (0, fun _ => 0), (upd (upd (fun _ => 0) 6 6) 7 0), 0, 0) 8 10 (Snm' := (upd (upd (upd (fun _ => 0) 6 6) 7 0) 8 10)) hput8) [0, 1, 2, 3, 4, 5] (by decide) rfl gX2_init_X2_putNumber rfl rfl rfl (by decide +kernel) ⟨Nat.le_of_ble_eq_true rfl, Nat.le_of_ble_eq_true rfl⟩ (ci := 2) (q0 := 0) rfl rfl rfl hl.1 rfl (Nat.le_of_ble_eq_true rfl) dX2_init_62 ⟨Nat.le_of_ble_eq_true rfl, Nat.le_of_ble_eq_true rfl⟩) hC [0, 1, 2, 3, 4, 5] [] [0, 1, 2, 3, 4, 5] rfl (wr := ([] : va_W)) rfl (by decide) (by decide) (ws2 := zwS c3.1 (h0, q5, (q1, q2), (q3, q4)) ((0, fun _ => 0), (0, fun _ => 0), (upd (upd (upd (fun _ => 0) 6 6) 7 0) 8 10), 0, 0)) rfl (by decide) (fun H locs hC => ?_)
  exact zi_vret S0 hr hlk ⟨_, ⟨(h0, q5, (q1, q2), (q3, q4)), rfl, rfl⟩, hC⟩ dX2_init_65
-- X1 <init>
theorem kX1_init_3 : Cond.methodLink RX1 3 objectInit ∈ wsX1_init := by decide +kernel
theorem kX1_init_oi : Cond.instanceMethod objectInit ∈ wsX1_init := by decide +kernel
theorem kX1_init_oc : Cond.code objectInit ⟨#[0xb1]⟩ 1 none ∈ wsX1_init := by decide +kernel
theorem kX1_init_archar : Cond.arrayClass .char ∈ wsX1_init := by decide +kernel
theorem kX1_init_9 : Cond.fieldLink RX1 9 "ZoneSampler$Pad" "signs" "[C" ∈ wsX1_init := by decide +kernel
theorem jX1_init_X1 : ∀ w ∈ u_ws RX1 TX1 14, w ∈ wsX1_init := by decide +kernel
set_option maxHeartbeats 4000000 in
set_option maxRecDepth 100000 in
theorem c_X1_init (l : Launch) (G : va_G) (c3 : zT3) (h0 : Nat) : zMn l yX1_init wsX1_init ⟨1, 1, 60, 12⟩ G c3 [(h0, .inr (1, [.null, .int 0, .int 0, .int 0, .int 0, .int 0, .int 0, .int 0, .int 0, .int 0, .int 0, .int 0, .int 0, .int 0]))] [.ref h0] (fun w => ∃ q : Nat, w = zwP c3.2.1 (h0, q) zP0) 1 60 := by
  refine zMn.of (cc := cX1_init) (maxL := 1) (by decide) rfl rfl (Nat.le_of_ble_eq_true rfl) ?_
  intro p e s m args below meth c A ls S0 hr hlk hin hN hC hl
  have S0 : CallFix p m c cX1_init 1 s args wsX1_init RX1 := S0
  have hl : lv_has ls 1 [(0, .ref h0)] := hl
  have hx := S0.1
  have hb := S0.2.1
  obtain ⟨H, hH⟩ : ∃ y, y = s.heap := ⟨_, rfl⟩
  rw [← hH] at hC ⊢
  obtain ⟨locs, hlo⟩ : ∃ y : List Loc, y = [] := ⟨_, rfl⟩
  rw [← hlo] at hC ⊢
  clear hH hlo
  refine lv_aload_n hx hb dX1_init_0 rfl (lv_at hl 0 rfl) ?_
  refine zi_obj S0 hl.1 kX1_init_3 kX1_init_oi kX1_init_oc (Nat.le_of_ble_eq_true rfl) (Nat.le_of_ble_eq_true rfl) dX1_init_1 ?_
  refine lv_aload_n hx hb dX1_init_4 rfl (lv_at hl 0 rfl) ?_
  refine lv_bipush (v := 60) hx hb dX1_init_5 (by decide) ?_
  refine zi_newa S0 hC (atype := .char) (ty := .char) rfl kX1_init_archar 1 rfl (fun _ _ h => h) (N := 60) (by decide) (by decide) rfl (Nat.le_of_ble_eq_true rfl) (Nat.le_of_ble_eq_true rfl) (Nat.le_of_ble_eq_true rfl) dX1_init_7 (fun q H hC => ?_)
  refine W.widen (k := 1) (n := 60) (Nat.le_of_ble_eq_true rfl) (Nat.le_of_ble_eq_true rfl) ?_
  have hC : zC G c3 A s ([(h0, .inr (1, [.null, .int 0, .int 0, .int 0, .int 0, .int 0, .int 0, .int 0, .int 0, .int 0, .int 0, .int 0, .int 0, .int 0]))] ++ [(q, .inl (c3.2.1, 60, .inl (fun _ => 0)))]) H locs := hC
  refine zi_putF S0 hC (ci := 1) (C := RX1) (T := TX1) (N := 14) (v := .ref q) jX1_init_X1 tyX1 tyX1_ok nmX1 0 rfl rfl 0 (by decide) kX1_init_9 rfl rfl hin rfl rfl rfl (Nat.le_of_ble_eq_true rfl) dX1_init_9 (ws2 := ([(h0, .inr (1, [.ref q, .int 0, .int 0, .int 0, .int 0, .int 0, .int 0, .int 0, .int 0, .int 0, .int 0, .int 0, .int 0, .int 0]))] ++ [(q, .inl (c3.2.1, 60, .inl (fun _ => 0)))])) rfl (fun H locs hC => ?_)
  exact zi_vret S0 hr hlk ⟨_, ⟨q, rfl⟩, hC⟩ dX1_init_12
-- X3 <init>
theorem kX3_init_3 : Cond.methodLink RX3 3 objectInit ∈ wsX3_init := by decide +kernel
theorem kX3_init_oi : Cond.instanceMethod objectInit ∈ wsX3_init := by decide +kernel
theorem kX3_init_oc : Cond.code objectInit ⟨#[0xb1]⟩ 1 none ∈ wsX3_init := by decide +kernel
theorem kX3_init_arint : Cond.arrayClass .int ∈ wsX3_init := by decide +kernel
theorem kX3_init_9 : Cond.fieldLink RX3 9 "ZoneSampler$Survey" "depths" "[I" ∈ wsX3_init := by decide +kernel
theorem jX3_init_X3 : ∀ w ∈ u_ws RX3 TX3 5, w ∈ wsX3_init := by decide +kernel
set_option maxHeartbeats 4000000 in
set_option maxRecDepth 100000 in
theorem c_X3_init (l : Launch) (G : va_G) (c3 : zT3) (h0 : Nat) : zMn l yX3_init wsX3_init ⟨1, 1, 9, 12⟩ G c3 [(h0, .inr (3, [.null, .int 0, .int 0, .int 0, .int 0]))] [.ref h0] (fun w => ∃ q : Nat, w = zwV c3.1 (h0, q) zV0) 1 9 := by
  refine zMn.of (cc := cX3_init) (maxL := 1) (by decide) rfl rfl (Nat.le_of_ble_eq_true rfl) ?_
  intro p e s m args below meth c A ls S0 hr hlk hin hN hC hl
  have S0 : CallFix p m c cX3_init 1 s args wsX3_init RX3 := S0
  have hl : lv_has ls 1 [(0, .ref h0)] := hl
  have hx := S0.1
  have hb := S0.2.1
  obtain ⟨H, hH⟩ : ∃ y, y = s.heap := ⟨_, rfl⟩
  rw [← hH] at hC ⊢
  obtain ⟨locs, hlo⟩ : ∃ y : List Loc, y = [] := ⟨_, rfl⟩
  rw [← hlo] at hC ⊢
  clear hH hlo
  refine lv_aload_n hx hb dX3_init_0 rfl (lv_at hl 0 rfl) ?_
  refine zi_obj S0 hl.1 kX3_init_3 kX3_init_oi kX3_init_oc (Nat.le_of_ble_eq_true rfl) (Nat.le_of_ble_eq_true rfl) dX3_init_1 ?_
  refine lv_aload_n hx hb dX3_init_4 rfl (lv_at hl 0 rfl) ?_
  refine lv_bipush (v := 9) hx hb dX3_init_5 (by decide) ?_
  refine zi_newa S0 hC (atype := .int) (ty := .int) rfl kX3_init_arint 0 rfl (fun _ _ h => h) (N := 9) (by decide) (by decide) rfl (Nat.le_of_ble_eq_true rfl) (Nat.le_of_ble_eq_true rfl) (Nat.le_of_ble_eq_true rfl) dX3_init_7 (fun q H hC => ?_)
  refine W.widen (k := 1) (n := 9) (Nat.le_of_ble_eq_true rfl) (Nat.le_of_ble_eq_true rfl) ?_
  have hC : zC G c3 A s ([(h0, .inr (3, [.null, .int 0, .int 0, .int 0, .int 0]))] ++ [(q, .inl (c3.1, 9, .inl (fun _ => 0)))]) H locs := hC
  refine zi_putF S0 hC (ci := 3) (C := RX3) (T := TX3) (N := 5) (v := .ref q) jX3_init_X3 tyX3 tyX3_ok nmX3 0 rfl rfl 0 (by decide) kX3_init_9 rfl rfl hin rfl rfl rfl (Nat.le_of_ble_eq_true rfl) dX3_init_9 (ws2 := ([(h0, .inr (3, [.ref q, .int 0, .int 0, .int 0, .int 0]))] ++ [(q, .inl (c3.1, 9, .inl (fun _ => 0)))])) rfl (fun H locs hC => ?_)
  exact zi_vret S0 hr hlk ⟨_, ⟨q, rfl⟩, hC⟩ dX3_init_12
-- X0 <init>
theorem kX0_init_3 : Cond.methodLink RX0 3 objectInit ∈ wsX0_init := by decide +kernel
theorem kX0_init_oi : Cond.instanceMethod objectInit ∈ wsX0_init := by decide +kernel
theorem kX0_init_oc : Cond.code objectInit ⟨#[0xb1]⟩ 1 none ∈ wsX0_init := by decide +kernel
theorem kX0_init_c9 : Cond.classLink RX0 9 RX2 ∈ wsX0_init := by decide +kernel
theorem kX0_init_iX2 : Cond.instantiable RX2 5 ∈ wsX0_init := by decide +kernel
theorem kX0_init_nX2 : Cond.initialized RX2 ∈ wsX0_init := by decide +kernel
theorem kX0_init_m11 : Cond.methodLink RX0 11 yX2_init ∈ wsX0_init := by decide +kernel
theorem kX0_init_imX2 : Cond.instanceMethod yX2_init ∈ wsX0_init := by decide +kernel
theorem kX0_init_12 : Cond.fieldLink RX0 12 "ZoneSampler$History" "first" "LZoneSampler$State;" ∈ wsX0_init := by decide +kernel
theorem kX0_init_18 : Cond.fieldLink RX0 18 "ZoneSampler$History" "second" "LZoneSampler$State;" ∈ wsX0_init := by decide +kernel
theorem kX0_init_21 : Cond.fieldLink RX0 21 "ZoneSampler$History" "third" "LZoneSampler$State;" ∈ wsX0_init := by decide +kernel
theorem kX0_init_24 : Cond.fieldLink RX0 24 "ZoneSampler$History" "fourth" "LZoneSampler$State;" ∈ wsX0_init := by decide +kernel
theorem jX0_init_X0 : ∀ w ∈ u_ws RX0 TX0 5, w ∈ wsX0_init := by decide +kernel
theorem jX0_init_X2 : ∀ w ∈ u_ws RX2 TX2 5, w ∈ wsX0_init := by decide +kernel
set_option maxHeartbeats 4000000 in
set_option maxRecDepth 100000 in
theorem c_X0_init (l : Launch) (G : va_G) (c3 : zT3) (h0 : Nat) : zMn l yX0_init wsX0_init ⟨3, 24, 600, 54⟩ G c3 [(h0, .inr (0, [.null, .null, .null, .null, .int 0]))] [.ref h0] (fun w => ∃ o1 o2 o3 o4 : zR6, w = zwH c3.1 h0 (0, (o1, zS0), (o2, zS0), (o3, zS0), (o4, zS0))) 24 600 := by
  refine zMn.of (cc := cX0_init) (maxL := 1) (by decide) rfl rfl (Nat.le_of_ble_eq_true rfl) ?_
  intro p e s m args below meth c A ls S0 hr hlk hin hN hC hl
  have S0 : CallFix p m c cX0_init 1 s args wsX0_init RX0 := S0
  have hl : lv_has ls 1 [(0, .ref h0)] := hl
  have hx := S0.1
  have hb := S0.2.1
  obtain ⟨H, hH⟩ : ∃ y, y = s.heap := ⟨_, rfl⟩
  rw [← hH] at hC ⊢
  obtain ⟨locs, hlo⟩ : ∃ y : List Loc, y = [] := ⟨_, rfl⟩
  rw [← hlo] at hC ⊢
  clear hH hlo
  refine lv_aload_n hx hb dX0_init_0 rfl (lv_at hl 0 rfl) ?_
  refine zi_obj S0 hl.1 kX0_init_3 kX0_init_oi kX0_init_oc (Nat.le_of_ble_eq_true rfl) (Nat.le_of_ble_eq_true rfl) dX0_init_1 ?_
  refine lv_aload_n hx hb dX0_init_4 rfl (lv_at hl 0 rfl) ?_
  refine zi_new S0 hC (ci := 2) (fs := [.null, .null, .null, .int 0, .int 0]) (C := RX2) (T := TX2) (N := 5) jX0_init_X2 tyX2 tyX2_ok kX0_init_c9 kX0_init_iX2 kX0_init_nX2 rfl (fun j hj => by rcases (show j = 0 ∨ j = 1 ∨ j = 2 ∨ j = 3 ∨ j = 4 by omega) with rfl | rfl | rfl | rfl | rfl <;> rfl) (Nat.le_of_ble_eq_true rfl) (Nat.le_of_ble_eq_true rfl) dX0_init_5 (fun q0 H hC => ?_)
  refine W.widen (k := 1) (n := 5) (Nat.le_of_ble_eq_true rfl) (Nat.le_of_ble_eq_true rfl) ?_
  have hC : zC G c3 A s ([(h0, .inr (0, [.null, .null, .null, .null, .int 0]))] ++ [(q0, .inr (2, [.null, .null, .null, .int 0, .int 0]))]) H locs := hC
  refine lv_dup hx hb dX0_init_8 rfl ?_
  refine zi_call (zi_runI (n := 0) (rest := [.ref q0, .ref h0]) (As := []) S0 hC hN (c_X2_init l G c3 q0) [1] (by decide) rfl gX0_init_X2_init rfl rfl rfl kX0_init_nX2 kX0_init_m11 kX0_init_imX2 rfl (by decide +kernel) ⟨Nat.le_of_ble_eq_true rfl, Nat.le_of_ble_eq_true rfl⟩ rfl hl.1 rfl (Nat.le_of_ble_eq_true rfl) dX0_init_9 ⟨Nat.le_of_ble_eq_true rfl, Nat.le_of_ble_eq_true rfl⟩) hC [1] [0] rfl (wr := ([(h0, .inr (0, [.null, .null, .null, .null, .int 0]))] : va_W)) rfl (by decide) (by decide) (fun w1 H locs hP1 hC => ?_)
  obtain ⟨o1, rfl, rfl⟩ := hP1
  refine W.widen (k := 6) (n := 150) (Nat.le_of_ble_eq_true rfl) (Nat.le_of_ble_eq_true rfl) ?_
  have hC : zC G c3 A s ([(h0, .inr (0, [.null, .null, .null, .null, .int 0]))] ++ zwS c3.1 o1 zS0) H locs := hC
  refine zi_put S0 hC (ci := 0) (C := RX0) (T := TX0) (N := 5) (v := .ref o1.1) jX0_init_X0 tyX0 tyX0_ok nmX0 0 rfl rfl 0 (by decide) kX0_init_12 rfl rfl rfl rfl (Nat.le_of_ble_eq_true rfl) dX0_init_12 (ws2 := ([(h0, .inr (0, [.ref o1.1, .null, .null, .null, .int 0]))] ++ zwS c3.1 o1 zS0)) rfl (fun H locs hC => ?_)
  refine lv_aload_n hx hb dX0_init_15 rfl (lv_at hl 0 rfl) ?_
  refine zi_new S0 hC (ci := 2) (fs := [.null, .null, .null, .int 0, .int 0]) (C := RX2) (T := TX2) (N := 5) jX0_init_X2 tyX2 tyX2_ok kX0_init_c9 kX0_init_iX2 kX0_init_nX2 rfl (fun j hj => by rcases (show j = 0 ∨ j = 1 ∨ j = 2 ∨ j = 3 ∨ j = 4 by omega) with rfl | rfl | rfl | rfl | rfl <;> rfl) (Nat.le_of_ble_eq_true rfl) (Nat.le_of_ble_eq_true rfl) dX0_init_16 (fun q1 H hC => ?_)
  refine W.widen (k := 7) (n := 155) (Nat.le_of_ble_eq_true rfl) (Nat.le_of_ble_eq_true rfl) ?_
  have hC : zC G c3 A s ([(h0, .inr (0, [.ref o1.1, .null, .null, .null, .int 0]))] ++ zwS c3.1 o1 zS0 ++ [(q1, .inr (2, [.null, .null, .null, .int 0, .int 0]))]) H locs := hC
  refine lv_dup hx hb dX0_init_19 rfl ?_
  refine zi_call (zi_runI (n := 0) (rest := [.ref q1, .ref h0]) (As := []) S0 hC hN (c_X2_init l G c3 q1) [7] (by decide) rfl gX0_init_X2_init rfl rfl rfl kX0_init_nX2 kX0_init_m11 kX0_init_imX2 rfl (by decide +kernel) ⟨Nat.le_of_ble_eq_true rfl, Nat.le_of_ble_eq_true rfl⟩ rfl hl.1 rfl (Nat.le_of_ble_eq_true rfl) dX0_init_20 ⟨Nat.le_of_ble_eq_true rfl, Nat.le_of_ble_eq_true rfl⟩) hC [7] [0, 1, 2, 3, 4, 5, 6] rfl (wr := ([(h0, .inr (0, [.ref o1.1, .null, .null, .null, .int 0]))] ++ zwS c3.1 o1 zS0)) rfl (by decide) (by decide) (fun w1 H locs hP1 hC => ?_)
  obtain ⟨o2, rfl, rfl⟩ := hP1
  refine W.widen (k := 12) (n := 300) (Nat.le_of_ble_eq_true rfl) (Nat.le_of_ble_eq_true rfl) ?_
  have hC : zC G c3 A s ([(h0, .inr (0, [.ref o1.1, .null, .null, .null, .int 0]))] ++ zwS c3.1 o1 zS0 ++ zwS c3.1 o2 zS0) H locs := hC
  refine zi_put S0 hC (ci := 0) (C := RX0) (T := TX0) (N := 5) (v := .ref o2.1) jX0_init_X0 tyX0 tyX0_ok nmX0 0 rfl rfl 1 (by decide) kX0_init_18 rfl rfl rfl rfl (Nat.le_of_ble_eq_true rfl) dX0_init_23 (ws2 := ([(h0, .inr (0, [.ref o1.1, .ref o2.1, .null, .null, .int 0]))] ++ zwS c3.1 o1 zS0 ++ zwS c3.1 o2 zS0)) rfl (fun H locs hC => ?_)
  refine lv_aload_n hx hb dX0_init_26 rfl (lv_at hl 0 rfl) ?_
  refine zi_new S0 hC (ci := 2) (fs := [.null, .null, .null, .int 0, .int 0]) (C := RX2) (T := TX2) (N := 5) jX0_init_X2 tyX2 tyX2_ok kX0_init_c9 kX0_init_iX2 kX0_init_nX2 rfl (fun j hj => by rcases (show j = 0 ∨ j = 1 ∨ j = 2 ∨ j = 3 ∨ j = 4 by omega) with rfl | rfl | rfl | rfl | rfl <;> rfl) (Nat.le_of_ble_eq_true rfl) (Nat.le_of_ble_eq_true rfl) dX0_init_27 (fun q2 H hC => ?_)
  refine W.widen (k := 13) (n := 305) (Nat.le_of_ble_eq_true rfl) (Nat.le_of_ble_eq_true rfl) ?_
  have hC : zC G c3 A s ([(h0, .inr (0, [.ref o1.1, .ref o2.1, .null, .null, .int 0]))] ++ zwS c3.1 o1 zS0 ++ zwS c3.1 o2 zS0 ++ [(q2, .inr (2, [.null, .null, .null, .int 0, .int 0]))]) H locs := hC
  refine lv_dup hx hb dX0_init_30 rfl ?_
  refine zi_call (zi_runI (n := 0) (rest := [.ref q2, .ref h0]) (As := []) S0 hC hN (c_X2_init l G c3 q2) [13] (by decide) rfl gX0_init_X2_init rfl rfl rfl kX0_init_nX2 kX0_init_m11 kX0_init_imX2 rfl (by decide +kernel) ⟨Nat.le_of_ble_eq_true rfl, Nat.le_of_ble_eq_true rfl⟩ rfl hl.1 rfl (Nat.le_of_ble_eq_true rfl) dX0_init_31 ⟨Nat.le_of_ble_eq_true rfl, Nat.le_of_ble_eq_true rfl⟩) hC [13] [0, 1, 2, 3, 4, 5, 6, 7, 8, 9, 10, 11, 12] rfl (wr := ([(h0, .inr (0, [.ref o1.1, .ref o2.1, .null, .null, .int 0]))] ++ zwS c3.1 o1 zS0 ++ zwS c3.1 o2 zS0)) rfl (by decide) (by decide) (fun w1 H locs hP1 hC => ?_)
  obtain ⟨o3, rfl, rfl⟩ := hP1
  refine W.widen (k := 18) (n := 450) (Nat.le_of_ble_eq_true rfl) (Nat.le_of_ble_eq_true rfl) ?_
  have hC : zC G c3 A s ([(h0, .inr (0, [.ref o1.1, .ref o2.1, .null, .null, .int 0]))] ++ zwS c3.1 o1 zS0 ++ zwS c3.1 o2 zS0 ++ zwS c3.1 o3 zS0) H locs := hC
  refine zi_put S0 hC (ci := 0) (C := RX0) (T := TX0) (N := 5) (v := .ref o3.1) jX0_init_X0 tyX0 tyX0_ok nmX0 0 rfl rfl 2 (by decide) kX0_init_21 rfl rfl rfl rfl (Nat.le_of_ble_eq_true rfl) dX0_init_34 (ws2 := ([(h0, .inr (0, [.ref o1.1, .ref o2.1, .ref o3.1, .null, .int 0]))] ++ zwS c3.1 o1 zS0 ++ zwS c3.1 o2 zS0 ++ zwS c3.1 o3 zS0)) rfl (fun H locs hC => ?_)
  refine lv_aload_n hx hb dX0_init_37 rfl (lv_at hl 0 rfl) ?_
  refine zi_new S0 hC (ci := 2) (fs := [.null, .null, .null, .int 0, .int 0]) (C := RX2) (T := TX2) (N := 5) jX0_init_X2 tyX2 tyX2_ok kX0_init_c9 kX0_init_iX2 kX0_init_nX2 rfl (fun j hj => by rcases (show j = 0 ∨ j = 1 ∨ j = 2 ∨ j = 3 ∨ j = 4 by omega) with rfl | rfl | rfl | rfl | rfl <;> rfl) (Nat.le_of_ble_eq_true rfl) (Nat.le_of_ble_eq_true rfl) dX0_init_38 (fun q3 H hC => ?_)
  refine W.widen (k := 19) (n := 455) (Nat.le_of_ble_eq_true rfl) (Nat.le_of_ble_eq_true rfl) ?_
  have hC : zC G c3 A s ([(h0, .inr (0, [.ref o1.1, .ref o2.1, .ref o3.1, .null, .int 0]))] ++ zwS c3.1 o1 zS0 ++ zwS c3.1 o2 zS0 ++ zwS c3.1 o3 zS0 ++ [(q3, .inr (2, [.null, .null, .null, .int 0, .int 0]))]) H locs := hC
  refine lv_dup hx hb dX0_init_41 rfl ?_
  refine zi_call (zi_runI (n := 0) (rest := [.ref q3, .ref h0]) (As := []) S0 hC hN (c_X2_init l G c3 q3) [19] (by decide) rfl gX0_init_X2_init rfl rfl rfl kX0_init_nX2 kX0_init_m11 kX0_init_imX2 rfl (by decide +kernel) ⟨Nat.le_of_ble_eq_true rfl, Nat.le_of_ble_eq_true rfl⟩ rfl hl.1 rfl (Nat.le_of_ble_eq_true rfl) dX0_init_42 ⟨Nat.le_of_ble_eq_true rfl, Nat.le_of_ble_eq_true rfl⟩) hC [19] [0, 1, 2, 3, 4, 5, 6, 7, 8, 9, 10, 11, 12, 13, 14, 15, 16, 17, 18] rfl (wr := ([(h0, .inr (0, [.ref o1.1, .ref o2.1, .ref o3.1, .null, .int 0]))] ++ zwS c3.1 o1 zS0 ++ zwS c3.1 o2 zS0 ++ zwS c3.1 o3 zS0)) rfl (by decide) (by decide) (fun w1 H locs hP1 hC => ?_)
  obtain ⟨o4, rfl, rfl⟩ := hP1
  refine W.widen (k := 24) (n := 600) (Nat.le_of_ble_eq_true rfl) (Nat.le_of_ble_eq_true rfl) ?_
  have hC : zC G c3 A s ([(h0, .inr (0, [.ref o1.1, .ref o2.1, .ref o3.1, .null, .int 0]))] ++ zwS c3.1 o1 zS0 ++ zwS c3.1 o2 zS0 ++ zwS c3.1 o3 zS0 ++ zwS c3.1 o4 zS0) H locs := hC
  refine zi_put S0 hC (ci := 0) (C := RX0) (T := TX0) (N := 5) (v := .ref o4.1) jX0_init_X0 tyX0 tyX0_ok nmX0 0 rfl rfl 3 (by decide) kX0_init_24 rfl rfl rfl rfl (Nat.le_of_ble_eq_true rfl) dX0_init_45 (ws2 := ([(h0, .inr (0, [.ref o1.1, .ref o2.1, .ref o3.1, .ref o4.1, .int 0]))] ++ zwS c3.1 o1 zS0 ++ zwS c3.1 o2 zS0 ++ zwS c3.1 o3 zS0 ++ zwS c3.1 o4 zS0)) rfl (fun H locs hC => ?_)
  exact zi_vret S0 hr hlk ⟨_, ⟨o1, o2, o3, o4, rfl⟩, hC⟩ dX0_init_48
-- X5 <init>
theorem kX5_init_1 : Cond.methodLink RX5 1 objectInit ∈ wsX5_init := by decide +kernel
theorem kX5_init_oi : Cond.instanceMethod objectInit ∈ wsX5_init := by decide +kernel
theorem kX5_init_oc : Cond.code objectInit ⟨#[0xb1]⟩ 1 none ∈ wsX5_init := by decide +kernel
theorem kX5_init_c7 : Cond.classLink RX5 7 RX2 ∈ wsX5_init := by decide +kernel
theorem kX5_init_iX2 : Cond.instantiable RX2 5 ∈ wsX5_init := by decide +kernel
theorem kX5_init_nX2 : Cond.initialized RX2 ∈ wsX5_init := by decide +kernel
theorem kX5_init_m9 : Cond.methodLink RX5 9 yX2_init ∈ wsX5_init := by decide +kernel
theorem kX5_init_imX2 : Cond.instanceMethod yX2_init ∈ wsX5_init := by decide +kernel
theorem kX5_init_10 : Cond.fieldLink RX5 10 "ZoneSampler" "now" "LZoneSampler$State;" ∈ wsX5_init := by decide +kernel
theorem kX5_init_16 : Cond.fieldLink RX5 16 "ZoneSampler" "trial" "LZoneSampler$State;" ∈ wsX5_init := by decide +kernel
theorem kX5_init_19 : Cond.fieldLink RX5 19 "ZoneSampler" "snapshot" "LZoneSampler$State;" ∈ wsX5_init := by decide +kernel
theorem kX5_init_c22 : Cond.classLink RX5 22 RX0 ∈ wsX5_init := by decide +kernel
theorem kX5_init_iX0 : Cond.instantiable RX0 5 ∈ wsX5_init := by decide +kernel
theorem kX5_init_nX0 : Cond.initialized RX0 ∈ wsX5_init := by decide +kernel
theorem kX5_init_imX0 : Cond.instanceMethod yX0_init ∈ wsX5_init := by decide +kernel
theorem kX5_init_25 : Cond.fieldLink RX5 25 "ZoneSampler" "history" "LZoneSampler$History;" ∈ wsX5_init := by decide +kernel
theorem kX5_init_c29 : Cond.classLink RX5 29 RX1 ∈ wsX5_init := by decide +kernel
theorem kX5_init_iX1 : Cond.instantiable RX1 14 ∈ wsX5_init := by decide +kernel
theorem kX5_init_nX1 : Cond.initialized RX1 ∈ wsX5_init := by decide +kernel
theorem kX5_init_imX1 : Cond.instanceMethod yX1_init ∈ wsX5_init := by decide +kernel
theorem kX5_init_32 : Cond.fieldLink RX5 32 "ZoneSampler" "pad" "LZoneSampler$Pad;" ∈ wsX5_init := by decide +kernel
theorem kX5_init_c36 : Cond.classLink RX5 36 RX3 ∈ wsX5_init := by decide +kernel
theorem kX5_init_iX3 : Cond.instantiable RX3 5 ∈ wsX5_init := by decide +kernel
theorem kX5_init_nX3 : Cond.initialized RX3 ∈ wsX5_init := by decide +kernel
theorem kX5_init_imX3 : Cond.instanceMethod yX3_init ∈ wsX5_init := by decide +kernel
theorem kX5_init_39 : Cond.fieldLink RX5 39 "ZoneSampler" "survey" "LZoneSampler$Survey;" ∈ wsX5_init := by decide +kernel
theorem jX5_init_X0 : ∀ w ∈ u_ws RX0 TX0 5, w ∈ wsX5_init := by decide +kernel
theorem jX5_init_X1 : ∀ w ∈ u_ws RX1 TX1 14, w ∈ wsX5_init := by decide +kernel
theorem jX5_init_X2 : ∀ w ∈ u_ws RX2 TX2 5, w ∈ wsX5_init := by decide +kernel
theorem jX5_init_X3 : ∀ w ∈ u_ws RX3 TX3 5, w ∈ wsX5_init := by decide +kernel
theorem jX5_init_X5 : ∀ w ∈ u_ws RX5 TX5 7, w ∈ wsX5_init := by decide +kernel
set_option maxHeartbeats 4000000 in
set_option maxRecDepth 100000 in
theorem c_X5_init (l : Launch) (G : va_G) (c3 : zT3) (h0 : Nat) : zMn l yX5_init wsX5_init ⟨4, 47, 1143, 74⟩ G c3 [(h0, .inr (5, [.null, .null, .null, .null, .null, .null, .int 0]))] [.ref h0] (fun w => ∃ (oN oT oK : zR6) (oH : Nat) (o1 o2 o3 o4 : zR6) (oP oV : zR2), w = zwZ h0 oN oT oK oH oP oV 0 ++ zwS c3.1 oN zS0 ++ zwS c3.1 oT zS0 ++ zwS c3.1 oK zS0 ++ zwH c3.1 oH (0, (o1, zS0), (o2, zS0), (o3, zS0), (o4, zS0)) ++ zwP c3.2.1 oP zP0 ++ zwV c3.1 oV zV0) 47 1143 := by
  refine zMn.of (cc := cX5_init) (maxL := 1) (by decide) rfl rfl (Nat.le_of_ble_eq_true rfl) ?_
  intro p e s m args below meth c A ls S0 hr hlk hin hN hC hl
  have S0 : CallFix p m c cX5_init 1 s args wsX5_init RX5 := S0
  have hl : lv_has ls 1 [(0, .ref h0)] := hl
  have hx := S0.1
  have hb := S0.2.1
  obtain ⟨H, hH⟩ : ∃ y, y = s.heap := ⟨_, rfl⟩
  rw [← hH] at hC ⊢
  obtain ⟨locs, hlo⟩ : ∃ y : List Loc, y = [] := ⟨_, rfl⟩
  rw [← hlo] at hC ⊢
  clear hH hlo
  refine lv_aload_n hx hb dX5_init_0 rfl (lv_at hl 0 rfl) ?_
  refine zi_obj S0 hl.1 kX5_init_1 kX5_init_oi kX5_init_oc (Nat.le_of_ble_eq_true rfl) (Nat.le_of_ble_eq_true rfl) dX5_init_1 ?_
  refine lv_aload_n hx hb dX5_init_4 rfl (lv_at hl 0 rfl) ?_
  refine zi_new S0 hC (ci := 2) (fs := [.null, .null, .null, .int 0, .int 0]) (C := RX2) (T := TX2) (N := 5) jX5_init_X2 tyX2 tyX2_ok kX5_init_c7 kX5_init_iX2 kX5_init_nX2 rfl (fun j hj => by rcases (show j = 0 ∨ j = 1 ∨ j = 2 ∨ j = 3 ∨ j = 4 by omega) with rfl | rfl | rfl | rfl | rfl <;> rfl) (Nat.le_of_ble_eq_true rfl) (Nat.le_of_ble_eq_true rfl) dX5_init_5 (fun q0 H hC => ?_)
  refine W.widen (k := 1) (n := 5) (Nat.le_of_ble_eq_true rfl) (Nat.le_of_ble_eq_true rfl) ?_
  have hC : zC G c3 A s ([(h0, .inr (5, [.null, .null, .null, .null, .null, .null, .int 0]))] ++ [(q0, .inr (2, [.null, .null, .null, .int 0, .int 0]))]) H locs := hC
  refine lv_dup hx hb dX5_init_8 rfl ?_
  refine zi_call (zi_runI (n := 0) (rest := [.ref q0, .ref h0]) (As := []) S0 hC hN (c_X2_init l G c3 q0) [1] (by decide) rfl gX5_init_X2_init rfl rfl rfl kX5_init_nX2 kX5_init_m9 kX5_init_imX2 rfl (by decide +kernel) ⟨Nat.le_of_ble_eq_true rfl, Nat.le_of_ble_eq_true rfl⟩ rfl hl.1 rfl (Nat.le_of_ble_eq_true rfl) dX5_init_9 ⟨Nat.le_of_ble_eq_true rfl, Nat.le_of_ble_eq_true rfl⟩) hC [1] [0] rfl (wr := ([(h0, .inr (5, [.null, .null, .null, .null, .null, .null, .int 0]))] : va_W)) rfl (by decide) (by decide) (fun w1 H locs hP1 hC => ?_)
  obtain ⟨oN, rfl, rfl⟩ := hP1
  refine W.widen (k := 6) (n := 150) (Nat.le_of_ble_eq_true rfl) (Nat.le_of_ble_eq_true rfl) ?_
  have hC : zC G c3 A s ([(h0, .inr (5, [.null, .null, .null, .null, .null, .null, .int 0]))] ++ zwS c3.1 oN zS0) H locs := hC
  refine zi_putF S0 hC (ci := 5) (C := RX5) (T := TX5) (N := 7) (v := .ref oN.1) jX5_init_X5 tyX5 tyX5_ok nmX5 0 rfl rfl 0 (by decide) kX5_init_10 rfl rfl hin rfl rfl rfl (Nat.le_of_ble_eq_true rfl) dX5_init_12 (ws2 := ([(h0, .inr (5, [.ref oN.1, .null, .null, .null, .null, .null, .int 0]))] ++ zwS c3.1 oN zS0)) rfl (fun H locs hC => ?_)
  refine lv_aload_n hx hb dX5_init_15 rfl (lv_at hl 0 rfl) ?_
  refine zi_new S0 hC (ci := 2) (fs := [.null, .null, .null, .int 0, .int 0]) (C := RX2) (T := TX2) (N := 5) jX5_init_X2 tyX2 tyX2_ok kX5_init_c7 kX5_init_iX2 kX5_init_nX2 rfl (fun j hj => by rcases (show j = 0 ∨ j = 1 ∨ j = 2 ∨ j = 3 ∨ j = 4 by omega) with rfl | rfl | rfl | rfl | rfl <;> rfl) (Nat.le_of_ble_eq_true rfl) (Nat.le_of_ble_eq_true rfl) dX5_init_16 (fun q1 H hC => ?_)
  refine W.widen (k := 7) (n := 155) (Nat.le_of_ble_eq_true rfl) (Nat.le_of_ble_eq_true rfl) ?_
  have hC : zC G c3 A s ([(h0, .inr (5, [.ref oN.1, .null, .null, .null, .null, .null, .int 0]))] ++ zwS c3.1 oN zS0 ++ [(q1, .inr (2, [.null, .null, .null, .int 0, .int 0]))]) H locs := hC
  refine lv_dup hx hb dX5_init_19 rfl ?_
  refine zi_call (zi_runI (n := 0) (rest := [.ref q1, .ref h0]) (As := []) S0 hC hN (c_X2_init l G c3 q1) [7] (by decide) rfl gX5_init_X2_init rfl rfl rfl kX5_init_nX2 kX5_init_m9 kX5_init_imX2 rfl (by decide +kernel) ⟨Nat.le_of_ble_eq_true rfl, Nat.le_of_ble_eq_true rfl⟩ rfl hl.1 rfl (Nat.le_of_ble_eq_true rfl) dX5_init_20 ⟨Nat.le_of_ble_eq_true rfl, Nat.le_of_ble_eq_true rfl⟩) hC [7] [0, 1, 2, 3, 4, 5, 6] rfl (wr := ([(h0, .inr (5, [.ref oN.1, .null, .null, .null, .null, .null, .int 0]))] ++ zwS c3.1 oN zS0)) rfl (by decide) (by decide) (fun w1 H locs hP1 hC => ?_)
  obtain ⟨oT, rfl, rfl⟩ := hP1
  refine W.widen (k := 12) (n := 300) (Nat.le_of_ble_eq_true rfl) (Nat.le_of_ble_eq_true rfl) ?_
  have hC : zC G c3 A s ([(h0, .inr (5, [.ref oN.1, .null, .null, .null, .null, .null, .int 0]))] ++ zwS c3.1 oN zS0 ++ zwS c3.1 oT zS0) H locs := hC
  refine zi_putF S0 hC (ci := 5) (C := RX5) (T := TX5) (N := 7) (v := .ref oT.1) jX5_init_X5 tyX5 tyX5_ok nmX5 0 rfl rfl 1 (by decide) kX5_init_16 rfl rfl hin rfl rfl rfl (Nat.le_of_ble_eq_true rfl) dX5_init_23 (ws2 := ([(h0, .inr (5, [.ref oN.1, .ref oT.1, .null, .null, .null, .null, .int 0]))] ++ zwS c3.1 oN zS0 ++ zwS c3.1 oT zS0)) rfl (fun H locs hC => ?_)
  refine lv_aload_n hx hb dX5_init_26 rfl (lv_at hl 0 rfl) ?_
  refine zi_new S0 hC (ci := 2) (fs := [.null, .null, .null, .int 0, .int 0]) (C := RX2) (T := TX2) (N := 5) jX5_init_X2 tyX2 tyX2_ok kX5_init_c7 kX5_init_iX2 kX5_init_nX2 rfl (fun j hj => by rcases (show j = 0 ∨ j = 1 ∨ j = 2 ∨ j = 3 ∨ j = 4 by omega) with rfl | rfl | rfl | rfl | rfl <;> rfl) (Nat.le_of_ble_eq_true rfl) (Nat.le_of_ble_eq_true rfl) dX5_init_27 (fun q2 H hC => ?_)
  refine W.widen (k := 13) (n := 305) (Nat.le_of_ble_eq_true rfl) (Nat.le_of_ble_eq_true rfl) ?_
  have hC : zC G c3 A s ([(h0, .inr (5, [.ref oN.1, .ref oT.1, .null, .null, .null, .null, .int 0]))] ++ zwS c3.1 oN zS0 ++ zwS c3.1 oT zS0 ++ [(q2, .inr (2, [.null, .null, .null, .int 0, .int 0]))]) H locs := hC
  refine lv_dup hx hb dX5_init_30 rfl ?_
  refine zi_call (zi_runI (n := 0) (rest := [.ref q2, .ref h0]) (As := []) S0 hC hN (c_X2_init l G c3 q2) [13] (by decide) rfl gX5_init_X2_init rfl rfl rfl kX5_init_nX2 kX5_init_m9 kX5_init_imX2 rfl (by decide +kernel) ⟨Nat.le_of_ble_eq_true rfl, Nat.le_of_ble_eq_true rfl⟩ rfl hl.1 rfl (Nat.le_of_ble_eq_true rfl) dX5_init_31 ⟨Nat.le_of_ble_eq_true rfl, Nat.le_of_ble_eq_true rfl⟩) hC [13] [0, 1, 2, 3, 4, 5, 6, 7, 8, 9, 10, 11, 12] rfl (wr := ([(h0, .inr (5, [.ref oN.1, .ref oT.1, .null, .null, .null, .null, .int 0]))] ++ zwS c3.1 oN zS0 ++ zwS c3.1 oT zS0)) rfl (by decide) (by decide) (fun w1 H locs hP1 hC => ?_)
  obtain ⟨oK, rfl, rfl⟩ := hP1
  refine W.widen (k := 18) (n := 450) (Nat.le_of_ble_eq_true rfl) (Nat.le_of_ble_eq_true rfl) ?_
  have hC : zC G c3 A s ([(h0, .inr (5, [.ref oN.1, .ref oT.1, .null, .null, .null, .null, .int 0]))] ++ zwS c3.1 oN zS0 ++ zwS c3.1 oT zS0 ++ zwS c3.1 oK zS0) H locs := hC
  refine zi_putF S0 hC (ci := 5) (C := RX5) (T := TX5) (N := 7) (v := .ref oK.1) jX5_init_X5 tyX5 tyX5_ok nmX5 0 rfl rfl 2 (by decide) kX5_init_19 rfl rfl hin rfl rfl rfl (Nat.le_of_ble_eq_true rfl) dX5_init_34 (ws2 := ([(h0, .inr (5, [.ref oN.1, .ref oT.1, .ref oK.1, .null, .null, .null, .int 0]))] ++ zwS c3.1 oN zS0 ++ zwS c3.1 oT zS0 ++ zwS c3.1 oK zS0)) rfl (fun H locs hC => ?_)
  refine lv_aload_n hx hb dX5_init_37 rfl (lv_at hl 0 rfl) ?_
  refine zi_new S0 hC (ci := 0) (fs := [.null, .null, .null, .null, .int 0]) (C := RX0) (T := TX0) (N := 5) jX5_init_X0 tyX0 tyX0_ok kX5_init_c22 kX5_init_iX0 kX5_init_nX0 rfl (fun j hj => by rcases (show j = 0 ∨ j = 1 ∨ j = 2 ∨ j = 3 ∨ j = 4 by omega) with rfl | rfl | rfl | rfl | rfl <;> rfl) (Nat.le_of_ble_eq_true rfl) (Nat.le_of_ble_eq_true rfl) dX5_init_38 (fun oH H hC => ?_)
  refine W.widen (k := 19) (n := 455) (Nat.le_of_ble_eq_true rfl) (Nat.le_of_ble_eq_true rfl) ?_
  have hC : zC G c3 A s ([(h0, .inr (5, [.ref oN.1, .ref oT.1, .ref oK.1, .null, .null, .null, .int 0]))] ++ zwS c3.1 oN zS0 ++ zwS c3.1 oT zS0 ++ zwS c3.1 oK zS0 ++ [(oH, .inr (0, [.null, .null, .null, .null, .int 0]))]) H locs := hC
  refine lv_dup hx hb dX5_init_41 rfl ?_
  refine zi_call (zi_runIN (n := 0) (rest := [.ref oH, .ref h0]) (As := []) S0 hC hN (c_X0_init l G c3 oH) [19] (by decide) rfl gX5_init_X0_init_n24 rfl rfl rfl kX5_init_nX0 (hN _ (by decide +kernel : Cond.methodLinkNest RX5 24 yX0_init "ZoneSampler" ∈ zNMw)) kX5_init_imX0 rfl (by decide +kernel) ⟨Nat.le_of_ble_eq_true rfl, Nat.le_of_ble_eq_true rfl⟩ rfl hl.1 rfl (Nat.le_of_ble_eq_true rfl) dX5_init_42 ⟨Nat.le_of_ble_eq_true rfl, Nat.le_of_ble_eq_true rfl⟩) hC [19] [0, 1, 2, 3, 4, 5, 6, 7, 8, 9, 10, 11, 12, 13, 14, 15, 16, 17, 18] rfl (wr := ([(h0, .inr (5, [.ref oN.1, .ref oT.1, .ref oK.1, .null, .null, .null, .int 0]))] ++ zwS c3.1 oN zS0 ++ zwS c3.1 oT zS0 ++ zwS c3.1 oK zS0)) rfl (by decide) (by decide) (fun w1 H locs hP1 hC => ?_)
  obtain ⟨o1, o2, o3, o4, rfl⟩ := hP1
  refine W.widen (k := 43) (n := 1055) (Nat.le_of_ble_eq_true rfl) (Nat.le_of_ble_eq_true rfl) ?_
  have hC : zC G c3 A s ([(h0, .inr (5, [.ref oN.1, .ref oT.1, .ref oK.1, .null, .null, .null, .int 0]))] ++ zwS c3.1 oN zS0 ++ zwS c3.1 oT zS0 ++ zwS c3.1 oK zS0 ++ zwH c3.1 oH (0, (o1, zS0), (o2, zS0), (o3, zS0), (o4, zS0))) H locs := hC
  refine zi_putF S0 hC (ci := 5) (C := RX5) (T := TX5) (N := 7) (v := .ref oH) jX5_init_X5 tyX5 tyX5_ok nmX5 0 rfl rfl 3 (by decide) kX5_init_25 rfl rfl hin rfl rfl rfl (Nat.le_of_ble_eq_true rfl) dX5_init_45 (ws2 := ([(h0, .inr (5, [.ref oN.1, .ref oT.1, .ref oK.1, .ref oH, .null, .null, .int 0]))] ++ zwS c3.1 oN zS0 ++ zwS c3.1 oT zS0 ++ zwS c3.1 oK zS0 ++ zwH c3.1 oH (0, (o1, zS0), (o2, zS0), (o3, zS0), (o4, zS0)))) rfl (fun H locs hC => ?_)
  refine lv_aload_n hx hb dX5_init_48 rfl (lv_at hl 0 rfl) ?_
  refine zi_new S0 hC (ci := 1) (fs := [.null, .int 0, .int 0, .int 0, .int 0, .int 0, .int 0, .int 0, .int 0, .int 0, .int 0, .int 0, .int 0, .int 0]) (C := RX1) (T := TX1) (N := 14) jX5_init_X1 tyX1 tyX1_ok kX5_init_c29 kX5_init_iX1 kX5_init_nX1 rfl (fun j hj => by rcases (show j = 0 ∨ j = 1 ∨ j = 2 ∨ j = 3 ∨ j = 4 ∨ j = 5 ∨ j = 6 ∨ j = 7 ∨ j = 8 ∨ j = 9 ∨ j = 10 ∨ j = 11 ∨ j = 12 ∨ j = 13 by omega) with rfl | rfl | rfl | rfl | rfl | rfl | rfl | rfl | rfl | rfl | rfl | rfl | rfl | rfl <;> rfl) (Nat.le_of_ble_eq_true rfl) (Nat.le_of_ble_eq_true rfl) dX5_init_49 (fun p1 H hC => ?_)
  refine W.widen (k := 44) (n := 1069) (Nat.le_of_ble_eq_true rfl) (Nat.le_of_ble_eq_true rfl) ?_
  have hC : zC G c3 A s ([(h0, .inr (5, [.ref oN.1, .ref oT.1, .ref oK.1, .ref oH, .null, .null, .int 0]))] ++ zwS c3.1 oN zS0 ++ zwS c3.1 oT zS0 ++ zwS c3.1 oK zS0 ++ zwH c3.1 oH (0, (o1, zS0), (o2, zS0), (o3, zS0), (o4, zS0)) ++ [(p1, .inr (1, [.null, .int 0, .int 0, .int 0, .int 0, .int 0, .int 0, .int 0, .int 0, .int 0, .int 0, .int 0, .int 0, .int 0]))]) H locs := hC
  refine lv_dup hx hb dX5_init_52 rfl ?_
  refine zi_call (zi_runIN (n := 0) (rest := [.ref p1, .ref h0]) (As := []) S0 hC hN (c_X1_init l G c3 p1) [44] (by decide) rfl gX5_init_X1_init_n31 rfl rfl rfl kX5_init_nX1 (hN _ (by decide +kernel : Cond.methodLinkNest RX5 31 yX1_init "ZoneSampler" ∈ zNMw)) kX5_init_imX1 rfl (by decide +kernel) ⟨Nat.le_of_ble_eq_true rfl, Nat.le_of_ble_eq_true rfl⟩ rfl hl.1 rfl (Nat.le_of_ble_eq_true rfl) dX5_init_53 ⟨Nat.le_of_ble_eq_true rfl, Nat.le_of_ble_eq_true rfl⟩) hC [44] [0, 1, 2, 3, 4, 5, 6, 7, 8, 9, 10, 11, 12, 13, 14, 15, 16, 17, 18, 19, 20, 21, 22, 23, 24, 25, 26, 27, 28, 29, 30, 31, 32, 33, 34, 35, 36, 37, 38, 39, 40, 41, 42, 43] rfl (wr := ([(h0, .inr (5, [.ref oN.1, .ref oT.1, .ref oK.1, .ref oH, .null, .null, .int 0]))] ++ zwS c3.1 oN zS0 ++ zwS c3.1 oT zS0 ++ zwS c3.1 oK zS0 ++ zwH c3.1 oH (0, (o1, zS0), (o2, zS0), (o3, zS0), (o4, zS0)))) rfl (by decide) (by decide) (fun w1 H locs hP1 hC => ?_)
  obtain ⟨p2, rfl⟩ := hP1
  refine W.widen (k := 45) (n := 1129) (Nat.le_of_ble_eq_true rfl) (Nat.le_of_ble_eq_true rfl) ?_
  have hC : zC G c3 A s ([(h0, .inr (5, [.ref oN.1, .ref oT.1, .ref oK.1, .ref oH, .null, .null, .int 0]))] ++ zwS c3.1 oN zS0 ++ zwS c3.1 oT zS0 ++ zwS c3.1 oK zS0 ++ zwH c3.1 oH (0, (o1, zS0), (o2, zS0), (o3, zS0), (o4, zS0)) ++ zwP c3.2.1 (p1, p2) zP0) H locs := hC
  refine zi_putF S0 hC (ci := 5) (C := RX5) (T := TX5) (N := 7) (v := .ref p1) jX5_init_X5 tyX5 tyX5_ok nmX5 0 rfl rfl 4 (by decide) kX5_init_32 rfl rfl hin rfl rfl rfl (Nat.le_of_ble_eq_true rfl) dX5_init_56 (ws2 := ([(h0, .inr (5, [.ref oN.1, .ref oT.1, .ref oK.1, .ref oH, .ref p1, .null, .int 0]))] ++ zwS c3.1 oN zS0 ++ zwS c3.1 oT zS0 ++ zwS c3.1 oK zS0 ++ zwH c3.1 oH (0, (o1, zS0), (o2, zS0), (o3, zS0), (o4, zS0)) ++ zwP c3.2.1 (p1, p2) zP0)) rfl (fun H locs hC => ?_)
  refine lv_aload_n hx hb dX5_init_59 rfl (lv_at hl 0 rfl) ?_
  refine zi_new S0 hC (ci := 3) (fs := [.null, .int 0, .int 0, .int 0, .int 0]) (C := RX3) (T := TX3) (N := 5) jX5_init_X3 tyX3 tyX3_ok kX5_init_c36 kX5_init_iX3 kX5_init_nX3 rfl (fun j hj => by rcases (show j = 0 ∨ j = 1 ∨ j = 2 ∨ j = 3 ∨ j = 4 by omega) with rfl | rfl | rfl | rfl | rfl <;> rfl) (Nat.le_of_ble_eq_true rfl) (Nat.le_of_ble_eq_true rfl) dX5_init_60 (fun v1 H hC => ?_)
  refine W.widen (k := 46) (n := 1134) (Nat.le_of_ble_eq_true rfl) (Nat.le_of_ble_eq_true rfl) ?_
  have hC : zC G c3 A s ([(h0, .inr (5, [.ref oN.1, .ref oT.1, .ref oK.1, .ref oH, .ref p1, .null, .int 0]))] ++ zwS c3.1 oN zS0 ++ zwS c3.1 oT zS0 ++ zwS c3.1 oK zS0 ++ zwH c3.1 oH (0, (o1, zS0), (o2, zS0), (o3, zS0), (o4, zS0)) ++ zwP c3.2.1 (p1, p2) zP0 ++ [(v1, .inr (3, [.null, .int 0, .int 0, .int 0, .int 0]))]) H locs := hC
  refine lv_dup hx hb dX5_init_63 rfl ?_
  refine zi_call (zi_runIN (n := 0) (rest := [.ref v1, .ref h0]) (As := []) S0 hC hN (c_X3_init l G c3 v1) [46] (by decide) rfl gX5_init_X3_init_n38 rfl rfl rfl kX5_init_nX3 (hN _ (by decide +kernel : Cond.methodLinkNest RX5 38 yX3_init "ZoneSampler" ∈ zNMw)) kX5_init_imX3 rfl (by decide +kernel) ⟨Nat.le_of_ble_eq_true rfl, Nat.le_of_ble_eq_true rfl⟩ rfl hl.1 rfl (Nat.le_of_ble_eq_true rfl) dX5_init_64 ⟨Nat.le_of_ble_eq_true rfl, Nat.le_of_ble_eq_true rfl⟩) hC [46] [0, 1, 2, 3, 4, 5, 6, 7, 8, 9, 10, 11, 12, 13, 14, 15, 16, 17, 18, 19, 20, 21, 22, 23, 24, 25, 26, 27, 28, 29, 30, 31, 32, 33, 34, 35, 36, 37, 38, 39, 40, 41, 42, 43, 44, 45] rfl (wr := ([(h0, .inr (5, [.ref oN.1, .ref oT.1, .ref oK.1, .ref oH, .ref p1, .null, .int 0]))] ++ zwS c3.1 oN zS0 ++ zwS c3.1 oT zS0 ++ zwS c3.1 oK zS0 ++ zwH c3.1 oH (0, (o1, zS0), (o2, zS0), (o3, zS0), (o4, zS0)) ++ zwP c3.2.1 (p1, p2) zP0)) rfl (by decide) (by decide) (fun w1 H locs hP1 hC => ?_)
  obtain ⟨v2, rfl⟩ := hP1
  refine W.widen (k := 47) (n := 1143) (Nat.le_of_ble_eq_true rfl) (Nat.le_of_ble_eq_true rfl) ?_
  have hC : zC G c3 A s ([(h0, .inr (5, [.ref oN.1, .ref oT.1, .ref oK.1, .ref oH, .ref p1, .null, .int 0]))] ++ zwS c3.1 oN zS0 ++ zwS c3.1 oT zS0 ++ zwS c3.1 oK zS0 ++ zwH c3.1 oH (0, (o1, zS0), (o2, zS0), (o3, zS0), (o4, zS0)) ++ zwP c3.2.1 (p1, p2) zP0 ++ zwV c3.1 (v1, v2) zV0) H locs := hC
  refine zi_putF S0 hC (ci := 5) (C := RX5) (T := TX5) (N := 7) (v := .ref v1) jX5_init_X5 tyX5 tyX5_ok nmX5 0 rfl rfl 5 (by decide) kX5_init_39 rfl rfl hin rfl rfl rfl (Nat.le_of_ble_eq_true rfl) dX5_init_67 (ws2 := ([(h0, .inr (5, [.ref oN.1, .ref oT.1, .ref oK.1, .ref oH, .ref p1, .ref v1, .int 0]))] ++ zwS c3.1 oN zS0 ++ zwS c3.1 oT zS0 ++ zwS c3.1 oK zS0 ++ zwH c3.1 oH (0, (o1, zS0), (o2, zS0), (o3, zS0), (o4, zS0)) ++ zwP c3.2.1 (p1, p2) zP0 ++ zwV c3.1 (v1, v2) zV0)) rfl (fun H locs hC => ?_)
  exact zi_vret S0 hr hlk ⟨_, ⟨oN, oT, oK, oH, o1, o2, o3, o4, (p1, p2), (v1, v2), rfl⟩, hC⟩ dX5_init_70
-- X6 <init>
theorem kX6_init_1 : Cond.methodLink RX6 1 objectInit ∈ wsX6_init := by decide +kernel
theorem kX6_init_oi : Cond.instanceMethod objectInit ∈ wsX6_init := by decide +kernel
theorem kX6_init_oc : Cond.code objectInit ⟨#[0xb1]⟩ 1 none ∈ wsX6_init := by decide +kernel
theorem kX6_init_arint : Cond.arrayClass .int ∈ wsX6_init := by decide +kernel
theorem kX6_init_7 : Cond.fieldLink RX6 7 "ZoneSamplerModel" "s" "[I" ∈ wsX6_init := by decide +kernel
theorem kX6_init_13 : Cond.fieldLink RX6 13 "ZoneSamplerModel" "aside" "[I" ∈ wsX6_init := by decide +kernel
theorem kX6_init_16 : Cond.fieldLink RX6 16 "ZoneSamplerModel" "past" "[I" ∈ wsX6_init := by decide +kernel
theorem kX6_init_19 : Cond.fieldLink RX6 19 "ZoneSamplerModel" "kept" "[I" ∈ wsX6_init := by decide +kernel
theorem kX6_init_22 : Cond.fieldLink RX6 22 "ZoneSamplerModel" "pad" "[I" ∈ wsX6_init := by decide +kernel
theorem kX6_init_arboolean : Cond.arrayClass .boolean ∈ wsX6_init := by decide +kernel
theorem kX6_init_25 : Cond.fieldLink RX6 25 "ZoneSamplerModel" "sounds" "[Z" ∈ wsX6_init := by decide +kernel
theorem kX6_init_29 : Cond.fieldLink RX6 29 "ZoneSamplerModel" "read" "[I" ∈ wsX6_init := by decide +kernel
theorem jX6_init_X6 : ∀ w ∈ u_ws RX6 TX6 17, w ∈ wsX6_init := by decide +kernel
set_option maxHeartbeats 4000000 in
set_option maxRecDepth 100000 in
theorem c_X6_init (l : Launch) (G : va_G) (c3 : zT3) (h0 : Nat) : zMn l yX6_init wsX6_init ⟨1, 7, 1204, 12⟩ G c3 [(h0, .inr (6, [.null, .null, .null, .int 0, .null, .int 0, .null, .int 0, .null, .int 0, .int 0, .int 0, .null, .int 0, .int 0, .int 0, .int 0]))] [.ref h0] (fun w => ∃ o : zR8, o.1 = h0 ∧ w = zwM c3.1 c3.2.2 o zM0) 7 1204 := by
  refine zMn.of (cc := cX6_init) (maxL := 1) (by decide) rfl rfl (Nat.le_of_ble_eq_true rfl) ?_
  intro p e s m args below meth c A ls S0 hr hlk hin hN hC hl
  have S0 : CallFix p m c cX6_init 1 s args wsX6_init RX6 := S0
  have hl : lv_has ls 1 [(0, .ref h0)] := hl
  have hx := S0.1
  have hb := S0.2.1
  obtain ⟨H, hH⟩ : ∃ y, y = s.heap := ⟨_, rfl⟩
  rw [← hH] at hC ⊢
  obtain ⟨locs, hlo⟩ : ∃ y : List Loc, y = [] := ⟨_, rfl⟩
  rw [← hlo] at hC ⊢
  clear hH hlo
  refine lv_aload_n hx hb dX6_init_0 rfl (lv_at hl 0 rfl) ?_
  refine zi_obj S0 hl.1 kX6_init_1 kX6_init_oi kX6_init_oc (Nat.le_of_ble_eq_true rfl) (Nat.le_of_ble_eq_true rfl) dX6_init_1 ?_
  refine lv_aload_n hx hb dX6_init_4 rfl (lv_at hl 0 rfl) ?_
  refine lv_sipush (v := 150) hx hb dX6_init_5 (by decide) ?_
  refine zi_newa S0 hC (atype := .int) (ty := .int) rfl kX6_init_arint 0 rfl (fun _ _ h => h) (N := 150) (by decide) (by decide) rfl (Nat.le_of_ble_eq_true rfl) (Nat.le_of_ble_eq_true rfl) (Nat.le_of_ble_eq_true rfl) dX6_init_8 (fun q0 H hC => ?_)
  refine W.widen (k := 1) (n := 150) (Nat.le_of_ble_eq_true rfl) (Nat.le_of_ble_eq_true rfl) ?_
  have hC : zC G c3 A s ([(h0, .inr (6, [.null, .null, .null, .int 0, .null, .int 0, .null, .int 0, .null, .int 0, .int 0, .int 0, .null, .int 0, .int 0, .int 0, .int 0]))] ++ [(q0, .inl (c3.1, 150, .inl (fun _ => 0)))]) H locs := hC
  refine zi_putF S0 hC (ci := 6) (C := RX6) (T := TX6) (N := 17) (v := .ref q0) jX6_init_X6 tyX6 tyX6_ok nmX6 0 rfl rfl 0 (by decide) kX6_init_7 rfl rfl hin rfl rfl rfl (Nat.le_of_ble_eq_true rfl) dX6_init_10 (ws2 := ([(h0, .inr (6, [.ref q0, .null, .null, .int 0, .null, .int 0, .null, .int 0, .null, .int 0, .int 0, .int 0, .null, .int 0, .int 0, .int 0, .int 0]))] ++ [(q0, .inl (c3.1, 150, .inl (fun _ => 0)))])) rfl (fun H locs hC => ?_)
  refine lv_aload_n hx hb dX6_init_13 rfl (lv_at hl 0 rfl) ?_
  refine lv_sipush (v := 150) hx hb dX6_init_14 (by decide) ?_
  refine zi_newa S0 hC (atype := .int) (ty := .int) rfl kX6_init_arint 0 rfl (fun _ _ h => h) (N := 150) (by decide) (by decide) rfl (Nat.le_of_ble_eq_true rfl) (Nat.le_of_ble_eq_true rfl) (Nat.le_of_ble_eq_true rfl) dX6_init_17 (fun q1 H hC => ?_)
  refine W.widen (k := 2) (n := 300) (Nat.le_of_ble_eq_true rfl) (Nat.le_of_ble_eq_true rfl) ?_
  have hC : zC G c3 A s ([(h0, .inr (6, [.ref q0, .null, .null, .int 0, .null, .int 0, .null, .int 0, .null, .int 0, .int 0, .int 0, .null, .int 0, .int 0, .int 0, .int 0]))] ++ [(q0, .inl (c3.1, 150, .inl (fun _ => 0)))] ++ [(q1, .inl (c3.1, 150, .inl (fun _ => 0)))]) H locs := hC
  refine zi_putF S0 hC (ci := 6) (C := RX6) (T := TX6) (N := 17) (v := .ref q1) jX6_init_X6 tyX6 tyX6_ok nmX6 0 rfl rfl 1 (by decide) kX6_init_13 rfl rfl hin rfl rfl rfl (Nat.le_of_ble_eq_true rfl) dX6_init_19 (ws2 := ([(h0, .inr (6, [.ref q0, .ref q1, .null, .int 0, .null, .int 0, .null, .int 0, .null, .int 0, .int 0, .int 0, .null, .int 0, .int 0, .int 0, .int 0]))] ++ [(q0, .inl (c3.1, 150, .inl (fun _ => 0)))] ++ [(q1, .inl (c3.1, 150, .inl (fun _ => 0)))])) rfl (fun H locs hC => ?_)
  refine lv_aload_n hx hb dX6_init_22 rfl (lv_at hl 0 rfl) ?_
  refine lv_sipush (v := 600) hx hb dX6_init_23 (by decide) ?_
  refine zi_newa S0 hC (atype := .int) (ty := .int) rfl kX6_init_arint 0 rfl (fun _ _ h => h) (N := 600) (by decide) (by decide) rfl (Nat.le_of_ble_eq_true rfl) (Nat.le_of_ble_eq_true rfl) (Nat.le_of_ble_eq_true rfl) dX6_init_26 (fun q2 H hC => ?_)
  refine W.widen (k := 3) (n := 900) (Nat.le_of_ble_eq_true rfl) (Nat.le_of_ble_eq_true rfl) ?_
  have hC : zC G c3 A s ([(h0, .inr (6, [.ref q0, .ref q1, .null, .int 0, .null, .int 0, .null, .int 0, .null, .int 0, .int 0, .int 0, .null, .int 0, .int 0, .int 0, .int 0]))] ++ [(q0, .inl (c3.1, 150, .inl (fun _ => 0)))] ++ [(q1, .inl (c3.1, 150, .inl (fun _ => 0)))] ++ [(q2, .inl (c3.1, 600, .inl (fun _ => 0)))]) H locs := hC
  refine zi_putF S0 hC (ci := 6) (C := RX6) (T := TX6) (N := 17) (v := .ref q2) jX6_init_X6 tyX6 tyX6_ok nmX6 0 rfl rfl 2 (by decide) kX6_init_16 rfl rfl hin rfl rfl rfl (Nat.le_of_ble_eq_true rfl) dX6_init_28 (ws2 := ([(h0, .inr (6, [.ref q0, .ref q1, .ref q2, .int 0, .null, .int 0, .null, .int 0, .null, .int 0, .int 0, .int 0, .null, .int 0, .int 0, .int 0, .int 0]))] ++ [(q0, .inl (c3.1, 150, .inl (fun _ => 0)))] ++ [(q1, .inl (c3.1, 150, .inl (fun _ => 0)))] ++ [(q2, .inl (c3.1, 600, .inl (fun _ => 0)))])) rfl (fun H locs hC => ?_)
  refine lv_aload_n hx hb dX6_init_31 rfl (lv_at hl 0 rfl) ?_
  refine lv_sipush (v := 150) hx hb dX6_init_32 (by decide) ?_
  refine zi_newa S0 hC (atype := .int) (ty := .int) rfl kX6_init_arint 0 rfl (fun _ _ h => h) (N := 150) (by decide) (by decide) rfl (Nat.le_of_ble_eq_true rfl) (Nat.le_of_ble_eq_true rfl) (Nat.le_of_ble_eq_true rfl) dX6_init_35 (fun q3 H hC => ?_)
  refine W.widen (k := 4) (n := 1050) (Nat.le_of_ble_eq_true rfl) (Nat.le_of_ble_eq_true rfl) ?_
  have hC : zC G c3 A s ([(h0, .inr (6, [.ref q0, .ref q1, .ref q2, .int 0, .null, .int 0, .null, .int 0, .null, .int 0, .int 0, .int 0, .null, .int 0, .int 0, .int 0, .int 0]))] ++ [(q0, .inl (c3.1, 150, .inl (fun _ => 0)))] ++ [(q1, .inl (c3.1, 150, .inl (fun _ => 0)))] ++ [(q2, .inl (c3.1, 600, .inl (fun _ => 0)))] ++ [(q3, .inl (c3.1, 150, .inl (fun _ => 0)))]) H locs := hC
  refine zi_putF S0 hC (ci := 6) (C := RX6) (T := TX6) (N := 17) (v := .ref q3) jX6_init_X6 tyX6 tyX6_ok nmX6 0 rfl rfl 4 (by decide) kX6_init_19 rfl rfl hin rfl rfl rfl (Nat.le_of_ble_eq_true rfl) dX6_init_37 (ws2 := ([(h0, .inr (6, [.ref q0, .ref q1, .ref q2, .int 0, .ref q3, .int 0, .null, .int 0, .null, .int 0, .int 0, .int 0, .null, .int 0, .int 0, .int 0, .int 0]))] ++ [(q0, .inl (c3.1, 150, .inl (fun _ => 0)))] ++ [(q1, .inl (c3.1, 150, .inl (fun _ => 0)))] ++ [(q2, .inl (c3.1, 600, .inl (fun _ => 0)))] ++ [(q3, .inl (c3.1, 150, .inl (fun _ => 0)))])) rfl (fun H locs hC => ?_)
  refine lv_aload_n hx hb dX6_init_40 rfl (lv_at hl 0 rfl) ?_
  refine lv_bipush (v := 60) hx hb dX6_init_41 (by decide) ?_
  refine zi_newa S0 hC (atype := .int) (ty := .int) rfl kX6_init_arint 0 rfl (fun _ _ h => h) (N := 60) (by decide) (by decide) rfl (Nat.le_of_ble_eq_true rfl) (Nat.le_of_ble_eq_true rfl) (Nat.le_of_ble_eq_true rfl) dX6_init_43 (fun q4 H hC => ?_)
  refine W.widen (k := 5) (n := 1110) (Nat.le_of_ble_eq_true rfl) (Nat.le_of_ble_eq_true rfl) ?_
  have hC : zC G c3 A s ([(h0, .inr (6, [.ref q0, .ref q1, .ref q2, .int 0, .ref q3, .int 0, .null, .int 0, .null, .int 0, .int 0, .int 0, .null, .int 0, .int 0, .int 0, .int 0]))] ++ [(q0, .inl (c3.1, 150, .inl (fun _ => 0)))] ++ [(q1, .inl (c3.1, 150, .inl (fun _ => 0)))] ++ [(q2, .inl (c3.1, 600, .inl (fun _ => 0)))] ++ [(q3, .inl (c3.1, 150, .inl (fun _ => 0)))] ++ [(q4, .inl (c3.1, 60, .inl (fun _ => 0)))]) H locs := hC
  refine zi_putF S0 hC (ci := 6) (C := RX6) (T := TX6) (N := 17) (v := .ref q4) jX6_init_X6 tyX6 tyX6_ok nmX6 0 rfl rfl 6 (by decide) kX6_init_22 rfl rfl hin rfl rfl rfl (Nat.le_of_ble_eq_true rfl) dX6_init_45 (ws2 := ([(h0, .inr (6, [.ref q0, .ref q1, .ref q2, .int 0, .ref q3, .int 0, .ref q4, .int 0, .null, .int 0, .int 0, .int 0, .null, .int 0, .int 0, .int 0, .int 0]))] ++ [(q0, .inl (c3.1, 150, .inl (fun _ => 0)))] ++ [(q1, .inl (c3.1, 150, .inl (fun _ => 0)))] ++ [(q2, .inl (c3.1, 600, .inl (fun _ => 0)))] ++ [(q3, .inl (c3.1, 150, .inl (fun _ => 0)))] ++ [(q4, .inl (c3.1, 60, .inl (fun _ => 0)))])) rfl (fun H locs hC => ?_)
  refine lv_aload_n hx hb dX6_init_48 rfl (lv_at hl 0 rfl) ?_
  refine lv_bipush (v := 10) hx hb dX6_init_49 (by decide) ?_
  refine zi_newa S0 hC (atype := .boolean) (ty := .boolean) rfl kX6_init_arboolean 2 rfl (fun _ _ h => h) (N := 10) (by decide) (by decide) rfl (Nat.le_of_ble_eq_true rfl) (Nat.le_of_ble_eq_true rfl) (Nat.le_of_ble_eq_true rfl) dX6_init_51 (fun q5 H hC => ?_)
  refine W.widen (k := 6) (n := 1120) (Nat.le_of_ble_eq_true rfl) (Nat.le_of_ble_eq_true rfl) ?_
  have hC : zC G c3 A s ([(h0, .inr (6, [.ref q0, .ref q1, .ref q2, .int 0, .ref q3, .int 0, .ref q4, .int 0, .null, .int 0, .int 0, .int 0, .null, .int 0, .int 0, .int 0, .int 0]))] ++ [(q0, .inl (c3.1, 150, .inl (fun _ => 0)))] ++ [(q1, .inl (c3.1, 150, .inl (fun _ => 0)))] ++ [(q2, .inl (c3.1, 600, .inl (fun _ => 0)))] ++ [(q3, .inl (c3.1, 150, .inl (fun _ => 0)))] ++ [(q4, .inl (c3.1, 60, .inl (fun _ => 0)))] ++ [(q5, .inl (c3.2.2, 10, .inl (fun _ => 0)))]) H locs := hC
  refine zi_putF S0 hC (ci := 6) (C := RX6) (T := TX6) (N := 17) (v := .ref q5) jX6_init_X6 tyX6 tyX6_ok nmX6 0 rfl rfl 8 (by decide) kX6_init_25 rfl rfl hin rfl rfl rfl (Nat.le_of_ble_eq_true rfl) dX6_init_53 (ws2 := ([(h0, .inr (6, [.ref q0, .ref q1, .ref q2, .int 0, .ref q3, .int 0, .ref q4, .int 0, .ref q5, .int 0, .int 0, .int 0, .null, .int 0, .int 0, .int 0, .int 0]))] ++ [(q0, .inl (c3.1, 150, .inl (fun _ => 0)))] ++ [(q1, .inl (c3.1, 150, .inl (fun _ => 0)))] ++ [(q2, .inl (c3.1, 600, .inl (fun _ => 0)))] ++ [(q3, .inl (c3.1, 150, .inl (fun _ => 0)))] ++ [(q4, .inl (c3.1, 60, .inl (fun _ => 0)))] ++ [(q5, .inl (c3.2.2, 10, .inl (fun _ => 0)))])) rfl (fun H locs hC => ?_)
  refine lv_aload_n hx hb dX6_init_56 rfl (lv_at hl 0 rfl) ?_
  refine lv_bipush (v := 84) hx hb dX6_init_57 (by decide) ?_
  refine zi_newa S0 hC (atype := .int) (ty := .int) rfl kX6_init_arint 0 rfl (fun _ _ h => h) (N := 84) (by decide) (by decide) rfl (Nat.le_of_ble_eq_true rfl) (Nat.le_of_ble_eq_true rfl) (Nat.le_of_ble_eq_true rfl) dX6_init_59 (fun q6 H hC => ?_)
  refine W.widen (k := 7) (n := 1204) (Nat.le_of_ble_eq_true rfl) (Nat.le_of_ble_eq_true rfl) ?_
  have hC : zC G c3 A s ([(h0, .inr (6, [.ref q0, .ref q1, .ref q2, .int 0, .ref q3, .int 0, .ref q4, .int 0, .ref q5, .int 0, .int 0, .int 0, .null, .int 0, .int 0, .int 0, .int 0]))] ++ [(q0, .inl (c3.1, 150, .inl (fun _ => 0)))] ++ [(q1, .inl (c3.1, 150, .inl (fun _ => 0)))] ++ [(q2, .inl (c3.1, 600, .inl (fun _ => 0)))] ++ [(q3, .inl (c3.1, 150, .inl (fun _ => 0)))] ++ [(q4, .inl (c3.1, 60, .inl (fun _ => 0)))] ++ [(q5, .inl (c3.2.2, 10, .inl (fun _ => 0)))] ++ [(q6, .inl (c3.1, 84, .inl (fun _ => 0)))]) H locs := hC
  refine zi_putF S0 hC (ci := 6) (C := RX6) (T := TX6) (N := 17) (v := .ref q6) jX6_init_X6 tyX6 tyX6_ok nmX6 0 rfl rfl 12 (by decide) kX6_init_29 rfl rfl hin rfl rfl rfl (Nat.le_of_ble_eq_true rfl) dX6_init_61 (ws2 := ([(h0, .inr (6, [.ref q0, .ref q1, .ref q2, .int 0, .ref q3, .int 0, .ref q4, .int 0, .ref q5, .int 0, .int 0, .int 0, .ref q6, .int 0, .int 0, .int 0, .int 0]))] ++ [(q0, .inl (c3.1, 150, .inl (fun _ => 0)))] ++ [(q1, .inl (c3.1, 150, .inl (fun _ => 0)))] ++ [(q2, .inl (c3.1, 600, .inl (fun _ => 0)))] ++ [(q3, .inl (c3.1, 150, .inl (fun _ => 0)))] ++ [(q4, .inl (c3.1, 60, .inl (fun _ => 0)))] ++ [(q5, .inl (c3.2.2, 10, .inl (fun _ => 0)))] ++ [(q6, .inl (c3.1, 84, .inl (fun _ => 0)))])) rfl (fun H locs hC => ?_)
  refine lv_aload_n hx hb dX6_init_64 rfl (lv_at hl 0 rfl) ?_
  refine zi_get S0 hC (ci := 6) (C := RX6) (T := TX6) (N := 17) (v := .ref q0) jX6_init_X6 0 rfl rfl 0 (by decide) kX6_init_7 rfl rfl dX6_init_65 ?_
  refine lv_bipush (v := 9) hx hb dX6_init_68 (by decide) ?_
  refine lv_bipush (v := 6) hx hb dX6_init_70 (by decide) ?_
  refine zi_iast S0 hC 1 rfl (show zast 150 (fun _ => 0) 9 6 = some (upd (fun _ => 0) 9 6) from if_pos (by decide)) dX6_init_72 (ws2 := ([(h0, .inr (6, [.ref q0, .ref q1, .ref q2, .int 0, .ref q3, .int 0, .ref q4, .int 0, .ref q5, .int 0, .int 0, .int 0, .ref q6, .int 0, .int 0, .int 0, .int 0]))] ++ [(q0, .inl (c3.1, 150, .inl (upd (fun _ => 0) 9 6)))] ++ [(q1, .inl (c3.1, 150, .inl (fun _ => 0)))] ++ [(q2, .inl (c3.1, 600, .inl (fun _ => 0)))] ++ [(q3, .inl (c3.1, 150, .inl (fun _ => 0)))] ++ [(q4, .inl (c3.1, 60, .inl (fun _ => 0)))] ++ [(q5, .inl (c3.2.2, 10, .inl (fun _ => 0)))] ++ [(q6, .inl (c3.1, 84, .inl (fun _ => 0)))])) rfl (fun H locs hC => ?_)
  refine lv_aload_n hx hb dX6_init_73 rfl (lv_at hl 0 rfl) ?_
  refine zi_get S0 hC (ci := 6) (C := RX6) (T := TX6) (N := 17) (v := .ref q0) jX6_init_X6 0 rfl rfl 0 (by decide) kX6_init_7 rfl rfl dX6_init_74 ?_
  refine lv_bipush (v := 11) hx hb dX6_init_77 (by decide) ?_
  refine lv_bipush (v := 10) hx hb dX6_init_79 (by decide) ?_
  refine zi_iast S0 hC 1 rfl (show zast 150 (upd (fun _ => 0) 9 6) 11 10 = some (upd (upd (fun _ => 0) 9 6) 11 10) from if_pos (by decide)) dX6_init_81 (ws2 := ([(h0, .inr (6, [.ref q0, .ref q1, .ref q2, .int 0, .ref q3, .int 0, .ref q4, .int 0, .ref q5, .int 0, .int 0, .int 0, .ref q6, .int 0, .int 0, .int 0, .int 0]))] ++ [(q0, .inl (c3.1, 150, .inl (upd (upd (fun _ => 0) 9 6) 11 10)))] ++ [(q1, .inl (c3.1, 150, .inl (fun _ => 0)))] ++ [(q2, .inl (c3.1, 600, .inl (fun _ => 0)))] ++ [(q3, .inl (c3.1, 150, .inl (fun _ => 0)))] ++ [(q4, .inl (c3.1, 60, .inl (fun _ => 0)))] ++ [(q5, .inl (c3.2.2, 10, .inl (fun _ => 0)))] ++ [(q6, .inl (c3.1, 84, .inl (fun _ => 0)))])) rfl (fun H locs hC => ?_)
  have hC := hC.perm (ws2 := zwM c3.1 c3.2.2 (h0, q0, q1, q2, q3, q4, q5, q6) zM0) [0, 1, 2, 3, 4, 5, 6, 7] (by decide) rfl
  exact zi_vret S0 hr hlk ⟨_, ⟨(h0, q0, q1, q2, q3, q4, q5, q6), rfl, rfl⟩, hC⟩ dX6_init_82
