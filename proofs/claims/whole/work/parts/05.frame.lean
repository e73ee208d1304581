/-! my frame: the world of a method as one list of cells, a contract that names the answer and the new world, rows over it -/
abbrev vwCl : List vw_C := [(RX0, TX0, 5), (RX1, TX1, 14), (RX2, TX2, 5), (RX3, TX3, 5), (RX4, TX4, 3), (RX5, TX5, 7), (RX6, TX6, 17)]
abbrev zR2 : Type := Nat × Nat
abbrev zR6 : Type := Nat × Nat × zR2 × zR2
abbrev zTb : Type := Int32 × (Nat → Int32)
abbrev zSt : Type := zTb × zTb × (Nat → Int32) × Int32 × Int32
/-- a table: its object (width 7), its cells -/
abbrev zwT (cI : ClassId) (n : Nat) (o : zR2) (t : zTb) : va_W := [(o.1, .inr (4, [.int 7, .ref o.2, .int t.1])), (o.2, .inl (cI, n, .inl t.2))]
/-- a state: its object, its numbers, its zones, its voices -/
abbrev zwS (cI : ClassId) (o : zR6) (S : zSt) : va_W := [(o.1, .inr (2, [.ref o.2.2.1.1, .ref o.2.2.2.1, .ref o.2.1, .int S.2.2.2.1, .int S.2.2.2.2])), (o.2.1, .inl (cI, 13, .inl S.2.2.1)), (o.2.2.1.1, .inr (4, [.int 7, .ref o.2.2.1.2, .int S.1.1])), (o.2.2.1.2, .inl (cI, 70, .inl S.1.2)), (o.2.2.2.1, .inr (4, [.int 7, .ref o.2.2.2.2, .int S.2.1.1])), (o.2.2.2.2, .inl (cI, 56, .inl S.2.1.2))]
theorem zarr_congr {cI : ClassId} {N : Nat} {f g : Nat → Value} (h : ∀ j, j < N → f j = g j) : arrV cI N f = arrV cI N g := by
  unfold arrV
  have : (Array.ofFn (n := N) fun j => f j.val) = Array.ofFn (n := N) fun j => g j.val := by
    congr 1
    funext j
    exact h _ j.isLt
  rw [this]
theorem z_s1 {α : Type} {a b : α} (h : some a = some b) : a = b := Option.some.inj h
theorem z_s2 {α1 : Type} {α2 : Type} {a1 b1 : α1} {a2 b2 : α2} (h : some (a1, a2) = some (b1, b2)) : a1 = b1 ∧ a2 = b2 := by cases h; exact ⟨rfl, rfl⟩
theorem z_s3 {α1 : Type} {α2 : Type} {α3 : Type} {a1 b1 : α1} {a2 b2 : α2} {a3 b3 : α3} (h : some (a1, a2, a3) = some (b1, b2, b3)) : a1 = b1 ∧ a2 = b2 ∧ a3 = b3 := by cases h; exact ⟨rfl, rfl, rfl⟩
theorem z_s4 {α1 : Type} {α2 : Type} {α3 : Type} {α4 : Type} {a1 b1 : α1} {a2 b2 : α2} {a3 b3 : α3} {a4 b4 : α4} (h : some (a1, a2, a3, a4) = some (b1, b2, b3, b4)) : a1 = b1 ∧ a2 = b2 ∧ a3 = b3 ∧ a4 = b4 := by cases h; exact ⟨rfl, rfl, rfl, rfl⟩
theorem z_s5 {α1 : Type} {α2 : Type} {α3 : Type} {α4 : Type} {α5 : Type} {a1 b1 : α1} {a2 b2 : α2} {a3 b3 : α3} {a4 b4 : α4} {a5 b5 : α5} (h : some (a1, a2, a3, a4, a5) = some (b1, b2, b3, b4, b5)) : a1 = b1 ∧ a2 = b2 ∧ a3 = b3 ∧ a4 = b4 ∧ a5 = b5 := by cases h; exact ⟨rfl, rfl, rfl, rfl, rfl⟩
theorem z_s6 {α1 : Type} {α2 : Type} {α3 : Type} {α4 : Type} {α5 : Type} {α6 : Type} {a1 b1 : α1} {a2 b2 : α2} {a3 b3 : α3} {a4 b4 : α4} {a5 b5 : α5} {a6 b6 : α6} (h : some (a1, a2, a3, a4, a5, a6) = some (b1, b2, b3, b4, b5, b6)) : a1 = b1 ∧ a2 = b2 ∧ a3 = b3 ∧ a4 = b4 ∧ a5 = b5 ∧ a6 = b6 := by cases h; exact ⟨rfl, rfl, rfl, rfl, rfl, rfl⟩
theorem z_s7 {α1 : Type} {α2 : Type} {α3 : Type} {α4 : Type} {α5 : Type} {α6 : Type} {α7 : Type} {a1 b1 : α1} {a2 b2 : α2} {a3 b3 : α3} {a4 b4 : α4} {a5 b5 : α5} {a6 b6 : α6} {a7 b7 : α7} (h : some (a1, a2, a3, a4, a5, a6, a7) = some (b1, b2, b3, b4, b5, b6, b7)) : a1 = b1 ∧ a2 = b2 ∧ a3 = b3 ∧ a4 = b4 ∧ a5 = b5 ∧ a6 = b6 ∧ a7 = b7 := by cases h; exact ⟨rfl, rfl, rfl, rfl, rfl, rfl, rfl⟩
theorem z_s8 {α1 : Type} {α2 : Type} {α3 : Type} {α4 : Type} {α5 : Type} {α6 : Type} {α7 : Type} {α8 : Type} {a1 b1 : α1} {a2 b2 : α2} {a3 b3 : α3} {a4 b4 : α4} {a5 b5 : α5} {a6 b6 : α6} {a7 b7 : α7} {a8 b8 : α8} (h : some (a1, a2, a3, a4, a5, a6, a7, a8) = some (b1, b2, b3, b4, b5, b6, b7, b8)) : a1 = b1 ∧ a2 = b2 ∧ a3 = b3 ∧ a4 = b4 ∧ a5 = b5 ∧ a6 = b6 ∧ a7 = b7 ∧ a8 = b8 := by cases h; exact ⟨rfl, rfl, rfl, rfl, rfl, rfl, rfl, rfl⟩
theorem z_s9 {α1 : Type} {α2 : Type} {α3 : Type} {α4 : Type} {α5 : Type} {α6 : Type} {α7 : Type} {α8 : Type} {α9 : Type} {a1 b1 : α1} {a2 b2 : α2} {a3 b3 : α3} {a4 b4 : α4} {a5 b5 : α5} {a6 b6 : α6} {a7 b7 : α7} {a8 b8 : α8} {a9 b9 : α9} (h : some (a1, a2, a3, a4, a5, a6, a7, a8, a9) = some (b1, b2, b3, b4, b5, b6, b7, b8, b9)) : a1 = b1 ∧ a2 = b2 ∧ a3 = b3 ∧ a4 = b4 ∧ a5 = b5 ∧ a6 = b6 ∧ a7 = b7 ∧ a8 = b8 ∧ a9 = b9 := by cases h; exact ⟨rfl, rfl, rfl, rfl, rfl, rfl, rfl, rfl, rfl⟩
theorem z_s10 {α1 : Type} {α2 : Type} {α3 : Type} {α4 : Type} {α5 : Type} {α6 : Type} {α7 : Type} {α8 : Type} {α9 : Type} {α10 : Type} {a1 b1 : α1} {a2 b2 : α2} {a3 b3 : α3} {a4 b4 : α4} {a5 b5 : α5} {a6 b6 : α6} {a7 b7 : α7} {a8 b8 : α8} {a9 b9 : α9} {a10 b10 : α10} (h : some (a1, a2, a3, a4, a5, a6, a7, a8, a9, a10) = some (b1, b2, b3, b4, b5, b6, b7, b8, b9, b10)) : a1 = b1 ∧ a2 = b2 ∧ a3 = b3 ∧ a4 = b4 ∧ a5 = b5 ∧ a6 = b6 ∧ a7 = b7 ∧ a8 = b8 ∧ a9 = b9 ∧ a10 = b10 := by cases h; exact ⟨rfl, rfl, rfl, rfl, rfl, rfl, rfl, rfl, rfl, rfl⟩
theorem z_s11 {α1 : Type} {α2 : Type} {α3 : Type} {α4 : Type} {α5 : Type} {α6 : Type} {α7 : Type} {α8 : Type} {α9 : Type} {α10 : Type} {α11 : Type} {a1 b1 : α1} {a2 b2 : α2} {a3 b3 : α3} {a4 b4 : α4} {a5 b5 : α5} {a6 b6 : α6} {a7 b7 : α7} {a8 b8 : α8} {a9 b9 : α9} {a10 b10 : α10} {a11 b11 : α11} (h : some (a1, a2, a3, a4, a5, a6, a7, a8, a9, a10, a11) = some (b1, b2, b3, b4, b5, b6, b7, b8, b9, b10, b11)) : a1 = b1 ∧ a2 = b2 ∧ a3 = b3 ∧ a4 = b4 ∧ a5 = b5 ∧ a6 = b6 ∧ a7 = b7 ∧ a8 = b8 ∧ a9 = b9 ∧ a10 = b10 ∧ a11 = b11 := by cases h; exact ⟨rfl, rfl, rfl, rfl, rfl, rfl, rfl, rfl, rfl, rfl, rfl⟩
theorem z_s12 {α1 : Type} {α2 : Type} {α3 : Type} {α4 : Type} {α5 : Type} {α6 : Type} {α7 : Type} {α8 : Type} {α9 : Type} {α10 : Type} {α11 : Type} {α12 : Type} {a1 b1 : α1} {a2 b2 : α2} {a3 b3 : α3} {a4 b4 : α4} {a5 b5 : α5} {a6 b6 : α6} {a7 b7 : α7} {a8 b8 : α8} {a9 b9 : α9} {a10 b10 : α10} {a11 b11 : α11} {a12 b12 : α12} (h : some (a1, a2, a3, a4, a5, a6, a7, a8, a9, a10, a11, a12) = some (b1, b2, b3, b4, b5, b6, b7, b8, b9, b10, b11, b12)) : a1 = b1 ∧ a2 = b2 ∧ a3 = b3 ∧ a4 = b4 ∧ a5 = b5 ∧ a6 = b6 ∧ a7 = b7 ∧ a8 = b8 ∧ a9 = b9 ∧ a10 = b10 ∧ a11 = b11 ∧ a12 = b12 := by cases h; exact ⟨rfl, rfl, rfl, rfl, rfl, rfl, rfl, rfl, rfl, rfl, rfl, rfl⟩
theorem z_s13 {α1 : Type} {α2 : Type} {α3 : Type} {α4 : Type} {α5 : Type} {α6 : Type} {α7 : Type} {α8 : Type} {α9 : Type} {α10 : Type} {α11 : Type} {α12 : Type} {α13 : Type} {a1 b1 : α1} {a2 b2 : α2} {a3 b3 : α3} {a4 b4 : α4} {a5 b5 : α5} {a6 b6 : α6} {a7 b7 : α7} {a8 b8 : α8} {a9 b9 : α9} {a10 b10 : α10} {a11 b11 : α11} {a12 b12 : α12} {a13 b13 : α13} (h : some (a1, a2, a3, a4, a5, a6, a7, a8, a9, a10, a11, a12, a13) = some (b1, b2, b3, b4, b5, b6, b7, b8, b9, b10, b11, b12, b13)) : a1 = b1 ∧ a2 = b2 ∧ a3 = b3 ∧ a4 = b4 ∧ a5 = b5 ∧ a6 = b6 ∧ a7 = b7 ∧ a8 = b8 ∧ a9 = b9 ∧ a10 = b10 ∧ a11 = b11 ∧ a12 = b12 ∧ a13 = b13 := by cases h; exact ⟨rfl, rfl, rfl, rfl, rfl, rfl, rfl, rfl, rfl, rfl, rfl, rfl, rfl⟩
theorem z_s14 {α1 : Type} {α2 : Type} {α3 : Type} {α4 : Type} {α5 : Type} {α6 : Type} {α7 : Type} {α8 : Type} {α9 : Type} {α10 : Type} {α11 : Type} {α12 : Type} {α13 : Type} {α14 : Type} {a1 b1 : α1} {a2 b2 : α2} {a3 b3 : α3} {a4 b4 : α4} {a5 b5 : α5} {a6 b6 : α6} {a7 b7 : α7} {a8 b8 : α8} {a9 b9 : α9} {a10 b10 : α10} {a11 b11 : α11} {a12 b12 : α12} {a13 b13 : α13} {a14 b14 : α14} (h : some (a1, a2, a3, a4, a5, a6, a7, a8, a9, a10, a11, a12, a13, a14) = some (b1, b2, b3, b4, b5, b6, b7, b8, b9, b10, b11, b12, b13, b14)) : a1 = b1 ∧ a2 = b2 ∧ a3 = b3 ∧ a4 = b4 ∧ a5 = b5 ∧ a6 = b6 ∧ a7 = b7 ∧ a8 = b8 ∧ a9 = b9 ∧ a10 = b10 ∧ a11 = b11 ∧ a12 = b12 ∧ a13 = b13 ∧ a14 = b14 := by cases h; exact ⟨rfl, rfl, rfl, rfl, rfl, rfl, rfl, rfl, rfl, rfl, rfl, rfl, rfl, rfl⟩
theorem z_s15 {α1 : Type} {α2 : Type} {α3 : Type} {α4 : Type} {α5 : Type} {α6 : Type} {α7 : Type} {α8 : Type} {α9 : Type} {α10 : Type} {α11 : Type} {α12 : Type} {α13 : Type} {α14 : Type} {α15 : Type} {a1 b1 : α1} {a2 b2 : α2} {a3 b3 : α3} {a4 b4 : α4} {a5 b5 : α5} {a6 b6 : α6} {a7 b7 : α7} {a8 b8 : α8} {a9 b9 : α9} {a10 b10 : α10} {a11 b11 : α11} {a12 b12 : α12} {a13 b13 : α13} {a14 b14 : α14} {a15 b15 : α15} (h : some (a1, a2, a3, a4, a5, a6, a7, a8, a9, a10, a11, a12, a13, a14, a15) = some (b1, b2, b3, b4, b5, b6, b7, b8, b9, b10, b11, b12, b13, b14, b15)) : a1 = b1 ∧ a2 = b2 ∧ a3 = b3 ∧ a4 = b4 ∧ a5 = b5 ∧ a6 = b6 ∧ a7 = b7 ∧ a8 = b8 ∧ a9 = b9 ∧ a10 = b10 ∧ a11 = b11 ∧ a12 = b12 ∧ a13 = b13 ∧ a14 = b14 ∧ a15 = b15 := by cases h; exact ⟨rfl, rfl, rfl, rfl, rfl, rfl, rfl, rfl, rfl, rfl, rfl, rfl, rfl, rfl, rfl⟩
theorem z_s16 {α1 : Type} {α2 : Type} {α3 : Type} {α4 : Type} {α5 : Type} {α6 : Type} {α7 : Type} {α8 : Type} {α9 : Type} {α10 : Type} {α11 : Type} {α12 : Type} {α13 : Type} {α14 : Type} {α15 : Type} {α16 : Type} {a1 b1 : α1} {a2 b2 : α2} {a3 b3 : α3} {a4 b4 : α4} {a5 b5 : α5} {a6 b6 : α6} {a7 b7 : α7} {a8 b8 : α8} {a9 b9 : α9} {a10 b10 : α10} {a11 b11 : α11} {a12 b12 : α12} {a13 b13 : α13} {a14 b14 : α14} {a15 b15 : α15} {a16 b16 : α16} (h : some (a1, a2, a3, a4, a5, a6, a7, a8, a9, a10, a11, a12, a13, a14, a15, a16) = some (b1, b2, b3, b4, b5, b6, b7, b8, b9, b10, b11, b12, b13, b14, b15, b16)) : a1 = b1 ∧ a2 = b2 ∧ a3 = b3 ∧ a4 = b4 ∧ a5 = b5 ∧ a6 = b6 ∧ a7 = b7 ∧ a8 = b8 ∧ a9 = b9 ∧ a10 = b10 ∧ a11 = b11 ∧ a12 = b12 ∧ a13 = b13 ∧ a14 = b14 ∧ a15 = b15 ∧ a16 = b16 := by cases h; exact ⟨rfl, rfl, rfl, rfl, rfl, rfl, rfl, rfl, rfl, rfl, rfl, rfl, rfl, rfl, rfl, rfl⟩
theorem z_s17 {α1 : Type} {α2 : Type} {α3 : Type} {α4 : Type} {α5 : Type} {α6 : Type} {α7 : Type} {α8 : Type} {α9 : Type} {α10 : Type} {α11 : Type} {α12 : Type} {α13 : Type} {α14 : Type} {α15 : Type} {α16 : Type} {α17 : Type} {a1 b1 : α1} {a2 b2 : α2} {a3 b3 : α3} {a4 b4 : α4} {a5 b5 : α5} {a6 b6 : α6} {a7 b7 : α7} {a8 b8 : α8} {a9 b9 : α9} {a10 b10 : α10} {a11 b11 : α11} {a12 b12 : α12} {a13 b13 : α13} {a14 b14 : α14} {a15 b15 : α15} {a16 b16 : α16} {a17 b17 : α17} (h : some (a1, a2, a3, a4, a5, a6, a7, a8, a9, a10, a11, a12, a13, a14, a15, a16, a17) = some (b1, b2, b3, b4, b5, b6, b7, b8, b9, b10, b11, b12, b13, b14, b15, b16, b17)) : a1 = b1 ∧ a2 = b2 ∧ a3 = b3 ∧ a4 = b4 ∧ a5 = b5 ∧ a6 = b6 ∧ a7 = b7 ∧ a8 = b8 ∧ a9 = b9 ∧ a10 = b10 ∧ a11 = b11 ∧ a12 = b12 ∧ a13 = b13 ∧ a14 = b14 ∧ a15 = b15 ∧ a16 = b16 ∧ a17 = b17 := by cases h; exact ⟨rfl, rfl, rfl, rfl, rfl, rfl, rfl, rfl, rfl, rfl, rfl, rfl, rfl, rfl, rfl, rfl, rfl⟩
theorem z_s18 {α1 : Type} {α2 : Type} {α3 : Type} {α4 : Type} {α5 : Type} {α6 : Type} {α7 : Type} {α8 : Type} {α9 : Type} {α10 : Type} {α11 : Type} {α12 : Type} {α13 : Type} {α14 : Type} {α15 : Type} {α16 : Type} {α17 : Type} {α18 : Type} {a1 b1 : α1} {a2 b2 : α2} {a3 b3 : α3} {a4 b4 : α4} {a5 b5 : α5} {a6 b6 : α6} {a7 b7 : α7} {a8 b8 : α8} {a9 b9 : α9} {a10 b10 : α10} {a11 b11 : α11} {a12 b12 : α12} {a13 b13 : α13} {a14 b14 : α14} {a15 b15 : α15} {a16 b16 : α16} {a17 b17 : α17} {a18 b18 : α18} (h : some (a1, a2, a3, a4, a5, a6, a7, a8, a9, a10, a11, a12, a13, a14, a15, a16, a17, a18) = some (b1, b2, b3, b4, b5, b6, b7, b8, b9, b10, b11, b12, b13, b14, b15, b16, b17, b18)) : a1 = b1 ∧ a2 = b2 ∧ a3 = b3 ∧ a4 = b4 ∧ a5 = b5 ∧ a6 = b6 ∧ a7 = b7 ∧ a8 = b8 ∧ a9 = b9 ∧ a10 = b10 ∧ a11 = b11 ∧ a12 = b12 ∧ a13 = b13 ∧ a14 = b14 ∧ a15 = b15 ∧ a16 = b16 ∧ a17 = b17 ∧ a18 = b18 := by cases h; exact ⟨rfl, rfl, rfl, rfl, rfl, rfl, rfl, rfl, rfl, rfl, rfl, rfl, rfl, rfl, rfl, rfl, rfl, rfl⟩
theorem z_s19 {α1 : Type} {α2 : Type} {α3 : Type} {α4 : Type} {α5 : Type} {α6 : Type} {α7 : Type} {α8 : Type} {α9 : Type} {α10 : Type} {α11 : Type} {α12 : Type} {α13 : Type} {α14 : Type} {α15 : Type} {α16 : Type} {α17 : Type} {α18 : Type} {α19 : Type} {a1 b1 : α1} {a2 b2 : α2} {a3 b3 : α3} {a4 b4 : α4} {a5 b5 : α5} {a6 b6 : α6} {a7 b7 : α7} {a8 b8 : α8} {a9 b9 : α9} {a10 b10 : α10} {a11 b11 : α11} {a12 b12 : α12} {a13 b13 : α13} {a14 b14 : α14} {a15 b15 : α15} {a16 b16 : α16} {a17 b17 : α17} {a18 b18 : α18} {a19 b19 : α19} (h : some (a1, a2, a3, a4, a5, a6, a7, a8, a9, a10, a11, a12, a13, a14, a15, a16, a17, a18, a19) = some (b1, b2, b3, b4, b5, b6, b7, b8, b9, b10, b11, b12, b13, b14, b15, b16, b17, b18, b19)) : a1 = b1 ∧ a2 = b2 ∧ a3 = b3 ∧ a4 = b4 ∧ a5 = b5 ∧ a6 = b6 ∧ a7 = b7 ∧ a8 = b8 ∧ a9 = b9 ∧ a10 = b10 ∧ a11 = b11 ∧ a12 = b12 ∧ a13 = b13 ∧ a14 = b14 ∧ a15 = b15 ∧ a16 = b16 ∧ a17 = b17 ∧ a18 = b18 ∧ a19 = b19 := by cases h; exact ⟨rfl, rfl, rfl, rfl, rfl, rfl, rfl, rfl, rfl, rfl, rfl, rfl, rfl, rfl, rfl, rfl, rfl, rfl, rfl⟩
theorem z_s20 {α1 : Type} {α2 : Type} {α3 : Type} {α4 : Type} {α5 : Type} {α6 : Type} {α7 : Type} {α8 : Type} {α9 : Type} {α10 : Type} {α11 : Type} {α12 : Type} {α13 : Type} {α14 : Type} {α15 : Type} {α16 : Type} {α17 : Type} {α18 : Type} {α19 : Type} {α20 : Type} {a1 b1 : α1} {a2 b2 : α2} {a3 b3 : α3} {a4 b4 : α4} {a5 b5 : α5} {a6 b6 : α6} {a7 b7 : α7} {a8 b8 : α8} {a9 b9 : α9} {a10 b10 : α10} {a11 b11 : α11} {a12 b12 : α12} {a13 b13 : α13} {a14 b14 : α14} {a15 b15 : α15} {a16 b16 : α16} {a17 b17 : α17} {a18 b18 : α18} {a19 b19 : α19} {a20 b20 : α20} (h : some (a1, a2, a3, a4, a5, a6, a7, a8, a9, a10, a11, a12, a13, a14, a15, a16, a17, a18, a19, a20) = some (b1, b2, b3, b4, b5, b6, b7, b8, b9, b10, b11, b12, b13, b14, b15, b16, b17, b18, b19, b20)) : a1 = b1 ∧ a2 = b2 ∧ a3 = b3 ∧ a4 = b4 ∧ a5 = b5 ∧ a6 = b6 ∧ a7 = b7 ∧ a8 = b8 ∧ a9 = b9 ∧ a10 = b10 ∧ a11 = b11 ∧ a12 = b12 ∧ a13 = b13 ∧ a14 = b14 ∧ a15 = b15 ∧ a16 = b16 ∧ a17 = b17 ∧ a18 = b18 ∧ a19 = b19 ∧ a20 = b20 := by cases h; exact ⟨rfl, rfl, rfl, rfl, rfl, rfl, rfl, rfl, rfl, rfl, rfl, rfl, rfl, rfl, rfl, rfl, rfl, rfl, rfl, rfl⟩
def zF : Nat := 1000
theorem z_pos {c : Prop} {dc : Decidable c} {α : Type} {a b r : α} (hc : c) (h : (@ite α c dc a b) = r) : a = r := by rw [if_pos hc] at h; exact h
theorem z_neg {c : Prop} {dc : Decidable c} {α : Type} {a b r : α} (hc : ¬ c) (h : (@ite α c dc a b) = r) : b = r := by rw [if_neg hc] at h; exact h
theorem z_none {α : Type} {r : α} (h : (none : Option α) = some r) : False := by cases h
abbrev zPd : Type := (Nat → Int32) × Int32 × Int32 × Int32 × Int32 × Int32 × Int32 × Int32 × Int32 × Int32 × Int32 × Int32 × Int32 × Int32
abbrev zwP (cC : ClassId) (o : zR2) (P : zPd) : va_W := [(o.1, .inr (1, [.ref o.2, .int P.2.1, .int P.2.2.1, .int P.2.2.2.1, .int P.2.2.2.2.1, .int P.2.2.2.2.2.1, .int P.2.2.2.2.2.2.1, .int P.2.2.2.2.2.2.2.1, .int P.2.2.2.2.2.2.2.2.1, .int P.2.2.2.2.2.2.2.2.2.1, .int P.2.2.2.2.2.2.2.2.2.2.1, .int P.2.2.2.2.2.2.2.2.2.2.2.1, .int P.2.2.2.2.2.2.2.2.2.2.2.2.1, .int P.2.2.2.2.2.2.2.2.2.2.2.2.2])), (o.2, .inl (cC, 60, .inl P.1))]
abbrev zwA (cI : ClassId) (n : Nat) (o : Nat) (f : Nat → Int32) : va_W := [(o, .inl (cI, n, .inl f))]
abbrev zSv : Type := (Nat → Int32) × Int32 × Int32 × Int32 × Int32
abbrev zwV (cI : ClassId) (o : zR2) (V : zSv) : va_W := [(o.1, .inr (3, [.ref o.2, .int V.2.1, .int V.2.2.1, .int V.2.2.2.1, .int V.2.2.2.2])), (o.2, .inl (cI, 9, .inl V.1))]
abbrev zR8 : Type := Nat × Nat × Nat × Nat × Nat × Nat × Nat × Nat
abbrev zMd : Type := (Nat → Int32) × (Nat → Int32) × (Nat → Int32) × Int32 × (Nat → Int32) × Int32 × (Nat → Int32) × Int32 × (Nat → Int32) × Int32 × Int32 × Int32 × (Nat → Int32) × Int32 × Int32 × Int32 × Int32
/-- the reference: s, aside, past, known, kept, isKept, pad, length, sounds, firstZone, spot, isForm, read, reads, letter, first, second -/
abbrev zwM (cI cZ : ClassId) (o : zR8) (M : zMd) : va_W := [(o.1, .inr (6, [.ref o.2.1, .ref o.2.2.1, .ref o.2.2.2.1, .int M.2.2.2.1, .ref o.2.2.2.2.1, .int M.2.2.2.2.2.1, .ref o.2.2.2.2.2.1, .int M.2.2.2.2.2.2.2.1, .ref o.2.2.2.2.2.2.1, .int M.2.2.2.2.2.2.2.2.2.1, .int M.2.2.2.2.2.2.2.2.2.2.1, .int M.2.2.2.2.2.2.2.2.2.2.2.1, .ref o.2.2.2.2.2.2.2, .int M.2.2.2.2.2.2.2.2.2.2.2.2.2.1, .int M.2.2.2.2.2.2.2.2.2.2.2.2.2.2.1, .int M.2.2.2.2.2.2.2.2.2.2.2.2.2.2.2.1, .int M.2.2.2.2.2.2.2.2.2.2.2.2.2.2.2.2])),
  (o.2.1, .inl (cI, 150, .inl M.1)), (o.2.2.1, .inl (cI, 150, .inl M.2.1)), (o.2.2.2.1, .inl (cI, 600, .inl M.2.2.1)), (o.2.2.2.2.1, .inl (cI, 150, .inl M.2.2.2.2.1)), (o.2.2.2.2.2.1, .inl (cI, 60, .inl M.2.2.2.2.2.2.1)), (o.2.2.2.2.2.2.1, .inl (cZ, 10, .inl M.2.2.2.2.2.2.2.2.1)), (o.2.2.2.2.2.2.2, .inl (cI, 84, .inl M.2.2.2.2.2.2.2.2.2.2.2.2.1))]
abbrev zT3 : Type := ClassId × ClassId × ClassId
abbrev zty (c3 : zT3) : List (ClassId × FieldType) := [(c3.1, .int), (c3.2.1, .char), (c3.2.2, .boolean)]
/-- the links between nest mates, which no word list holds -/
def zNW : List Cond := [.fieldLinkNest "ZoneSampler" 47 "ZoneSampler$State" "zones" "LZoneSampler$Table;" "ZoneSampler", .fieldLinkNest "ZoneSampler$Survey" 41 "ZoneSampler$State" "zones" "LZoneSampler$Table;" "ZoneSampler", .fieldLinkNest "ZoneSampler" 168 "ZoneSampler$State" "voices" "LZoneSampler$Table;" "ZoneSampler", .fieldLinkNest "ZoneSampler" 195 "ZoneSampler$State" "pedalDown" "Z" "ZoneSampler", .fieldLinkNest "ZoneSampler" 137 "ZoneSampler$Pad" "low" "I" "ZoneSampler", .fieldLinkNest "ZoneSampler" 141 "ZoneSampler$Pad" "high" "I" "ZoneSampler", .fieldLinkNest "ZoneSampler" 144 "ZoneSampler$Pad" "softest" "I" "ZoneSampler", .fieldLinkNest "ZoneSampler" 147 "ZoneSampler$Pad" "hardest" "I" "ZoneSampler", .fieldLinkNest "ZoneSampler" 156 "ZoneSampler$Pad" "lasting" "I" "ZoneSampler", .fieldLinkNest "ZoneSampler" 150 "ZoneSampler$Pad" "group" "I" "ZoneSampler", .fieldLinkNest "ZoneSampler" 153 "ZoneSampler$Pad" "robin" "I" "ZoneSampler", .fieldLinkNest "ZoneSampler" 225 "ZoneSampler$Pad" "deed" "I" "ZoneSampler", .fieldLinkNest "ZoneSampler" 228 "ZoneSampler$Pad" "deedKey" "I" "ZoneSampler", .fieldLinkNest "ZoneSampler" 231 "ZoneSampler$Pad" "amount" "I" "ZoneSampler"]
theorem zNW_tbl : ∀ w ∈ zNW, w ∈ tables_1 := by decide +kernel
def zNs (U : State) : Prop := ∀ w ∈ zNW, va_Nw w U
theorem zNW_fl : ∀ w ∈ zNW, ∃ (a : String) (i : Nat) (b n d h : String), w = .fieldLinkNest a i b n d h := by
  intro w hw
  simp only [zNW, List.mem_cons, List.not_mem_nil, or_false] at hw
  rcases hw with rfl | rfl | rfl | rfl | rfl | rfl | rfl | rfl | rfl | rfl | rfl | rfl | rfl | rfl <;> exact ⟨_, _, _, _, _, _, rfl⟩
theorem zNs.warm {s U : State} (hW : s.WarmedH U.vm) (h : zNs s) : zNs U := by
  intro w hw
  obtain ⟨a, i, b, n, d, k, rfl⟩ := zNW_fl w hw
  exact va_Nw.warmF hW (h _ hw)
theorem zNs.same {u U : State} (hv : u.vm = U.vm) (h : zNs u) : zNs U := by
  intro w hw
  have h1 := h _ hw
  obtain ⟨a, i, b, n, d, k, rfl⟩ := zNW_fl w hw
  exact va_Nw.same rfl hv h1
def zK (G : va_G) (c3 : zT3) (U : State) : Prop := va_K G vwCl (zty c3) U ∧ zNs U
theorem zK.warm {G : va_G} {c3 : zT3} {s U : State} (hW : s.WarmedH U.vm) (h : zK G c3 s) : zK G c3 U := ⟨va_K.moved hW.alike h.1, h.2.warm hW⟩
/-- what is known at a point of a walk: the tables, the cells, that they are apart, what was touched -/
def zC (G : va_G) (c3 : zT3) (A : Nat → Prop) (s : State) (ws : va_W) (H : Heap) (locs : List Loc) : Prop := zK G c3 s ∧ va_P G vwCl ws H ∧ va_D A ws ∧ va_S A s.heap H locs ∧ ∀ q : Nat, s.heap.size ≤ q → A q
def zPre (G : va_G) (c3 : zT3) (WS : va_W) (sz : Nat) (av : List Value) : Array Value → State → Prop := va_Pc av (fun U => U.heap.size = sz ∧ va_P G vwCl WS U.heap ∧ zK G c3 U ∧ va_D (fun _ => True) WS)
def zPost (G : va_G) (WS : va_W) (rv : Option Value) (A : Nat → Prop) : Array Value → State → Outcome → State → Prop := fun _ st oc t => (oc = .returned rv ∧ va_P G vwCl WS t.heap ∧ va_D A WS) ∧ va_F A st t
/-- a contract: from the world WS with the arguments av the method answers rv and leaves WS1 -/
def zM (l : Launch) (y : MethodName) (ws : List Cond) (rm : Room) (G : va_G) (c3 : zT3) (WS : va_W) (av : List Value) (rv : Option Value) (WS1 : va_W) : Prop := ∀ sz : Nat, Met l y ws rm (zPre G c3 WS sz av) (zPost G WS1 rv (va_A WS sz)) 0 0 (va_A WS sz)
theorem zPre.blind {G : va_G} {c3 : zT3} {WS : va_W} {sz : Nat} {av : List Value} : FrameBlind (zPre G c3 WS sz av) := by
  intro a U g mk q
  obtain ⟨q0, q1, qP, qK, qD⟩ := q
  exact ⟨q0, q1, qP, ⟨va_K.moved (u := U) (U := U.calling g mk a) (Vm.Alike.refl U.vm) qK.1, zNs.same (u := U) rfl qK.2⟩, qD⟩
theorem zC.pre {G : va_G} {c3 : zT3} {A : Nat → Prop} {s : State} {ws wc : va_W} {H : Heap} {locs : List Loc} (h : zC G c3 A s ws H locs) (isC : List Nat) (hn : va_nd isC = true) (hc : isC.map (fun i => ws[i]?) = wc.map some) {av : List Value} (U : State) (hU : U.heap = H) (hW : s.WarmedH U.vm) : zPre G c3 wc H.size av av.toArray U := by
  obtain ⟨hK, hP, hD, hS, hA⟩ := h
  refine ⟨rfl, by rw [hU], ?_, hK.warm hW, (hD.sub isC hn hc).weaken (fun _ _ _ _ => trivial)⟩
  rw [hU]
  intro k q hk
  have h1 : (isC.map (fun i => ws[i]?))[k]? = some (some q) := by rw [hc, List.getElem?_map, hk]; rfl
  rw [List.getElem?_map] at h1
  cases hi : isC[k]? with
  | none => rw [hi] at h1; cases h1
  | some i => rw [hi] at h1; exact hP i q (Option.some.inj h1)
theorem zM.of {l : Launch} {y : MethodName} {ws ws' : List Cond} {rm : Room} {G : va_G} {c3 : zT3} {WS : va_W} {av : List Value} {rv : Option Value} {WS1 : va_W} {cc : ByteArray} {maxL : Nat} {ret : Option FieldType}
    (hy : plainName y.cls = true) (hw : ws = Cond.code y cc maxL ret :: ws') (hlen : (lg_sl av).length ≤ maxL)
    (body : ∀ (p : Program) (e : Env) (s : State) (m : MethodId) (args : Array Value) (below : List Frame) (meth : Method) (c : Code) (A : Nat → Prop) (ls : Array Slot), CallFix p m c cc maxL s args ws y.cls → meth.sig.returnType = ret → meth.locks = false → zC G c3 A s WS s.heap [] → lv_has ls maxL (lv_args 0 av) →
      W p l e rm s m args below meth c s.heap [] 0 0 (MQ below (zPost G WS1 rv A) args s 0 0 A) (F0 m 0 ls [])) : zM l y ws rm G c3 WS av rv WS1 := by
  intro sz
  refine Met.ofW (cc := cc) (maxL := maxL) (ret := ret) hy hw ?_
  intro p e s m args below meth c s₁ B hml hv
  obtain ⟨rfl, hsz, hP, hK, hD0⟩ := hv
  have hts := atoms_spec (ws := ws) B.pre
  subst hsz
  have hl := lv_entry av (n := maxL) hlen
  rw [lg_entry_eq]
  exact body p e s m av.toArray below meth c _ _ ⟨B.exec, B.bytes, hml, findClass_of_methodNamed B.named, hts⟩ B.returns B.notSynchronized ⟨hK, hP, hD0.self, va_S.rf, fun q h => Or.inr h⟩ hl
theorem z_bind {α β : Type} {x : Option α} {f : α → Option β} {r : β} (h : x.bind f = some r) : ∃ a, x = some a ∧ f a = some r := Option.bind_eq_some_iff.mp h
/-- the partial rows: an array's reading and writing, a remainder, a 0 or 1 -/
def zald (n : Nat) (f : Nat → Int32) (i : Int32) : Option Int32 := if 0 ≤ i ∧ i.toNatClampNeg < n then some (f i.toNatClampNeg) else none
def zast (n : Nat) (f : Nat → Int32) (i x : Int32) : Option (Nat → Int32) := if 0 ≤ i ∧ i.toNatClampNeg < n then some (upd f i.toNatClampNeg x) else none
def zrem (x y : Int32) : Option Int32 := if y = 0 then none else some (x - x / y * y)
def zdiv (x y : Int32) : Option Int32 := if y = 0 then none else some (x / y)
def zbool (x : Int32) : Option Unit := if x = 0 ∨ x = 1 then some () else none
def zchar (x : Int32) : Option Unit := if 0 ≤ x ∧ x < 65536 then some () else none
theorem zald_spec {n : Nat} {f : Nat → Int32} {i x : Int32} (h : zald n f i = some x) : vp_in i n ∧ f i.toNatClampNeg = x := by
  unfold zald at h
  split at h
  · rename_i hc
    exact ⟨fun q => q.elim (fun q => absurd hc.1 (Int32.not_le.mpr q)) (fun q => absurd hc.2 (Nat.not_lt.mpr q)), Option.some.inj h⟩
  · cases h
theorem zast_spec {n : Nat} {f g : Nat → Int32} {i x : Int32} (h : zast n f i x = some g) : vp_in i n ∧ upd f i.toNatClampNeg x = g := by
  unfold zast at h
  split at h
  · rename_i hc
    exact ⟨fun q => q.elim (fun q => absurd hc.1 (Int32.not_le.mpr q)) (fun q => absurd hc.2 (Nat.not_lt.mpr q)), Option.some.inj h⟩
  · cases h
theorem zrem_spec {x y r : Int32} (h : zrem x y = some r) : ¬ y = 0 ∧ x - x / y * y = r := by
  unfold zrem at h
  split at h
  · cases h
  · rename_i hc; exact ⟨hc, Option.some.inj h⟩
theorem zdiv_spec {x y r : Int32} (h : zdiv x y = some r) : ¬ y = 0 ∧ x / y = r := by
  unfold zdiv at h
  split at h
  · cases h
  · rename_i hc; exact ⟨hc, Option.some.inj h⟩
theorem zbool_spec {x : Int32} {u : Unit} (h : zbool x = some u) : narrow .boolean (.int x) = .int x := by
  unfold zbool at h
  split at h
  · rename_i hc
    rcases hc with rfl | rfl <;> rfl
  · cases h
theorem zbool_fits {x : Int32} {u : Unit} (h : zbool x = some u) : fits .boolean (.int x) = true := by
  unfold zbool at h
  split at h
  · rename_i hc
    rcases hc with rfl | rfl <;> rfl
  · cases h
theorem zchar_nat {x : Int32} {u : Unit} (h : zchar x = some u) : x.toBitVec.toNat < 65536 := by
  unfold zchar at h
  split at h
  · rename_i hc
    have h1 : (0 : Int) ≤ x.toInt := by simpa using Int32.le_iff_toInt_le.mp hc.1
    have h2 : x.toInt < 65536 := by simpa using Int32.lt_iff_toInt_lt.mp hc.2
    have h3 : x.toInt = x.toBitVec.toInt := rfl
    rw [h3, BitVec.toInt_eq_toNat_cond] at h1 h2
    split at h1 <;> omega
  · cases h
theorem zchar_i2c {x : Int32} {u : Unit} (h : zchar x = some u) : (x.toUInt32 % 65536).toInt32 = x := by
  have h1 := zchar_nat h
  apply Int32.toBitVec_inj.mp
  apply BitVec.eq_of_toNat_eq
  show (x.toBitVec % 65536#32).toNat = x.toBitVec.toNat
  rw [BitVec.toNat_umod]
  show x.toBitVec.toNat % 65536 = x.toBitVec.toNat
  omega
theorem zchar_nar {x : Int32} {u : Unit} (h : zchar x = some u) : vp_nar .char x = x := by
  have h1 := zchar_nat h
  rw [vp_nar_char]
  apply Int32.toBitVec_inj.mp
  apply BitVec.eq_of_toNat_eq
  show ((x.toBitVec.setWidth 16).setWidth 32).toNat = x.toBitVec.toNat
  rw [BitVec.toNat_setWidth, BitVec.toNat_setWidth]
  omega
def zsm (n : Nat) : Option Unit := if n < 2147483648 then some () else none
theorem zsm_spec {n : Nat} {u : Unit} (h : zsm n = some u) : n < 2147483648 := by
  unfold zsm at h
  split at h
  · assumption
  · cases h
section ZROWS
variable {p : Program} {l : Launch} {e : Env} {R : Room} {s : State} {m : MethodId} {args : Array Value} {below : List Frame} {meth : Method} {c : Code} {H : Heap} {locs : List Loc} {Q : State → Prop}
variable {cc : ByteArray} {nL pc : Nat} {Ts : List Cond} {own : String} {ls : Array Slot} {rest st0 : List Value} {G : va_G} {c3 : zT3} {A : Nat → Prop} {a : Nat} {ws : va_W}
theorem z_get (S : CallFix p m c cc nL s args Ts own) (hC : zC G c3 A s ws H locs) {ref C : String} {T : u_T} {N ci index : Nat} (hin : ∀ w ∈ u_ws C T N, w ∈ Ts) (q0 : Nat) {fs : List Value} (he : ws[q0]? = some (a, .inr (ci, fs))) (hc : vwCl[ci]? = some (C, T, N)) (k : Nat) (hk : k < N) (hlink : Cond.fieldLink own index ref (T k).2.1 (T k).2.2.1 ∈ Ts) (hsame : ref = (T k).1) {v : Value} (hv : fs[k]? = some v) (hdg : decode cc pc = .ok (.getfield index, 3))
    (kk : W p l e R s m args below meth c H locs 0 0 Q (F0 m (pc + 3) ls (v :: rest))) : W p l e R s m args below meth c H locs 0 0 Q (F0 m pc ls (.ref a :: rest)) :=
  va_get S.1 S.2.1 S.2.2.2.2 hin S.2.2.2.1 hC.1.1 hC.2.1 q0 he hc k hk (S.2.2.2.2 _ hlink) (fun _ h => by rw [hsame]; exact h) hv hdg kk
theorem z_getN (S : CallFix p m c cc nL s args Ts own) (hC : zC G c3 A s ws H locs) {ref C host : String} {T : u_T} {N ci index : Nat} (hin : ∀ w ∈ u_ws C T N, w ∈ Ts) (q0 : Nat) {fs : List Value} (he : ws[q0]? = some (a, .inr (ci, fs))) (hc : vwCl[ci]? = some (C, T, N)) (k : Nat) (hk : k < N) (hlink : Cond.fieldLinkNest own index ref (T k).2.1 (T k).2.2.1 host ∈ zNW) (hsame : ref = (T k).1) {v : Value} (hv : fs[k]? = some v) (hdg : decode cc pc = .ok (.getfield index, 3))
    (kk : W p l e R s m args below meth c H locs 0 0 Q (F0 m (pc + 3) ls (v :: rest))) : W p l e R s m args below meth c H locs 0 0 Q (F0 m pc ls (.ref a :: rest)) :=
  va_getN S.1 S.2.1 S.2.2.2.2 hin S.2.2.2.1 hC.1.1 hC.2.1 q0 he hc k hk (va_Nw.use rfl (hC.1.2 _ hlink)) (fun _ h => by rw [hsame]; exact h) hv hdg kk
theorem z_put (S : CallFix p m c cc nL s args Ts own) (hC : zC G c3 A s ws H locs) {ref C : String} {T : u_T} {N ci index : Nat} (hin : ∀ w ∈ u_ws C T N, w ∈ Ts) (ty0 : Nat → FieldType) (hty : ∀ k, k < N → parseFieldDescriptor (T k).2.2.1 = some (ty0 k)) (hnm : ∀ a, a < N → ∀ b, b < N → a ≠ b → (T a).2.1 ≠ (T b).2.1) (q0 : Nat) {fs : List Value} (he : ws[q0]? = some (a, .inr (ci, fs))) (hc : vwCl[ci]? = some (C, T, N)) (k : Nat) (hk : k < N) (hlink : Cond.fieldLink own index ref (T k).2.1 (T k).2.2.1 ∈ Ts) (hsame : ref = (T k).1) (hfin : (T k).2.2.2 = false) {v : Value} (hn : narrow (ty0 k) v = v) (hfit : fits (ty0 k) v = true) (hl : k < fs.length) (hdg : decode cc pc = .ok (.putfield index, 3)) {ws2 : va_W} (hws : ws.set q0 (a, .inr (ci, fs.set k v)) = ws2)
    (kk : ∀ (H1 : Heap) (locs1 : List Loc), zC G c3 A s ws2 H1 locs1 → W p l e R s m args below meth c H1 locs1 0 0 Q (F0 m (pc + 3) ls rest)) : W p l e R s m args below meth c H locs 0 0 Q (F0 m pc ls (v :: .ref a :: rest)) := by
  subst hws
  exact va_put S.1 S.2.1 S.2.2.2.2 hin ty0 hty hnm S.2.2.2.1 hC.1.1 hC.2.1 hC.2.2.1 hC.2.2.2.1 q0 he hc k hk (S.2.2.2.2 _ hlink) (fun _ h => by rw [hsame]; exact h) hfin (hty k hk) hn hfit hl hdg (fun H1 locs1 hP hD hS => kk H1 locs1 ⟨hC.1, hP, hD, hS, hC.2.2.2.2⟩)
theorem z_iald (S : CallFix p m c cc nL s args Ts own) (hC : zC G c3 A s ws H locs) (q0 : Nat) {n : Nat} {f : Nat → Int32} (ha : ws[q0]? = some (a, .inl (c3.1, n, .inl f))) {i x : Int32} (hx : zald n f i = some x) (hdg : decode cc pc = .ok (.iaload, 1))
    (kk : W p l e R s m args below meth c H locs 0 0 Q (F0 m (pc + 1) ls (.int x :: rest))) : W p l e R s m args below meth c H locs 0 0 Q (F0 m pc ls (.int i :: .ref a :: rest)) := by
  obtain ⟨h1, rfl⟩ := zald_spec hx
  exact va_iald S.1 S.2.1 hC.1.1 hC.2.1 q0 0 ha rfl h1 hdg kk
theorem z_cald (S : CallFix p m c cc nL s args Ts own) (hC : zC G c3 A s ws H locs) (q0 : Nat) {n : Nat} {f : Nat → Int32} (ha : ws[q0]? = some (a, .inl (c3.2.1, n, .inl f))) {i x : Int32} (hx : zald n f i = some x) (hdg : decode cc pc = .ok (.caload, 1))
    (kk : W p l e R s m args below meth c H locs 0 0 Q (F0 m (pc + 1) ls (.int x :: rest))) : W p l e R s m args below meth c H locs 0 0 Q (F0 m pc ls (.int i :: .ref a :: rest)) := by
  obtain ⟨h1, rfl⟩ := zald_spec hx
  exact va_cald S.1 S.2.1 hC.1.1 hC.2.1 q0 1 ha rfl h1 hdg kk
theorem z_zald (S : CallFix p m c cc nL s args Ts own) (hC : zC G c3 A s ws H locs) (q0 : Nat) {n : Nat} {f : Nat → Int32} (ha : ws[q0]? = some (a, .inl (c3.2.2, n, .inl f))) {i x : Int32} (hx : zald n f i = some x) (hdg : decode cc pc = .ok (.baload, 1))
    (kk : W p l e R s m args below meth c H locs 0 0 Q (F0 m (pc + 1) ls (.int x :: rest))) : W p l e R s m args below meth c H locs 0 0 Q (F0 m pc ls (.int i :: .ref a :: rest)) := by
  obtain ⟨h1, rfl⟩ := zald_spec hx
  exact va_zald S.1 S.2.1 hC.1.1 hC.2.1 q0 2 ha rfl h1 hdg kk
theorem z_iast (S : CallFix p m c cc nL s args Ts own) (hC : zC G c3 A s ws H locs) (q0 : Nat) {n : Nat} {f g : Nat → Int32} (ha : ws[q0]? = some (a, .inl (c3.1, n, .inl f))) {i x : Int32} (hx : zast n f i x = some g) (hdg : decode cc pc = .ok (.iastore, 1)) {ws2 : va_W} (hws : ws.set q0 (a, .inl (c3.1, n, .inl g)) = ws2)
    (kk : ∀ (H1 : Heap) (locs1 : List Loc), zC G c3 A s ws2 H1 locs1 → W p l e R s m args below meth c H1 locs1 0 0 Q (F0 m (pc + 1) ls rest)) : W p l e R s m args below meth c H locs 0 0 Q (F0 m pc ls (.int x :: .int i :: .ref a :: rest)) := by
  obtain ⟨h1, rfl⟩ := zast_spec hx
  subst hws
  exact va_iast S.1 S.2.1 hC.1.1 hC.2.1 hC.2.2.1 hC.2.2.2.1 q0 0 ha rfl h1 hdg (fun H1 locs1 hP hD hS => kk H1 locs1 ⟨hC.1, hP, hD, hS, hC.2.2.2.2⟩)
theorem z_zast (S : CallFix p m c cc nL s args Ts own) (hC : zC G c3 A s ws H locs) (q0 : Nat) {n : Nat} {f g : Nat → Int32} (ha : ws[q0]? = some (a, .inl (c3.2.2, n, .inl f))) {i x : Int32} {u : Unit} (hz : zbool x = some u) (hx : zast n f i x = some g) (hdg : decode cc pc = .ok (.bastore, 1)) {ws2 : va_W} (hws : ws.set q0 (a, .inl (c3.2.2, n, .inl g)) = ws2)
    (kk : ∀ (H1 : Heap) (locs1 : List Loc), zC G c3 A s ws2 H1 locs1 → W p l e R s m args below meth c H1 locs1 0 0 Q (F0 m (pc + 1) ls rest)) : W p l e R s m args below meth c H locs 0 0 Q (F0 m pc ls (.int x :: .int i :: .ref a :: rest)) := by
  obtain ⟨h1, rfl⟩ := zast_spec hx
  subst hws
  have hb := zbool_spec hz
  have e1 : vp_nar .boolean x = x := by unfold vp_nar; rw [hb]
  exact va_zast S.1 S.2.1 hC.1.1 hC.2.1 hC.2.2.1 hC.2.2.2.1 q0 2 ha rfl h1 hdg (fun H1 locs1 hP hD hS => kk H1 locs1 (by rw [e1] at hP hD; exact ⟨hC.1, hP, hD, hS, hC.2.2.2.2⟩))
theorem z_cast (S : CallFix p m c cc nL s args Ts own) (hC : zC G c3 A s ws H locs) (q0 : Nat) {n : Nat} {f g : Nat → Int32} (ha : ws[q0]? = some (a, .inl (c3.2.1, n, .inl f))) {i x : Int32} {u : Unit} (hz : zchar x = some u) (hx : zast n f i x = some g) (hdg : decode cc pc = .ok (.castore, 1)) {ws2 : va_W} (hws : ws.set q0 (a, .inl (c3.2.1, n, .inl g)) = ws2)
    (kk : ∀ (H1 : Heap) (locs1 : List Loc), zC G c3 A s ws2 H1 locs1 → W p l e R s m args below meth c H1 locs1 0 0 Q (F0 m (pc + 1) ls rest)) : W p l e R s m args below meth c H locs 0 0 Q (F0 m pc ls (.int x :: .int i :: .ref a :: rest)) := by
  obtain ⟨h1, rfl⟩ := zast_spec hx
  subst hws
  have e1 : vp_nar .char x = x := zchar_nar hz
  exact va_cast S.1 S.2.1 hC.1.1 hC.2.1 hC.2.2.1 hC.2.2.2.1 q0 1 ha rfl h1 hdg (fun H1 locs1 hP hD hS => kk H1 locs1 (by rw [e1] at hP hD; exact ⟨hC.1, hP, hD, hS, hC.2.2.2.2⟩))
theorem z_alen (S : CallFix p m c cc nL s args Ts own) (hC : zC G c3 A s ws H locs) (q0 t0 : Nat) {cA : ClassId} {x : vp_A} (ha : ws[q0]? = some (a, .inl (cA, x))) {ty : FieldType} (ht : (zty c3)[t0]? = some (cA, ty)) {v : Int32} (hv : Int32.ofNat x.1 = v) (hdg : decode cc pc = .ok (.arraylength, 1))
    (kk : W p l e R s m args below meth c H locs 0 0 Q (F0 m (pc + 1) ls (.int v :: rest))) : W p l e R s m args below meth c H locs 0 0 Q (F0 m pc ls (.ref a :: rest)) :=
  va_alen S.1 S.2.1 hC.1.1 hC.2.1 q0 t0 ha ht hv hdg kk
theorem z_irem (S : CallFix p m c cc nL s args Ts own) {x y r : Int32} (hx : zrem x y = some r) (hdg : decode cc pc = .ok (.irem, 1)) 
    (kk : W p l e R s m args below meth c H locs 0 0 Q (F0 m (pc + 1) ls (.int r :: rest))) : W p l e R s m args below meth c H locs 0 0 Q (F0 m pc ls (.int y :: .int x :: rest)) := by
  obtain ⟨h1, rfl⟩ := zrem_spec hx
  exact lv_irem S.1 S.2.1 hdg h1 kk
theorem z_idiv (S : CallFix p m c cc nL s args Ts own) {x y r : Int32} (hx : zdiv x y = some r) (hdg : decode cc pc = .ok (.idiv, 1)) 
    (kk : W p l e R s m args below meth c H locs 0 0 Q (F0 m (pc + 1) ls (.int r :: rest))) : W p l e R s m args below meth c H locs 0 0 Q (F0 m pc ls (.int y :: .int x :: rest)) := by
  obtain ⟨h1, rfl⟩ := zdiv_spec hx
  exact lv_idiv S.1 S.2.1 hdg h1 kk
theorem z_iret {WS1 : va_W} {v : Int32} (S : CallFix p m c cc nL s args Ts own) (hr : meth.sig.returnType = some .int) (hlk : meth.locks = false) (hC : zC G c3 A s WS1 H locs) (hdg : decode cc pc = .ok (.ireturn, 1)) : W p l e R s m args below meth c H locs 0 0 (MQ below (zPost G WS1 (some (.int v)) A) args s 0 0 A) (F0 m pc ls [.int v]) :=
  W.iret S.1 S.2.1 hr (fun t ht hW => ⟨⟨rfl, by rw [ht]; exact hC.2.1, hC.2.2.1⟩, hC.2.2.2.1.F ht⟩) hC.2.2.2.1.2.2 hdg hlk
theorem z_zret {WS1 : va_W} {v : Int32} (S : CallFix p m c cc nL s args Ts own) (hr : meth.sig.returnType = some .boolean) (hlk : meth.locks = false) (hn : narrow .boolean (.int v) = .int v) (hC : zC G c3 A s WS1 H locs) (hdg : decode cc pc = .ok (.ireturn, 1)) : W p l e R s m args below meth c H locs 0 0 (MQ below (zPost G WS1 (some (.int v)) A) args s 0 0 A) (F0 m pc ls [.int v]) :=
  W.zret S.1 S.2.1 hr hn (fun t ht hW => ⟨⟨rfl, by rw [ht]; exact hC.2.1, hC.2.2.1⟩, hC.2.2.2.1.F ht⟩) hC.2.2.2.1.2.2 hdg hlk
theorem z_vret {WS1 : va_W} (S : CallFix p m c cc nL s args Ts own) (hr : meth.sig.returnType = none) (hlk : meth.locks = false) (hC : zC G c3 A s WS1 H locs) (hdg : decode cc pc = .ok (.return_, 1)) : W p l e R s m args below meth c H locs 0 0 (MQ below (zPost G WS1 none A) args s 0 0 A) (F0 m pc ls []) :=
  W.vret S.1 S.2.1 hr (fun t ht hW => ⟨⟨rfl, by rw [ht]; exact hC.2.1, hC.2.2.1⟩, hC.2.2.2.1.F ht⟩) hC.2.2.2.1.2.2 hdg hlk
theorem z_dret {WS1 : va_W} {v : UInt64} (S : CallFix p m c cc nL s args Ts own) (hr : meth.sig.returnType = some .double) (hlk : meth.locks = false) (hC : zC G c3 A s WS1 H locs) (hdg : decode cc pc = .ok (.dreturn, 1)) : W p l e R s m args below meth c H locs 0 0 (MQ below (zPost G WS1 (some (.double v)) A) args s 0 0 A) (F0 m pc ls [.double v]) :=
  W.dret S.1 S.2.1 hr (fun t ht hW => ⟨⟨rfl, by rw [ht]; exact hC.2.1, hC.2.2.1⟩, hC.2.2.2.1.F ht⟩) hC.2.2.2.1.2.2 hdg hlk
theorem z_aret {WS1 : va_W} {b : Nat} {C : String} (S : CallFix p m c cc nL s args Ts own) (hr : meth.sig.returnType = some (.object C)) (hlk : meth.locks = false) (hC : zC G c3 A s WS1 H locs) (hdg : decode cc pc = .ok (.areturn, 1)) : W p l e R s m args below meth c H locs 0 0 (MQ below (zPost G WS1 (some (.ref b)) A) args s 0 0 A) (F0 m pc ls [.ref b]) :=
  W.aret S.1 S.2.1 hr (Or.inl ⟨_, rfl⟩) (Or.inr ⟨_, rfl⟩) (fun t ht hW => ⟨⟨rfl, by rw [ht]; exact hC.2.1, hC.2.2.1⟩, hC.2.2.2.1.F ht⟩) hC.2.2.2.1.2.2 hdg hlk
/-- behind a call: the caller's other cells beside the callee's new world, in the order that the caller wants -/
theorem z_call {rv : Option Value} {wc wr w1 ws2 : va_W} {aa : Array Value} (hr : va_Run p l e R s m args below meth c H locs 0 0 0 0 (F0 m pc ls st0) rest (zPost G w1 rv (va_A wc H.size) aa) (va_A wc H.size)) (hC : zC G c3 A s ws H locs) (isC isR perm : List Nat)
    (hc : isC.map (fun i => ws[i]?) = wc.map some) (hR : isR.map (fun i => ws[i]?) = wr.map some) (hn : va_nd isR = true) (hdis : ∀ i ∈ isR, i ∉ isC) (hp : perm.map (fun i => (wr ++ w1)[i]?) = ws2.map some) (hnp : va_nd perm = true)
    (kk : ∀ (H1 : Heap) (locs1 : List Loc), zC G c3 A s ws2 H1 locs1 → W p l e R s m args below meth c H1 locs1 0 0 Q (F0 m (pc + 3) ls (rv.toList ++ rest))) : W p l e R s m args below meth c H locs 0 0 Q (F0 m pc ls st0) := by
  obtain ⟨hK, hP, hD, hS, hA⟩ := hC
  have hFc : ∀ q, va_A wc H.size q → A q := va_free hD hS hA isC hc
  intro T hT X
  obtain ⟨v, st₀, t, T', L, h0, X', hL, e1, e2, ⟨⟨hv, hP1, hD1⟩, hz, hk⟩, st⟩ := hr T hT X
  cases hv
  rw [h0] at hz hk
  rw [← e1] at hz hk hP1
  obtain ⟨hP2, hD2⟩ := va_join (wr := wr) (w1 := w1) hP hD isC isR hc hR hn hdis hk hFc hP1 hD1
  have hP3 : va_P G vwCl ws2 T'.heap := by
    intro k q hq
    have h1 : (perm.map (fun i => (wr ++ w1)[i]?))[k]? = some (some q) := by rw [hp, List.getElem?_map, hq]; rfl
    rw [List.getElem?_map] at h1
    cases hi : perm[k]? with
    | none => rw [hi] at h1; cases h1
    | some i => rw [hi] at h1; exact hP2 i q (Option.some.inj h1)
  obtain ⟨t2, a1, b1⟩ := kk T'.heap (locs ++ L) ⟨hK, hP3, hD2.sub perm hnp hp, ⟨Nat.le_trans hS.1 hz, fun q h1 h2 => by rw [hk q (Nat.lt_of_lt_of_le h1 hS.1) (fun z => h2 (hFc q z))]; exact hS.2.1 q h1 h2, fun q hq => by
      rcases List.mem_append.mp hq with h | h
      · exact hS.2.2 q h
      · exact hFc _ (hL q h)⟩, hA⟩ T' rfl X'
  exact ⟨t2, st t2 a1, b1⟩
/-- behind a call that leaves its cells as they were -/
theorem z_callP {rv : Option Value} {wc : va_W} {aa : Array Value} (hr : va_Run p l e R s m args below meth c H locs 0 0 0 0 (F0 m pc ls st0) rest (zPost G wc rv (va_A wc H.size) aa) (va_A wc H.size)) (hC : zC G c3 A s ws H locs) (isC : List Nat)
    (hc : isC.map (fun i => ws[i]?) = wc.map some)
    (kk : ∀ (H1 : Heap) (locs1 : List Loc), zC G c3 A s ws H1 locs1 → W p l e R s m args below meth c H1 locs1 0 0 Q (F0 m (pc + 3) ls (rv.toList ++ rest))) : W p l e R s m args below meth c H locs 0 0 Q (F0 m pc ls st0) := by
  obtain ⟨hK, hP, hD, hS, hA⟩ := hC
  have hFc : ∀ q, va_A wc H.size q → A q := va_free hD hS hA isC hc
  intro T hT X
  obtain ⟨v, st₀, t, T', L, h0, X', hL, e1, e2, ⟨⟨hv, hP1, hD1⟩, hz, hk⟩, st⟩ := hr T hT X
  cases hv
  rw [h0] at hz hk
  rw [← e1] at hz hk hP1
  have hP3 : va_P G vwCl ws T'.heap := by
    intro k q hq
    by_cases hin : va_A wc H.size q.1
    · rcases hin with ⟨j, e, h⟩ | h
      · have h1 : (isC.map (fun i => ws[i]?))[j]? = some (some (q.1, e)) := by rw [hc, List.getElem?_map, h]; rfl
        rw [List.getElem?_map] at h1
        cases hi : isC[j]? with
        | none => rw [hi] at h1; cases h1
        | some i =>
          rw [hi] at h1
          have h2 : ws[i]? = some (q.1, e) := Option.some.inj h1
          have hik := hD.1 i k (q.1, e) q h2 hq rfl
          subst hik
          have hqe : q = (q.1, e) := Option.some.inj (hq.symm.trans h2)
          rw [hqe]
          exact hP1 j _ h
      · exact absurd (hP k q hq).lt (Nat.not_lt.mpr h)
    · exact (hP k q hq).kept (hk q.1 (hP k q hq).lt hin)
  obtain ⟨t2, a1, b1⟩ := kk T'.heap (locs ++ L) ⟨hK, hP3, hD, ⟨Nat.le_trans hS.1 hz, fun q h1 h2 => by rw [hk q (Nat.lt_of_lt_of_le h1 hS.1) (fun z => h2 (hFc q z))]; exact hS.2.1 q h1 h2, fun q hq => by
      rcases List.mem_append.mp hq with h | h
      · exact hS.2.2 q h
      · exact hFc _ (hL q h)⟩, hA⟩ T' rfl X'
  exact ⟨t2, st t2 a1, b1⟩
/-- a run of a virtual method by its contract -/
theorem z_runV {y : MethodName} {bytes : ByteArray} {maxL n index : Nat} {ret : Option FieldType} {wsy wsy' : List Cond} {rm : Room} {wc w1 : va_W} {rv : Option Value} {b : Addr} {As : List Value}
    (S : CallFix p m c cc nL s args Ts own) (hC : zC G c3 A s ws H locs) (hM : zM l y wsy rm G c3 wc (.ref b :: As) rv w1) (isC : List Nat) (hn0 : va_nd isC = true) (hc : isC.map (fun i => ws[i]?) = wc.map some)
    (hG : GoodIn Ts (wsV own index y.cls y wsy)) (hw : wsy = Cond.code y bytes maxL ret :: wsy') (hrc : rm.cells = 0) (hrs : rm.slots = 0)
    (hd : y.cls ≠ "java/lang/invoke/MethodHandle" ∧ y.cls ≠ "java/lang/invoke/VarHandle" ∧ (parseMethodDescriptor y.desc).map (fun d => d.parameters.length) = some n) (hRm : rm.frames + 1 ≤ R.frames ∧ 8 + (maxL + 11) + rm.locals ≤ R.locals)
    {ci q0 : Nat} {T : u_T} {N : Nat} {fs : List Value} (hci : vwCl[ci]? = some (y.cls, T, N)) (he : ws[q0]? = some (b, .inr (ci, fs)))
    (hn : As.length = n) (hsize : ls.size = nL) (hstack : st0 = As.reverse ++ .ref b :: rest) (hW : (rest.map fun v => v.category).sum ≤ 8) (hdg : decode cc pc = .ok (.invokevirtual index, 3)) :
    va_Run p l e R s m args below meth c H locs 0 0 0 0 (F0 m pc ls st0) rest (zPost G w1 rv (va_A wc H.size) (Value.ref b :: As).toArray) (va_A wc H.size) :=
  va_runV S (hM H.size) (cwV n S.2.2.2.2 hG hw hrc hrs ⟨rfl, hd⟩ hRm) ⟨zPre.blind, va_recv hC.1.1 hC.2.1 hci he, fun U hU hW1 => hC.pre isC hn0 hc U hU hW1⟩ rfl hn hsize hstack (lv_room hW) hdg ⟨Nat.zero_le _, Nat.zero_le _⟩
theorem z_runS {y : MethodName} {bytes : ByteArray} {maxL n index : Nat} {ret : Option FieldType} {wsy wsy' : List Cond} {rm : Room} {wc w1 : va_W} {rv : Option Value} {As : List Value}
    (S : CallFix p m c cc nL s args Ts own) (hC : zC G c3 A s ws H locs) (hM : zM l y wsy rm G c3 wc As rv w1) (isC : List Nat) (hn0 : va_nd isC = true) (hc : isC.map (fun i => ws[i]?) = wc.map some)
    (hG : GoodIn Ts (va_wsS own index y wsy)) (hw : wsy = Cond.code y bytes maxL ret :: wsy') (hrc : rm.cells = 0) (hrs : rm.slots = 0)
    (hd : y.cls ≠ "java/lang/invoke/MethodHandle" ∧ y.cls ≠ "java/lang/invoke/VarHandle" ∧ (parseMethodDescriptor y.desc).map (fun d => d.parameters.length) = some n) (hRm : rm.frames + 1 ≤ R.frames ∧ 8 + (maxL + 11) + rm.locals ≤ R.locals)
    (hn : As.length = n) (hsize : ls.size = nL) (hstack : st0 = As.reverse ++ rest) (hW : (rest.map fun v => v.category).sum ≤ 8) (hdg : decode cc pc = .ok (.invokestatic index, 3)) :
    va_Run p l e R s m args below meth c H locs 0 0 0 0 (F0 m pc ls st0) rest (zPost G w1 rv (va_A wc H.size) As.toArray) (va_A wc H.size) :=
  va_runS S (hM H.size) (va_cwS n S.2.2.2.2 hG hw hrc hrs hd hRm) ⟨zPre.blind, fun U hU hW1 => hC.pre isC hn0 hc U hU hW1⟩ rfl hn hsize hstack (lv_room hW) hdg ⟨Nat.zero_le _, Nat.zero_le _⟩
/-- the whole of an array is copied over another: the other then holds the first's values -/
theorem z_copyAll (S : CallFix p m c cc nL s args Ts own) (hsz : ls.size = nL) (hC : zC G c3 A s ws H locs) {index : Nat} (hlink : Cond.methodLink own index arraycopyName ∈ Ts) (hnat : Cond.native arraycopyName ∈ Ts) (hstat : Cond.static arraycopyName ∈ Ts) (hini : Cond.initialized "java/lang/System" ∈ Ts) (q0 q1 : Nat) {a0 n0 : Nat} {f g : Nat → Int32} (ha0 : ws[q0]? = some (a0, .inl (c3.1, n0, .inl f))) (ha1 : ws[q1]? = some (a, .inl (c3.1, n0, .inl g))) {n : Int32} (hn : n = Int32.ofNat n0) (hsm : n0 < 2147483648)
    (hframes : 1 ≤ R.frames) (hlocals : (rest.map fun v => v.category).sum + (nativeFrameWords "java/lang/System" "arraycopy" 5 + 11) ≤ R.locals) (hdg : decode cc pc = .ok (.invokestatic index, 3)) {ws2 : va_W} (hws : ws.set q1 (a, .inl (c3.1, n0, .inl f)) = ws2)
    (kk : ∀ (H1 : Heap) (locs1 : List Loc), zC G c3 A s ws2 H1 locs1 → W p l e R s m args below meth c H1 locs1 0 0 Q (F0 m (pc + 3) ls rest)) : W p l e R s m args below meth c H locs 0 0 Q (F0 m pc ls (.int n :: .int 0 :: .ref a :: .int 0 :: .ref a0 :: rest)) := by
  subst hws
  have hnn : n.toNatClampNeg = n0 := by rw [hn]; exact nI_clamp hsm
  refine va_copyi S.1 S.2.1 (S.2.2.1.trans hsz.symm) S.2.2.2.1 (S.2.2.2.2 _ hlink) (S.2.2.2.2 _ hnat) (S.2.2.2.2 _ hstat) (S.2.2.2.2 _ hini) hC.1.1 hC.2.1 hC.2.2.1 hC.2.2.2.1 q0 q1 0 0 ha0 ha1 rfl rfl rfl (by decide) (by decide) (by rw [hn]; exact nI_pos hsm) (by rw [hnn]; show 0 + n0 ≤ n0; omega) (by rw [hnn]; show 0 + n0 ≤ n0; omega) (fun i _ => rfl) hframes hlocals hdg (fun H1 locs1 hP hD hS => kk H1 locs1 ?_)
  have e1 : vp_cell c3.1 (n0, .inl (va_cpy f g (Int32.toNatClampNeg 0) (Int32.toNatClampNeg 0) n.toNatClampNeg)) = vp_cell c3.1 (n0, .inl f) := by
    rw [hnn, vp_cell_i, vp_cell_i]
    exact zarr_congr (fun j hj => by show Value.int (va_cpy f g 0 0 n0 j) = Value.int (f j); unfold va_cpy; rw [if_pos (by omega)]; simp)
  refine ⟨hC.1, ?_, ?_, hS, hC.2.2.2.2⟩
  · intro k q hk
    by_cases hkq : k = q1
    · subst hkq
      have hlt : k < ws.length := (List.getElem?_eq_some_iff.mp ha1).1
      rw [List.getElem?_set_self hlt] at hk
      have hq := Option.some.inj hk
      subst hq
      have h1 := hP k _ (List.getElem?_set_self hlt)
      show H1[a]? = some (vp_cell c3.1 (n0, .inl f))
      rw [← e1]
      exact h1
    · rw [List.getElem?_set_ne (Ne.symm hkq)] at hk
      exact hP k q (by rw [List.getElem?_set_ne (Ne.symm hkq)]; exact hk)
  · exact hC.2.2.1.set ha1
theorem z_calli {r : Int32} {wc wr w1 ws2 : va_W} {aa : Array Value} (hr : va_Run p l e R s m args below meth c H locs 0 0 0 0 (F0 m pc ls st0) rest (zPost G w1 (some (.int r)) (va_A wc H.size) aa) (va_A wc H.size)) (hC : zC G c3 A s ws H locs) (isC isR perm : List Nat)
    (hc : isC.map (fun i => ws[i]?) = wc.map some) (hR : isR.map (fun i => ws[i]?) = wr.map some) (hn : va_nd isR = true) (hdis : ∀ i ∈ isR, i ∉ isC) (hp : perm.map (fun i => (wr ++ w1)[i]?) = ws2.map some) (hnp : va_nd perm = true)
    (kk : ∀ (H1 : Heap) (locs1 : List Loc), zC G c3 A s ws2 H1 locs1 → W p l e R s m args below meth c H1 locs1 0 0 Q (F0 m (pc + 3) ls (.int r :: rest))) : W p l e R s m args below meth c H locs 0 0 Q (F0 m pc ls st0) := z_call hr hC isC isR perm hc hR hn hdis hp hnp kk
theorem z_callv {wc wr w1 ws2 : va_W} {aa : Array Value} (hr : va_Run p l e R s m args below meth c H locs 0 0 0 0 (F0 m pc ls st0) rest (zPost G w1 none (va_A wc H.size) aa) (va_A wc H.size)) (hC : zC G c3 A s ws H locs) (isC isR perm : List Nat)
    (hc : isC.map (fun i => ws[i]?) = wc.map some) (hR : isR.map (fun i => ws[i]?) = wr.map some) (hn : va_nd isR = true) (hdis : ∀ i ∈ isR, i ∉ isC) (hp : perm.map (fun i => (wr ++ w1)[i]?) = ws2.map some) (hnp : va_nd perm = true)
    (kk : ∀ (H1 : Heap) (locs1 : List Loc), zC G c3 A s ws2 H1 locs1 → W p l e R s m args below meth c H1 locs1 0 0 Q (F0 m (pc + 3) ls rest)) : W p l e R s m args below meth c H locs 0 0 Q (F0 m pc ls st0) := z_call hr hC isC isR perm hc hR hn hdis hp hnp kk
theorem z_callPi {r : Int32} {wc : va_W} {aa : Array Value} (hr : va_Run p l e R s m args below meth c H locs 0 0 0 0 (F0 m pc ls st0) rest (zPost G wc (some (.int r)) (va_A wc H.size) aa) (va_A wc H.size)) (hC : zC G c3 A s ws H locs) (isC : List Nat) (hc : isC.map (fun i => ws[i]?) = wc.map some)
    (kk : ∀ (H1 : Heap) (locs1 : List Loc), zC G c3 A s ws H1 locs1 → W p l e R s m args below meth c H1 locs1 0 0 Q (F0 m (pc + 3) ls (.int r :: rest))) : W p l e R s m args below meth c H locs 0 0 Q (F0 m pc ls st0) := z_callP hr hC isC hc kk
theorem z_callPv {wc : va_W} {aa : Array Value} (hr : va_Run p l e R s m args below meth c H locs 0 0 0 0 (F0 m pc ls st0) rest (zPost G wc none (va_A wc H.size) aa) (va_A wc H.size)) (hC : zC G c3 A s ws H locs) (isC : List Nat) (hc : isC.map (fun i => ws[i]?) = wc.map some)
    (kk : ∀ (H1 : Heap) (locs1 : List Loc), zC G c3 A s ws H1 locs1 → W p l e R s m args below meth c H1 locs1 0 0 Q (F0 m (pc + 3) ls rest)) : W p l e R s m args below meth c H locs 0 0 Q (F0 m pc ls st0) := z_callP hr hC isC hc kk
theorem z_mmax (S : CallFix p m c cc nL s args Ts own) (hsz : ls.size = nL) {index : Nat} (hlink : Cond.methodLink own index Lib.Math.max.name ∈ Ts) (hstat : Cond.static Lib.Math.max.name ∈ Ts) (hini : Cond.initialized "java/lang/Math" ∈ Ts) (hcode : Cond.code Lib.Math.max.name Lib.Math.max.code 2 (some .int) ∈ Ts) (hframes : 1 ≤ R.frames) (hlocals : (rest.map fun v => v.category).sum + 13 ≤ R.locals) {x y : Int32} (hdg : decode cc pc = .ok (.invokestatic index, 3))
    (kk : W p l e R s m args below meth c H locs 0 0 Q (F0 m (pc + 3) ls (.int (if x < y then y else x) :: rest))) : W p l e R s m args below meth c H locs 0 0 Q (F0 m pc ls (.int y :: .int x :: rest)) :=
  va_mmax S.1 S.2.1 (S.2.2.1.trans hsz.symm) S.2.2.2.1 (S.2.2.2.2 _ hlink) (S.2.2.2.2 _ hstat) (S.2.2.2.2 _ hini) (S.2.2.2.2 _ hcode) hframes hlocals (Nat.zero_le _) (Nat.zero_le _) hdg kk
theorem z_mmin (S : CallFix p m c cc nL s args Ts own) (hsz : ls.size = nL) {index : Nat} (hlink : Cond.methodLink own index Lib.Math.min.name ∈ Ts) (hstat : Cond.static Lib.Math.min.name ∈ Ts) (hini : Cond.initialized "java/lang/Math" ∈ Ts) (hcode : Cond.code Lib.Math.min.name Lib.Math.min.code 2 (some .int) ∈ Ts) (hframes : 1 ≤ R.frames) (hlocals : (rest.map fun v => v.category).sum + 13 ≤ R.locals) {x y : Int32} (hdg : decode cc pc = .ok (.invokestatic index, 3))
    (kk : W p l e R s m args below meth c H locs 0 0 Q (F0 m (pc + 3) ls (.int (if y < x then y else x) :: rest))) : W p l e R s m args below meth c H locs 0 0 Q (F0 m pc ls (.int y :: .int x :: rest)) :=
  va_mmin S.1 S.2.1 (S.2.2.1.trans hsz.symm) S.2.2.2.1 (S.2.2.2.2 _ hlink) (S.2.2.2.2 _ hstat) (S.2.2.2.2 _ hini) (S.2.2.2.2 _ hcode) hframes hlocals (Nat.zero_le _) (Nat.zero_le _) hdg kk
end ZROWS
