abbrev gs_T (cI cL cZ : ClassId) : List (ClassId × FieldType) := [(cI, .int), (cL, .long), (cZ, .boolean)]
theorem sw_3_0 (x : Int32) : x = 0 ∨ x = 1 ∨ x = 2 ∨ (x.toInt < 0 ∨ 2 < x.toInt) := by
  by_cases h0 : x.toInt = 0
  · exact Or.inl (Int32.toInt_inj.mp h0)
  · by_cases h1 : x.toInt = 1
    · exact Or.inr (Or.inl (Int32.toInt_inj.mp h1))
    · by_cases h2 : x.toInt = 2
      · exact Or.inr (Or.inr (Or.inl (Int32.toInt_inj.mp h2)))
      · exact Or.inr (Or.inr (Or.inr (by omega)))
def wG (h : Nat → Nat) (cI cL : ClassId) (σ : gs_St) : va_W := [(h 0, .inr (8, [.ref (h 1), .int (σ.1 0), .ref (h 2), .ref (h 6), .ref (h 9), .ref (h 12), .ref (h 15), .ref (h 22), .ref (h 29), .int (σ.1 1)])),
  (h 1, .inl (cI, 6, .inl (σ.2.1 0))),
  (h 2, .inr (2, [.ref (h 3), .ref (h 4), .ref (h 5), .int (σ.1 2)])),
  (h 3, .inl (cI, 24, .inl (σ.2.1 1))),
  (h 4, .inl (cI, 24, .inl (σ.2.1 2))),
  (h 5, .inl (cI, 144, .inl (σ.2.1 3))),
  (h 6, .inr (4, [.ref (h 2), .ref (h 7), .ref (h 8)])),
  (h 7, .inl (cI, 8, .inl (σ.2.1 4))),
  (h 8, .inl (cI, 8, .inl (σ.2.1 5))),
  (h 9, .inr (3, [.ref (h 2), .ref (h 6), .ref (h 10), .ref (h 11), .int (σ.1 3)])),
  (h 10, .inl (cI, 8, .inl (σ.2.1 6))),
  (h 11, .inl (cI, 8, .inl (σ.2.1 7))),
  (h 12, .inr (0, [.ref (h 2), .ref (h 9), .ref (h 13), .ref (h 14), .int (σ.1 4), .int (σ.1 5)])),
  (h 13, .inl (cL, 136, .inr (.inl (σ.2.2 0)))),
  (h 14, .inl (cL, 2856, .inr (.inl (σ.2.2 1)))),
  (h 15, .inr (0, [.ref (h 2), .ref (h 9), .ref (h 16), .ref (h 17), .int (σ.1 6), .int (σ.1 7)])),
  (h 16, .inl (cL, 136, .inr (.inl (σ.2.2 2)))),
  (h 17, .inl (cL, 2856, .inr (.inl (σ.2.2 3)))),
  (h 18, .inr (6, [.ref (h 19), .ref (h 20), .ref (h 21), .int (σ.1 8)])),
  (h 19, .inl (cI, 216, .inl (σ.2.1 8))),
  (h 20, .inl (cI, 216, .inl (σ.2.1 9))),
  (h 21, .inl (cL, 216, .inr (.inl (σ.2.2 4)))),
  (h 22, .inr (7, [.ref (h 2), .ref (h 12), .ref (h 18), .ref (h 23), .ref (h 26), .int (σ.1 9)])),
  (h 23, .inr (1, [.ref (h 24), .ref (h 25), .int (σ.1 10), .int (σ.1 11)])),
  (h 24, .inl (cI, 200, .inl (σ.2.1 10))),
  (h 25, .inl (cI, 16, .inl (σ.2.1 11))),
  (h 26, .inr (1, [.ref (h 27), .ref (h 28), .int (σ.1 12), .int (σ.1 13)])),
  (h 27, .inl (cI, 200, .inl (σ.2.1 12))),
  (h 28, .inl (cI, 16, .inl (σ.2.1 13))),
  (h 29, .inr (5, [.ref (h 2), .ref (h 12), .ref (h 18), .ref (h 30), .int (σ.1 14)])),
  (h 30, .inl (cI, 200, .inl (σ.2.1 14)))]
theorem set_wG_A0 (h : Nat → Nat) (cI cL : ClassId) (σ : gs_St) (f : Nat → Int32) : (wG h cI cL σ).set 1 (h 1, .inl (cI, 6, .inl f)) = wG h cI cL (gs_A σ 0 f) := rfl
theorem set_wG_A1 (h : Nat → Nat) (cI cL : ClassId) (σ : gs_St) (f : Nat → Int32) : (wG h cI cL σ).set 3 (h 3, .inl (cI, 24, .inl f)) = wG h cI cL (gs_A σ 1 f) := rfl
theorem set_wG_A2 (h : Nat → Nat) (cI cL : ClassId) (σ : gs_St) (f : Nat → Int32) : (wG h cI cL σ).set 4 (h 4, .inl (cI, 24, .inl f)) = wG h cI cL (gs_A σ 2 f) := rfl
theorem set_wG_A3 (h : Nat → Nat) (cI cL : ClassId) (σ : gs_St) (f : Nat → Int32) : (wG h cI cL σ).set 5 (h 5, .inl (cI, 144, .inl f)) = wG h cI cL (gs_A σ 3 f) := rfl
theorem set_wG_A4 (h : Nat → Nat) (cI cL : ClassId) (σ : gs_St) (f : Nat → Int32) : (wG h cI cL σ).set 7 (h 7, .inl (cI, 8, .inl f)) = wG h cI cL (gs_A σ 4 f) := rfl
theorem set_wG_A5 (h : Nat → Nat) (cI cL : ClassId) (σ : gs_St) (f : Nat → Int32) : (wG h cI cL σ).set 8 (h 8, .inl (cI, 8, .inl f)) = wG h cI cL (gs_A σ 5 f) := rfl
theorem set_wG_A6 (h : Nat → Nat) (cI cL : ClassId) (σ : gs_St) (f : Nat → Int32) : (wG h cI cL σ).set 10 (h 10, .inl (cI, 8, .inl f)) = wG h cI cL (gs_A σ 6 f) := rfl
theorem set_wG_A7 (h : Nat → Nat) (cI cL : ClassId) (σ : gs_St) (f : Nat → Int32) : (wG h cI cL σ).set 11 (h 11, .inl (cI, 8, .inl f)) = wG h cI cL (gs_A σ 7 f) := rfl
theorem set_wG_A8 (h : Nat → Nat) (cI cL : ClassId) (σ : gs_St) (f : Nat → Int32) : (wG h cI cL σ).set 19 (h 19, .inl (cI, 216, .inl f)) = wG h cI cL (gs_A σ 8 f) := rfl
theorem set_wG_A9 (h : Nat → Nat) (cI cL : ClassId) (σ : gs_St) (f : Nat → Int32) : (wG h cI cL σ).set 20 (h 20, .inl (cI, 216, .inl f)) = wG h cI cL (gs_A σ 9 f) := rfl
theorem set_wG_A12 (h : Nat → Nat) (cI cL : ClassId) (σ : gs_St) (f : Nat → Int32) : (wG h cI cL σ).set 27 (h 27, .inl (cI, 200, .inl f)) = wG h cI cL (gs_A σ 12 f) := rfl
theorem set_wG_A13 (h : Nat → Nat) (cI cL : ClassId) (σ : gs_St) (f : Nat → Int32) : (wG h cI cL σ).set 28 (h 28, .inl (cI, 16, .inl f)) = wG h cI cL (gs_A σ 13 f) := rfl
theorem set_wG_A14 (h : Nat → Nat) (cI cL : ClassId) (σ : gs_St) (f : Nat → Int32) : (wG h cI cL σ).set 30 (h 30, .inl (cI, 200, .inl f)) = wG h cI cL (gs_A σ 14 f) := rfl
theorem set_wG_I0 (h : Nat → Nat) (cI cL : ClassId) (σ : gs_St) (v : Int32) : (wG h cI cL σ).set 0 (h 0, .inr (8, ([.ref (h 1), .int (σ.1 0), .ref (h 2), .ref (h 6), .ref (h 9), .ref (h 12), .ref (h 15), .ref (h 22), .ref (h 29), .int (σ.1 1)] : List Value).set 1 (.int v))) = wG h cI cL (gs_I σ 0 v) := rfl
theorem set_wG_I1 (h : Nat → Nat) (cI cL : ClassId) (σ : gs_St) (v : Int32) : (wG h cI cL σ).set 0 (h 0, .inr (8, ([.ref (h 1), .int (σ.1 0), .ref (h 2), .ref (h 6), .ref (h 9), .ref (h 12), .ref (h 15), .ref (h 22), .ref (h 29), .int (σ.1 1)] : List Value).set 9 (.int v))) = wG h cI cL (gs_I σ 1 v) := rfl
theorem set_wG_I2 (h : Nat → Nat) (cI cL : ClassId) (σ : gs_St) (v : Int32) : (wG h cI cL σ).set 2 (h 2, .inr (2, ([.ref (h 3), .ref (h 4), .ref (h 5), .int (σ.1 2)] : List Value).set 3 (.int v))) = wG h cI cL (gs_I σ 2 v) := rfl
theorem set_wG_I3 (h : Nat → Nat) (cI cL : ClassId) (σ : gs_St) (v : Int32) : (wG h cI cL σ).set 9 (h 9, .inr (3, ([.ref (h 2), .ref (h 6), .ref (h 10), .ref (h 11), .int (σ.1 3)] : List Value).set 4 (.int v))) = wG h cI cL (gs_I σ 3 v) := rfl
theorem set_wG_I5 (h : Nat → Nat) (cI cL : ClassId) (σ : gs_St) (v : Int32) : (wG h cI cL σ).set 12 (h 12, .inr (0, ([.ref (h 2), .ref (h 9), .ref (h 13), .ref (h 14), .int (σ.1 4), .int (σ.1 5)] : List Value).set 5 (.int v))) = wG h cI cL (gs_I σ 5 v) := rfl
theorem set_wG_I6 (h : Nat → Nat) (cI cL : ClassId) (σ : gs_St) (v : Int32) : (wG h cI cL σ).set 15 (h 15, .inr (0, ([.ref (h 2), .ref (h 9), .ref (h 16), .ref (h 17), .int (σ.1 6), .int (σ.1 7)] : List Value).set 4 (.int v))) = wG h cI cL (gs_I σ 6 v) := rfl
theorem set_wG_I7 (h : Nat → Nat) (cI cL : ClassId) (σ : gs_St) (v : Int32) : (wG h cI cL σ).set 15 (h 15, .inr (0, ([.ref (h 2), .ref (h 9), .ref (h 16), .ref (h 17), .int (σ.1 6), .int (σ.1 7)] : List Value).set 5 (.int v))) = wG h cI cL (gs_I σ 7 v) := rfl
theorem set_wG_I8 (h : Nat → Nat) (cI cL : ClassId) (σ : gs_St) (v : Int32) : (wG h cI cL σ).set 18 (h 18, .inr (6, ([.ref (h 19), .ref (h 20), .ref (h 21), .int (σ.1 8)] : List Value).set 3 (.int v))) = wG h cI cL (gs_I σ 8 v) := rfl
theorem set_wG_I9 (h : Nat → Nat) (cI cL : ClassId) (σ : gs_St) (v : Int32) : (wG h cI cL σ).set 22 (h 22, .inr (7, ([.ref (h 2), .ref (h 12), .ref (h 18), .ref (h 23), .ref (h 26), .int (σ.1 9)] : List Value).set 5 (.int v))) = wG h cI cL (gs_I σ 9 v) := rfl
theorem set_wG_I12 (h : Nat → Nat) (cI cL : ClassId) (σ : gs_St) (v : Int32) : (wG h cI cL σ).set 26 (h 26, .inr (1, ([.ref (h 27), .ref (h 28), .int (σ.1 12), .int (σ.1 13)] : List Value).set 2 (.int v))) = wG h cI cL (gs_I σ 12 v) := rfl
theorem set_wG_I13 (h : Nat → Nat) (cI cL : ClassId) (σ : gs_St) (v : Int32) : (wG h cI cL σ).set 26 (h 26, .inr (1, ([.ref (h 27), .ref (h 28), .int (σ.1 12), .int (σ.1 13)] : List Value).set 3 (.int v))) = wG h cI cL (gs_I σ 13 v) := rfl
theorem set_wG_I14 (h : Nat → Nat) (cI cL : ClassId) (σ : gs_St) (v : Int32) : (wG h cI cL σ).set 29 (h 29, .inr (5, ([.ref (h 2), .ref (h 12), .ref (h 18), .ref (h 30), .int (σ.1 14)] : List Value).set 4 (.int v))) = wG h cI cL (gs_I σ 14 v) := rfl
theorem set_wG_L0 (h : Nat → Nat) (cI cL : ClassId) (σ : gs_St) (f : Nat → Int64) : (wG h cI cL σ).set 13 (h 13, .inl (cL, 136, .inr (.inl f))) = wG h cI cL (gs_L σ 0 f) := rfl
theorem set_wG_L1 (h : Nat → Nat) (cI cL : ClassId) (σ : gs_St) (f : Nat → Int64) : (wG h cI cL σ).set 14 (h 14, .inl (cL, 2856, .inr (.inl f))) = wG h cI cL (gs_L σ 1 f) := rfl
theorem set_wG_L2 (h : Nat → Nat) (cI cL : ClassId) (σ : gs_St) (f : Nat → Int64) : (wG h cI cL σ).set 16 (h 16, .inl (cL, 136, .inr (.inl f))) = wG h cI cL (gs_L σ 2 f) := rfl
theorem set_wG_L3 (h : Nat → Nat) (cI cL : ClassId) (σ : gs_St) (f : Nat → Int64) : (wG h cI cL σ).set 17 (h 17, .inl (cL, 2856, .inr (.inl f))) = wG h cI cL (gs_L σ 3 f) := rfl
theorem set_wG_L4 (h : Nat → Nat) (cI cL : ClassId) (σ : gs_St) (f : Nat → Int64) : (wG h cI cL σ).set 21 (h 21, .inl (cL, 216, .inr (.inl f))) = wG h cI cL (gs_L σ 4 f) := rfl
/-- the same, with other addresses for the two Drawings in the Weaver -/
def wX (h : Nat → Nat) (a b : Nat) (cI cL : ClassId) (σ : gs_St) : va_W := [(h 0, .inr (8, [.ref (h 1), .int (σ.1 0), .ref (h 2), .ref (h 6), .ref (h 9), .ref (h 12), .ref (h 15), .ref (h 22), .ref (h 29), .int (σ.1 1)])),
  (h 1, .inl (cI, 6, .inl (σ.2.1 0))),
  (h 2, .inr (2, [.ref (h 3), .ref (h 4), .ref (h 5), .int (σ.1 2)])),
  (h 3, .inl (cI, 24, .inl (σ.2.1 1))),
  (h 4, .inl (cI, 24, .inl (σ.2.1 2))),
  (h 5, .inl (cI, 144, .inl (σ.2.1 3))),
  (h 6, .inr (4, [.ref (h 2), .ref (h 7), .ref (h 8)])),
  (h 7, .inl (cI, 8, .inl (σ.2.1 4))),
  (h 8, .inl (cI, 8, .inl (σ.2.1 5))),
  (h 9, .inr (3, [.ref (h 2), .ref (h 6), .ref (h 10), .ref (h 11), .int (σ.1 3)])),
  (h 10, .inl (cI, 8, .inl (σ.2.1 6))),
  (h 11, .inl (cI, 8, .inl (σ.2.1 7))),
  (h 12, .inr (0, [.ref (h 2), .ref (h 9), .ref (h 13), .ref (h 14), .int (σ.1 4), .int (σ.1 5)])),
  (h 13, .inl (cL, 136, .inr (.inl (σ.2.2 0)))),
  (h 14, .inl (cL, 2856, .inr (.inl (σ.2.2 1)))),
  (h 15, .inr (0, [.ref (h 2), .ref (h 9), .ref (h 16), .ref (h 17), .int (σ.1 6), .int (σ.1 7)])),
  (h 16, .inl (cL, 136, .inr (.inl (σ.2.2 2)))),
  (h 17, .inl (cL, 2856, .inr (.inl (σ.2.2 3)))),
  (h 18, .inr (6, [.ref (h 19), .ref (h 20), .ref (h 21), .int (σ.1 8)])),
  (h 19, .inl (cI, 216, .inl (σ.2.1 8))),
  (h 20, .inl (cI, 216, .inl (σ.2.1 9))),
  (h 21, .inl (cL, 216, .inr (.inl (σ.2.2 4)))),
  (h 22, .inr (7, [.ref (h 2), .ref (h 12), .ref (h 18), .ref a, .ref b, .int (σ.1 9)])),
  (h 23, .inr (1, [.ref (h 24), .ref (h 25), .int (σ.1 10), .int (σ.1 11)])),
  (h 24, .inl (cI, 200, .inl (σ.2.1 10))),
  (h 25, .inl (cI, 16, .inl (σ.2.1 11))),
  (h 26, .inr (1, [.ref (h 27), .ref (h 28), .int (σ.1 12), .int (σ.1 13)])),
  (h 27, .inl (cI, 200, .inl (σ.2.1 12))),
  (h 28, .inl (cI, 16, .inl (σ.2.1 13))),
  (h 29, .inr (5, [.ref (h 2), .ref (h 12), .ref (h 18), .ref (h 30), .int (σ.1 14)])),
  (h 30, .inl (cI, 200, .inl (σ.2.1 14)))]
/-- the two Drawings change places -/
def gs_sw (h : Nat → Nat) : Nat → Nat := fun k => if k = 23 then h 26 else if k = 24 then h 27 else if k = 25 then h 28 else if k = 26 then h 23 else if k = 27 then h 24 else if k = 28 then h 25 else h k
def wGb (h : Nat → Nat) (cI cL : ClassId) (u : gs_St × Bool) : va_W := wG (bif u.2 then gs_sw h else h) cI cL u.1
def wM (h : Nat → Nat) (cI cL cZ : ClassId) (σ : gs_St) : va_W := [(h 0, .inr (9, [.ref (h 1), .ref (h 2), .ref (h 3), .int (σ.1 0), .ref (h 4), .int (σ.1 1), .ref (h 5), .int (σ.1 2), .ref (h 6), .ref (h 7), .int (σ.1 3), .int (σ.1 4), .ref (h 8), .ref (h 9), .ref (h 10), .ref (h 11), .ref (h 12), .int (σ.1 5), .int (σ.1 6), .ref (h 13), .ref (h 14), .ref (h 15), .ref (h 16), .int (σ.1 7), .ref (h 17), .ref (h 18), .ref (h 19), .ref (h 20)])),
  (h 1, .inl (cI, 24, .inl (σ.2.1 0))),
  (h 2, .inl (cI, 24, .inl (σ.2.1 1))),
  (h 3, .inl (cI, 144, .inl (σ.2.1 2))),
  (h 4, .inl (cI, 6, .inl (σ.2.1 3))),
  (h 5, .inl (cI, 200, .inl (σ.2.1 4))),
  (h 6, .inl (cI, 200, .inl (σ.2.1 5))),
  (h 7, .inl (cI, 16, .inl (σ.2.1 6))),
  (h 8, .inl (cL, 8, .inr (.inl (σ.2.2 0)))),
  (h 9, .inl (cL, 8, .inr (.inl (σ.2.2 1)))),
  (h 10, .inl (cZ, 8, .inl (σ.2.1 7))),
  (h 11, .inl (cZ, 64, .inl (σ.2.1 8))),
  (h 12, .inl (cL, 136, .inr (.inl (σ.2.2 2)))),
  (h 13, .inl (cL, 119, .inr (.inl (σ.2.2 3)))),
  (h 14, .inl (cI, 1300, .inl (σ.2.1 9))),
  (h 15, .inl (cI, 1300, .inl (σ.2.1 10))),
  (h 16, .inl (cL, 1300, .inr (.inl (σ.2.2 4)))),
  (h 17, .inl (cI, 200, .inl (σ.2.1 11))),
  (h 18, .inl (cI, 16, .inl (σ.2.1 12))),
  (h 19, .inl (cI, 6, .inl (σ.2.1 13))),
  (h 20, .inl (cL, 6, .inr (.inl (σ.2.2 5))))]
theorem set_wM_A0 (h : Nat → Nat) (cI cL cZ : ClassId) (σ : gs_St) (f : Nat → Int32) : (wM h cI cL cZ σ).set 1 (h 1, .inl (cI, 24, .inl f)) = wM h cI cL cZ (gs_A σ 0 f) := rfl
theorem set_wM_A1 (h : Nat → Nat) (cI cL cZ : ClassId) (σ : gs_St) (f : Nat → Int32) : (wM h cI cL cZ σ).set 2 (h 2, .inl (cI, 24, .inl f)) = wM h cI cL cZ (gs_A σ 1 f) := rfl
theorem set_wM_A2 (h : Nat → Nat) (cI cL cZ : ClassId) (σ : gs_St) (f : Nat → Int32) : (wM h cI cL cZ σ).set 3 (h 3, .inl (cI, 144, .inl f)) = wM h cI cL cZ (gs_A σ 2 f) := rfl
theorem set_wM_A3 (h : Nat → Nat) (cI cL cZ : ClassId) (σ : gs_St) (f : Nat → Int32) : (wM h cI cL cZ σ).set 4 (h 4, .inl (cI, 6, .inl f)) = wM h cI cL cZ (gs_A σ 3 f) := rfl
theorem set_wM_A4 (h : Nat → Nat) (cI cL cZ : ClassId) (σ : gs_St) (f : Nat → Int32) : (wM h cI cL cZ σ).set 5 (h 5, .inl (cI, 200, .inl f)) = wM h cI cL cZ (gs_A σ 4 f) := rfl
theorem set_wM_A5 (h : Nat → Nat) (cI cL cZ : ClassId) (σ : gs_St) (f : Nat → Int32) : (wM h cI cL cZ σ).set 6 (h 6, .inl (cI, 200, .inl f)) = wM h cI cL cZ (gs_A σ 5 f) := rfl
theorem set_wM_A6 (h : Nat → Nat) (cI cL cZ : ClassId) (σ : gs_St) (f : Nat → Int32) : (wM h cI cL cZ σ).set 7 (h 7, .inl (cI, 16, .inl f)) = wM h cI cL cZ (gs_A σ 6 f) := rfl
theorem set_wM_A7 (h : Nat → Nat) (cI cL cZ : ClassId) (σ : gs_St) (f : Nat → Int32) : (wM h cI cL cZ σ).set 10 (h 10, .inl (cZ, 8, .inl f)) = wM h cI cL cZ (gs_A σ 7 f) := rfl
theorem set_wM_A8 (h : Nat → Nat) (cI cL cZ : ClassId) (σ : gs_St) (f : Nat → Int32) : (wM h cI cL cZ σ).set 11 (h 11, .inl (cZ, 64, .inl f)) = wM h cI cL cZ (gs_A σ 8 f) := rfl
theorem set_wM_A9 (h : Nat → Nat) (cI cL cZ : ClassId) (σ : gs_St) (f : Nat → Int32) : (wM h cI cL cZ σ).set 14 (h 14, .inl (cI, 1300, .inl f)) = wM h cI cL cZ (gs_A σ 9 f) := rfl
theorem set_wM_A10 (h : Nat → Nat) (cI cL cZ : ClassId) (σ : gs_St) (f : Nat → Int32) : (wM h cI cL cZ σ).set 15 (h 15, .inl (cI, 1300, .inl f)) = wM h cI cL cZ (gs_A σ 10 f) := rfl
theorem set_wM_A11 (h : Nat → Nat) (cI cL cZ : ClassId) (σ : gs_St) (f : Nat → Int32) : (wM h cI cL cZ σ).set 17 (h 17, .inl (cI, 200, .inl f)) = wM h cI cL cZ (gs_A σ 11 f) := rfl
theorem set_wM_A12 (h : Nat → Nat) (cI cL cZ : ClassId) (σ : gs_St) (f : Nat → Int32) : (wM h cI cL cZ σ).set 18 (h 18, .inl (cI, 16, .inl f)) = wM h cI cL cZ (gs_A σ 12 f) := rfl
theorem set_wM_A13 (h : Nat → Nat) (cI cL cZ : ClassId) (σ : gs_St) (f : Nat → Int32) : (wM h cI cL cZ σ).set 19 (h 19, .inl (cI, 6, .inl f)) = wM h cI cL cZ (gs_A σ 13 f) := rfl
theorem set_wM_I0 (h : Nat → Nat) (cI cL cZ : ClassId) (σ : gs_St) (v : Int32) : (wM h cI cL cZ σ).set 0 (h 0, .inr (9, ([.ref (h 1), .ref (h 2), .ref (h 3), .int (σ.1 0), .ref (h 4), .int (σ.1 1), .ref (h 5), .int (σ.1 2), .ref (h 6), .ref (h 7), .int (σ.1 3), .int (σ.1 4), .ref (h 8), .ref (h 9), .ref (h 10), .ref (h 11), .ref (h 12), .int (σ.1 5), .int (σ.1 6), .ref (h 13), .ref (h 14), .ref (h 15), .ref (h 16), .int (σ.1 7), .ref (h 17), .ref (h 18), .ref (h 19), .ref (h 20)] : List Value).set 3 (.int v))) = wM h cI cL cZ (gs_I σ 0 v) := rfl
theorem set_wM_I1 (h : Nat → Nat) (cI cL cZ : ClassId) (σ : gs_St) (v : Int32) : (wM h cI cL cZ σ).set 0 (h 0, .inr (9, ([.ref (h 1), .ref (h 2), .ref (h 3), .int (σ.1 0), .ref (h 4), .int (σ.1 1), .ref (h 5), .int (σ.1 2), .ref (h 6), .ref (h 7), .int (σ.1 3), .int (σ.1 4), .ref (h 8), .ref (h 9), .ref (h 10), .ref (h 11), .ref (h 12), .int (σ.1 5), .int (σ.1 6), .ref (h 13), .ref (h 14), .ref (h 15), .ref (h 16), .int (σ.1 7), .ref (h 17), .ref (h 18), .ref (h 19), .ref (h 20)] : List Value).set 5 (.int v))) = wM h cI cL cZ (gs_I σ 1 v) := rfl
theorem set_wM_I2 (h : Nat → Nat) (cI cL cZ : ClassId) (σ : gs_St) (v : Int32) : (wM h cI cL cZ σ).set 0 (h 0, .inr (9, ([.ref (h 1), .ref (h 2), .ref (h 3), .int (σ.1 0), .ref (h 4), .int (σ.1 1), .ref (h 5), .int (σ.1 2), .ref (h 6), .ref (h 7), .int (σ.1 3), .int (σ.1 4), .ref (h 8), .ref (h 9), .ref (h 10), .ref (h 11), .ref (h 12), .int (σ.1 5), .int (σ.1 6), .ref (h 13), .ref (h 14), .ref (h 15), .ref (h 16), .int (σ.1 7), .ref (h 17), .ref (h 18), .ref (h 19), .ref (h 20)] : List Value).set 7 (.int v))) = wM h cI cL cZ (gs_I σ 2 v) := rfl
theorem set_wM_I3 (h : Nat → Nat) (cI cL cZ : ClassId) (σ : gs_St) (v : Int32) : (wM h cI cL cZ σ).set 0 (h 0, .inr (9, ([.ref (h 1), .ref (h 2), .ref (h 3), .int (σ.1 0), .ref (h 4), .int (σ.1 1), .ref (h 5), .int (σ.1 2), .ref (h 6), .ref (h 7), .int (σ.1 3), .int (σ.1 4), .ref (h 8), .ref (h 9), .ref (h 10), .ref (h 11), .ref (h 12), .int (σ.1 5), .int (σ.1 6), .ref (h 13), .ref (h 14), .ref (h 15), .ref (h 16), .int (σ.1 7), .ref (h 17), .ref (h 18), .ref (h 19), .ref (h 20)] : List Value).set 10 (.int v))) = wM h cI cL cZ (gs_I σ 3 v) := rfl
theorem set_wM_I4 (h : Nat → Nat) (cI cL cZ : ClassId) (σ : gs_St) (v : Int32) : (wM h cI cL cZ σ).set 0 (h 0, .inr (9, ([.ref (h 1), .ref (h 2), .ref (h 3), .int (σ.1 0), .ref (h 4), .int (σ.1 1), .ref (h 5), .int (σ.1 2), .ref (h 6), .ref (h 7), .int (σ.1 3), .int (σ.1 4), .ref (h 8), .ref (h 9), .ref (h 10), .ref (h 11), .ref (h 12), .int (σ.1 5), .int (σ.1 6), .ref (h 13), .ref (h 14), .ref (h 15), .ref (h 16), .int (σ.1 7), .ref (h 17), .ref (h 18), .ref (h 19), .ref (h 20)] : List Value).set 11 (.int v))) = wM h cI cL cZ (gs_I σ 4 v) := rfl
theorem set_wM_I5 (h : Nat → Nat) (cI cL cZ : ClassId) (σ : gs_St) (v : Int32) : (wM h cI cL cZ σ).set 0 (h 0, .inr (9, ([.ref (h 1), .ref (h 2), .ref (h 3), .int (σ.1 0), .ref (h 4), .int (σ.1 1), .ref (h 5), .int (σ.1 2), .ref (h 6), .ref (h 7), .int (σ.1 3), .int (σ.1 4), .ref (h 8), .ref (h 9), .ref (h 10), .ref (h 11), .ref (h 12), .int (σ.1 5), .int (σ.1 6), .ref (h 13), .ref (h 14), .ref (h 15), .ref (h 16), .int (σ.1 7), .ref (h 17), .ref (h 18), .ref (h 19), .ref (h 20)] : List Value).set 17 (.int v))) = wM h cI cL cZ (gs_I σ 5 v) := rfl
theorem set_wM_I6 (h : Nat → Nat) (cI cL cZ : ClassId) (σ : gs_St) (v : Int32) : (wM h cI cL cZ σ).set 0 (h 0, .inr (9, ([.ref (h 1), .ref (h 2), .ref (h 3), .int (σ.1 0), .ref (h 4), .int (σ.1 1), .ref (h 5), .int (σ.1 2), .ref (h 6), .ref (h 7), .int (σ.1 3), .int (σ.1 4), .ref (h 8), .ref (h 9), .ref (h 10), .ref (h 11), .ref (h 12), .int (σ.1 5), .int (σ.1 6), .ref (h 13), .ref (h 14), .ref (h 15), .ref (h 16), .int (σ.1 7), .ref (h 17), .ref (h 18), .ref (h 19), .ref (h 20)] : List Value).set 18 (.int v))) = wM h cI cL cZ (gs_I σ 6 v) := rfl
theorem set_wM_I7 (h : Nat → Nat) (cI cL cZ : ClassId) (σ : gs_St) (v : Int32) : (wM h cI cL cZ σ).set 0 (h 0, .inr (9, ([.ref (h 1), .ref (h 2), .ref (h 3), .int (σ.1 0), .ref (h 4), .int (σ.1 1), .ref (h 5), .int (σ.1 2), .ref (h 6), .ref (h 7), .int (σ.1 3), .int (σ.1 4), .ref (h 8), .ref (h 9), .ref (h 10), .ref (h 11), .ref (h 12), .int (σ.1 5), .int (σ.1 6), .ref (h 13), .ref (h 14), .ref (h 15), .ref (h 16), .int (σ.1 7), .ref (h 17), .ref (h 18), .ref (h 19), .ref (h 20)] : List Value).set 23 (.int v))) = wM h cI cL cZ (gs_I σ 7 v) := rfl
theorem set_wM_L0 (h : Nat → Nat) (cI cL cZ : ClassId) (σ : gs_St) (f : Nat → Int64) : (wM h cI cL cZ σ).set 8 (h 8, .inl (cL, 8, .inr (.inl f))) = wM h cI cL cZ (gs_L σ 0 f) := rfl
theorem set_wM_L1 (h : Nat → Nat) (cI cL cZ : ClassId) (σ : gs_St) (f : Nat → Int64) : (wM h cI cL cZ σ).set 9 (h 9, .inl (cL, 8, .inr (.inl f))) = wM h cI cL cZ (gs_L σ 1 f) := rfl
theorem set_wM_L2 (h : Nat → Nat) (cI cL cZ : ClassId) (σ : gs_St) (f : Nat → Int64) : (wM h cI cL cZ σ).set 12 (h 12, .inl (cL, 136, .inr (.inl f))) = wM h cI cL cZ (gs_L σ 2 f) := rfl
theorem set_wM_L3 (h : Nat → Nat) (cI cL cZ : ClassId) (σ : gs_St) (f : Nat → Int64) : (wM h cI cL cZ σ).set 13 (h 13, .inl (cL, 119, .inr (.inl f))) = wM h cI cL cZ (gs_L σ 3 f) := rfl
theorem set_wM_L4 (h : Nat → Nat) (cI cL cZ : ClassId) (σ : gs_St) (f : Nat → Int64) : (wM h cI cL cZ σ).set 16 (h 16, .inl (cL, 1300, .inr (.inl f))) = wM h cI cL cZ (gs_L σ 4 f) := rfl
theorem set_wM_L5 (h : Nat → Nat) (cI cL cZ : ClassId) (σ : gs_St) (f : Nat → Int64) : (wM h cI cL cZ σ).set 20 (h 20, .inl (cL, 6, .inr (.inl f))) = wM h cI cL cZ (gs_L σ 5 f) := rfl
