-- part 11: Math, bitCount, a Bell (printed by wip/whole/gen/p11.py)
def pcn (n : Nat) : Nat := ((List.range 12).filter (fun b => n.testBit b)).length
def bcE (x : Int) : Int := (Int32.ofInt ((((Int32.ofInt ((((Int32.ofInt (x - ((Int32.ofInt (((Int32.ofInt x).toUInt32 >>> ((Int32.ofInt 1).toUInt32 &&& Int32.toUInt32 31)).toInt32.toInt) &&& Int32.ofInt 1431655765).toInt)) &&& Int32.ofInt 858993459).toInt) + ((Int32.ofInt (((Int32.ofInt (x - ((Int32.ofInt (((Int32.ofInt x).toUInt32 >>> ((Int32.ofInt 1).toUInt32 &&& Int32.toUInt32 31)).toInt32.toInt) &&& Int32.ofInt 1431655765).toInt))).toUInt32 >>> ((Int32.ofInt 2).toUInt32 &&& Int32.toUInt32 31)).toInt32.toInt) &&& Int32.ofInt 858993459).toInt)) + (((Int32.ofInt (((Int32.ofInt (x - ((Int32.ofInt (((Int32.ofInt x).toUInt32 >>> ((Int32.ofInt 1).toUInt32 &&& Int32.toUInt32 31)).toInt32.toInt) &&& Int32.ofInt 1431655765).toInt)) &&& Int32.ofInt 858993459).toInt) + ((Int32.ofInt (((Int32.ofInt (x - ((Int32.ofInt (((Int32.ofInt x).toUInt32 >>> ((Int32.ofInt 1).toUInt32 &&& Int32.toUInt32 31)).toInt32.toInt) &&& Int32.ofInt 1431655765).toInt))).toUInt32 >>> ((Int32.ofInt 2).toUInt32 &&& Int32.toUInt32 31)).toInt32.toInt) &&& Int32.ofInt 858993459).toInt))).toUInt32 >>> ((Int32.ofInt 4).toUInt32 &&& Int32.toUInt32 31)).toInt32.toInt)) &&& Int32.ofInt 252645135).toInt) + (((Int32.ofInt ((Int32.ofInt ((((Int32.ofInt (x - ((Int32.ofInt (((Int32.ofInt x).toUInt32 >>> ((Int32.ofInt 1).toUInt32 &&& Int32.toUInt32 31)).toInt32.toInt) &&& Int32.ofInt 1431655765).toInt)) &&& Int32.ofInt 858993459).toInt) + ((Int32.ofInt (((Int32.ofInt (x - ((Int32.ofInt (((Int32.ofInt x).toUInt32 >>> ((Int32.ofInt 1).toUInt32 &&& Int32.toUInt32 31)).toInt32.toInt) &&& Int32.ofInt 1431655765).toInt))).toUInt32 >>> ((Int32.ofInt 2).toUInt32 &&& Int32.toUInt32 31)).toInt32.toInt) &&& Int32.ofInt 858993459).toInt)) + (((Int32.ofInt (((Int32.ofInt (x - ((Int32.ofInt (((Int32.ofInt x).toUInt32 >>> ((Int32.ofInt 1).toUInt32 &&& Int32.toUInt32 31)).toInt32.toInt) &&& Int32.ofInt 1431655765).toInt)) &&& Int32.ofInt 858993459).toInt) + ((Int32.ofInt (((Int32.ofInt (x - ((Int32.ofInt (((Int32.ofInt x).toUInt32 >>> ((Int32.ofInt 1).toUInt32 &&& Int32.toUInt32 31)).toInt32.toInt) &&& Int32.ofInt 1431655765).toInt))).toUInt32 >>> ((Int32.ofInt 2).toUInt32 &&& Int32.toUInt32 31)).toInt32.toInt) &&& Int32.ofInt 858993459).toInt))).toUInt32 >>> ((Int32.ofInt 4).toUInt32 &&& Int32.toUInt32 31)).toInt32.toInt)) &&& Int32.ofInt 252645135).toInt)).toUInt32 >>> ((Int32.ofInt 8).toUInt32 &&& Int32.toUInt32 31)).toInt32.toInt)) + (((Int32.ofInt (((Int32.ofInt ((((Int32.ofInt (x - ((Int32.ofInt (((Int32.ofInt x).toUInt32 >>> ((Int32.ofInt 1).toUInt32 &&& Int32.toUInt32 31)).toInt32.toInt) &&& Int32.ofInt 1431655765).toInt)) &&& Int32.ofInt 858993459).toInt) + ((Int32.ofInt (((Int32.ofInt (x - ((Int32.ofInt (((Int32.ofInt x).toUInt32 >>> ((Int32.ofInt 1).toUInt32 &&& Int32.toUInt32 31)).toInt32.toInt) &&& Int32.ofInt 1431655765).toInt))).toUInt32 >>> ((Int32.ofInt 2).toUInt32 &&& Int32.toUInt32 31)).toInt32.toInt) &&& Int32.ofInt 858993459).toInt)) + (((Int32.ofInt (((Int32.ofInt (x - ((Int32.ofInt (((Int32.ofInt x).toUInt32 >>> ((Int32.ofInt 1).toUInt32 &&& Int32.toUInt32 31)).toInt32.toInt) &&& Int32.ofInt 1431655765).toInt)) &&& Int32.ofInt 858993459).toInt) + ((Int32.ofInt (((Int32.ofInt (x - ((Int32.ofInt (((Int32.ofInt x).toUInt32 >>> ((Int32.ofInt 1).toUInt32 &&& Int32.toUInt32 31)).toInt32.toInt) &&& Int32.ofInt 1431655765).toInt))).toUInt32 >>> ((Int32.ofInt 2).toUInt32 &&& Int32.toUInt32 31)).toInt32.toInt) &&& Int32.ofInt 858993459).toInt))).toUInt32 >>> ((Int32.ofInt 4).toUInt32 &&& Int32.toUInt32 31)).toInt32.toInt)) &&& Int32.ofInt 252645135).toInt) + (((Int32.ofInt ((Int32.ofInt ((((Int32.ofInt (x - ((Int32.ofInt (((Int32.ofInt x).toUInt32 >>> ((Int32.ofInt 1).toUInt32 &&& Int32.toUInt32 31)).toInt32.toInt) &&& Int32.ofInt 1431655765).toInt)) &&& Int32.ofInt 858993459).toInt) + ((Int32.ofInt (((Int32.ofInt (x - ((Int32.ofInt (((Int32.ofInt x).toUInt32 >>> ((Int32.ofInt 1).toUInt32 &&& Int32.toUInt32 31)).toInt32.toInt) &&& Int32.ofInt 1431655765).toInt))).toUInt32 >>> ((Int32.ofInt 2).toUInt32 &&& Int32.toUInt32 31)).toInt32.toInt) &&& Int32.ofInt 858993459).toInt)) + (((Int32.ofInt (((Int32.ofInt (x - ((Int32.ofInt (((Int32.ofInt x).toUInt32 >>> ((Int32.ofInt 1).toUInt32 &&& Int32.toUInt32 31)).toInt32.toInt) &&& Int32.ofInt 1431655765).toInt)) &&& Int32.ofInt 858993459).toInt) + ((Int32.ofInt (((Int32.ofInt (x - ((Int32.ofInt (((Int32.ofInt x).toUInt32 >>> ((Int32.ofInt 1).toUInt32 &&& Int32.toUInt32 31)).toInt32.toInt) &&& Int32.ofInt 1431655765).toInt))).toUInt32 >>> ((Int32.ofInt 2).toUInt32 &&& Int32.toUInt32 31)).toInt32.toInt) &&& Int32.ofInt 858993459).toInt))).toUInt32 >>> ((Int32.ofInt 4).toUInt32 &&& Int32.toUInt32 31)).toInt32.toInt)) &&& Int32.ofInt 252645135).toInt)).toUInt32 >>> ((Int32.ofInt 8).toUInt32 &&& Int32.toUInt32 31)).toInt32.toInt))).toUInt32 >>> ((Int32.ofInt 16).toUInt32 &&& Int32.toUInt32 31)).toInt32.toInt)) &&& Int32.ofInt 63).toInt
theorem bcE_64 : ∀ a : Nat, a < 64 → ∀ b : Nat, b < 64 → bcE ((64 * a + b : Nat) : Int) = (pcn (64 * a + b) : Int) := by decide +kernel
theorem bcE_eq (n : Nat) (h : n < 4096) : bcE (n : Int) = (pcn n : Int) := by
  have e := bcE_64 (n / 64) (by omega) (n % 64) (by omega)
  rw [show 64 * (n / 64) + n % 64 = n by omega] at e
  exact e
theorem s_J6_bitCount_0f7a4 {mr : aR} (hR : Rok mr) {mi : aM} {x : Int} (h_x : 0 ≤ x ∧ x < 4096) : SPg yJ6_bitCount_0f7a4 cJ6_bitCount_0f7a4 1 (some .int) 1 [iI x] mi mr (Pp mi mr (fun r => r = (pcn x.toNat : Int))) := by
  refine SPg.pure rfl (by decide +kernel) (Nat.le_of_ble_eq_true rfl) ?_
  show AWm RJ6 cJ6_bitCount_0f7a4 1 1 _ 0 [(0, iI x)] [] mi mr
  refine aw_iload_n (i := 0) (q := 0) dJ6_bitCount_0f7a4_0 rfl rfl ?_
  refine aw_iload_n (i := 0) (q := 0) dJ6_bitCount_0f7a4_1 rfl rfl ?_
  refine aw_iconst dJ6_bitCount_0f7a4_2 ?_
  refine aw_iushr (z := ((Int32.ofInt x).toUInt32 >>> ((Int32.ofInt 1).toUInt32 &&& Int32.toUInt32 31)).toInt32.toInt) dJ6_bitCount_0f7a4_3 (Int32.ofInt_toInt _).symm ?_
  refine aw_ldcw (x := 1431655765) coJ6_265 rfl dJ6_bitCount_0f7a4_4 ?_
  refine aw_iand (z := (Int32.ofInt (((Int32.ofInt x).toUInt32 >>> ((Int32.ofInt 1).toUInt32 &&& Int32.toUInt32 31)).toInt32.toInt) &&& Int32.ofInt 1431655765).toInt) dJ6_bitCount_0f7a4_7 (Int32.ofInt_toInt _).symm ?_
  refine aw_isub dJ6_bitCount_0f7a4_8 ?_
  refine aw_istore_n (i := 0) (lv' := [(0, iI (x - ((Int32.ofInt (((Int32.ofInt x).toUInt32 >>> ((Int32.ofInt 1).toUInt32 &&& Int32.toUInt32 31)).toInt32.toInt) &&& Int32.ofInt 1431655765).toInt)))]) [0] dJ6_bitCount_0f7a4_9 rfl (by decide) rfl ?_
  refine aw_iload_n (i := 0) (q := 0) dJ6_bitCount_0f7a4_10 rfl rfl ?_
  refine aw_ldcw (x := 858993459) coJ6_266 rfl dJ6_bitCount_0f7a4_11 ?_
  refine aw_iand (z := (Int32.ofInt (x - ((Int32.ofInt (((Int32.ofInt x).toUInt32 >>> ((Int32.ofInt 1).toUInt32 &&& Int32.toUInt32 31)).toInt32.toInt) &&& Int32.ofInt 1431655765).toInt)) &&& Int32.ofInt 858993459).toInt) dJ6_bitCount_0f7a4_14 (Int32.ofInt_toInt _).symm ?_
  refine aw_iload_n (i := 0) (q := 0) dJ6_bitCount_0f7a4_15 rfl rfl ?_
  refine aw_iconst dJ6_bitCount_0f7a4_16 ?_
  refine aw_iushr (z := ((Int32.ofInt (x - ((Int32.ofInt (((Int32.ofInt x).toUInt32 >>> ((Int32.ofInt 1).toUInt32 &&& Int32.toUInt32 31)).toInt32.toInt) &&& Int32.ofInt 1431655765).toInt))).toUInt32 >>> ((Int32.ofInt 2).toUInt32 &&& Int32.toUInt32 31)).toInt32.toInt) dJ6_bitCount_0f7a4_17 (Int32.ofInt_toInt _).symm ?_
  refine aw_ldcw (x := 858993459) coJ6_266 rfl dJ6_bitCount_0f7a4_18 ?_
  refine aw_iand (z := (Int32.ofInt (((Int32.ofInt (x - ((Int32.ofInt (((Int32.ofInt x).toUInt32 >>> ((Int32.ofInt 1).toUInt32 &&& Int32.toUInt32 31)).toInt32.toInt) &&& Int32.ofInt 1431655765).toInt))).toUInt32 >>> ((Int32.ofInt 2).toUInt32 &&& Int32.toUInt32 31)).toInt32.toInt) &&& Int32.ofInt 858993459).toInt) dJ6_bitCount_0f7a4_21 (Int32.ofInt_toInt _).symm ?_
  refine aw_iadd dJ6_bitCount_0f7a4_22 ?_
  refine aw_istore_n (i := 0) (lv' := [(0, iI (((Int32.ofInt (x - ((Int32.ofInt (((Int32.ofInt x).toUInt32 >>> ((Int32.ofInt 1).toUInt32 &&& Int32.toUInt32 31)).toInt32.toInt) &&& Int32.ofInt 1431655765).toInt)) &&& Int32.ofInt 858993459).toInt) + ((Int32.ofInt (((Int32.ofInt (x - ((Int32.ofInt (((Int32.ofInt x).toUInt32 >>> ((Int32.ofInt 1).toUInt32 &&& Int32.toUInt32 31)).toInt32.toInt) &&& Int32.ofInt 1431655765).toInt))).toUInt32 >>> ((Int32.ofInt 2).toUInt32 &&& Int32.toUInt32 31)).toInt32.toInt) &&& Int32.ofInt 858993459).toInt)))]) [0] dJ6_bitCount_0f7a4_23 rfl (by decide) rfl ?_
  refine aw_iload_n (i := 0) (q := 0) dJ6_bitCount_0f7a4_24 rfl rfl ?_
  refine aw_iload_n (i := 0) (q := 0) dJ6_bitCount_0f7a4_25 rfl rfl ?_
  refine aw_iconst dJ6_bitCount_0f7a4_26 ?_
  refine aw_iushr (z := ((Int32.ofInt (((Int32.ofInt (x - ((Int32.ofInt (((Int32.ofInt x).toUInt32 >>> ((Int32.ofInt 1).toUInt32 &&& Int32.toUInt32 31)).toInt32.toInt) &&& Int32.ofInt 1431655765).toInt)) &&& Int32.ofInt 858993459).toInt) + ((Int32.ofInt (((Int32.ofInt (x - ((Int32.ofInt (((Int32.ofInt x).toUInt32 >>> ((Int32.ofInt 1).toUInt32 &&& Int32.toUInt32 31)).toInt32.toInt) &&& Int32.ofInt 1431655765).toInt))).toUInt32 >>> ((Int32.ofInt 2).toUInt32 &&& Int32.toUInt32 31)).toInt32.toInt) &&& Int32.ofInt 858993459).toInt))).toUInt32 >>> ((Int32.ofInt 4).toUInt32 &&& Int32.toUInt32 31)).toInt32.toInt) dJ6_bitCount_0f7a4_27 (Int32.ofInt_toInt _).symm ?_
  refine aw_iadd dJ6_bitCount_0f7a4_28 ?_
  refine aw_ldcw (x := 252645135) coJ6_267 rfl dJ6_bitCount_0f7a4_29 ?_
  refine aw_iand (z := (Int32.ofInt ((((Int32.ofInt (x - ((Int32.ofInt (((Int32.ofInt x).toUInt32 >>> ((Int32.ofInt 1).toUInt32 &&& Int32.toUInt32 31)).toInt32.toInt) &&& Int32.ofInt 1431655765).toInt)) &&& Int32.ofInt 858993459).toInt) + ((Int32.ofInt (((Int32.ofInt (x - ((Int32.ofInt (((Int32.ofInt x).toUInt32 >>> ((Int32.ofInt 1).toUInt32 &&& Int32.toUInt32 31)).toInt32.toInt) &&& Int32.ofInt 1431655765).toInt))).toUInt32 >>> ((Int32.ofInt 2).toUInt32 &&& Int32.toUInt32 31)).toInt32.toInt) &&& Int32.ofInt 858993459).toInt)) + (((Int32.ofInt (((Int32.ofInt (x - ((Int32.ofInt (((Int32.ofInt x).toUInt32 >>> ((Int32.ofInt 1).toUInt32 &&& Int32.toUInt32 31)).toInt32.toInt) &&& Int32.ofInt 1431655765).toInt)) &&& Int32.ofInt 858993459).toInt) + ((Int32.ofInt (((Int32.ofInt (x - ((Int32.ofInt (((Int32.ofInt x).toUInt32 >>> ((Int32.ofInt 1).toUInt32 &&& Int32.toUInt32 31)).toInt32.toInt) &&& Int32.ofInt 1431655765).toInt))).toUInt32 >>> ((Int32.ofInt 2).toUInt32 &&& Int32.toUInt32 31)).toInt32.toInt) &&& Int32.ofInt 858993459).toInt))).toUInt32 >>> ((Int32.ofInt 4).toUInt32 &&& Int32.toUInt32 31)).toInt32.toInt)) &&& Int32.ofInt 252645135).toInt) dJ6_bitCount_0f7a4_32 (Int32.ofInt_toInt _).symm ?_
  refine aw_istore_n (i := 0) (lv' := [(0, iI ((Int32.ofInt ((((Int32.ofInt (x - ((Int32.ofInt (((Int32.ofInt x).toUInt32 >>> ((Int32.ofInt 1).toUInt32 &&& Int32.toUInt32 31)).toInt32.toInt) &&& Int32.ofInt 1431655765).toInt)) &&& Int32.ofInt 858993459).toInt) + ((Int32.ofInt (((Int32.ofInt (x - ((Int32.ofInt (((Int32.ofInt x).toUInt32 >>> ((Int32.ofInt 1).toUInt32 &&& Int32.toUInt32 31)).toInt32.toInt) &&& Int32.ofInt 1431655765).toInt))).toUInt32 >>> ((Int32.ofInt 2).toUInt32 &&& Int32.toUInt32 31)).toInt32.toInt) &&& Int32.ofInt 858993459).toInt)) + (((Int32.ofInt (((Int32.ofInt (x - ((Int32.ofInt (((Int32.ofInt x).toUInt32 >>> ((Int32.ofInt 1).toUInt32 &&& Int32.toUInt32 31)).toInt32.toInt) &&& Int32.ofInt 1431655765).toInt)) &&& Int32.ofInt 858993459).toInt) + ((Int32.ofInt (((Int32.ofInt (x - ((Int32.ofInt (((Int32.ofInt x).toUInt32 >>> ((Int32.ofInt 1).toUInt32 &&& Int32.toUInt32 31)).toInt32.toInt) &&& Int32.ofInt 1431655765).toInt))).toUInt32 >>> ((Int32.ofInt 2).toUInt32 &&& Int32.toUInt32 31)).toInt32.toInt) &&& Int32.ofInt 858993459).toInt))).toUInt32 >>> ((Int32.ofInt 4).toUInt32 &&& Int32.toUInt32 31)).toInt32.toInt)) &&& Int32.ofInt 252645135).toInt))]) [0] dJ6_bitCount_0f7a4_33 rfl (by decide) rfl ?_
  refine aw_iload_n (i := 0) (q := 0) dJ6_bitCount_0f7a4_34 rfl rfl ?_
  refine aw_iload_n (i := 0) (q := 0) dJ6_bitCount_0f7a4_35 rfl rfl ?_
  refine aw_bipush (x := 8) dJ6_bitCount_0f7a4_36 rfl ?_
  refine aw_iushr (z := ((Int32.ofInt ((Int32.ofInt ((((Int32.ofInt (x - ((Int32.ofInt (((Int32.ofInt x).toUInt32 >>> ((Int32.ofInt 1).toUInt32 &&& Int32.toUInt32 31)).toInt32.toInt) &&& Int32.ofInt 1431655765).toInt)) &&& Int32.ofInt 858993459).toInt) + ((Int32.ofInt (((Int32.ofInt (x - ((Int32.ofInt (((Int32.ofInt x).toUInt32 >>> ((Int32.ofInt 1).toUInt32 &&& Int32.toUInt32 31)).toInt32.toInt) &&& Int32.ofInt 1431655765).toInt))).toUInt32 >>> ((Int32.ofInt 2).toUInt32 &&& Int32.toUInt32 31)).toInt32.toInt) &&& Int32.ofInt 858993459).toInt)) + (((Int32.ofInt (((Int32.ofInt (x - ((Int32.ofInt (((Int32.ofInt x).toUInt32 >>> ((Int32.ofInt 1).toUInt32 &&& Int32.toUInt32 31)).toInt32.toInt) &&& Int32.ofInt 1431655765).toInt)) &&& Int32.ofInt 858993459).toInt) + ((Int32.ofInt (((Int32.ofInt (x - ((Int32.ofInt (((Int32.ofInt x).toUInt32 >>> ((Int32.ofInt 1).toUInt32 &&& Int32.toUInt32 31)).toInt32.toInt) &&& Int32.ofInt 1431655765).toInt))).toUInt32 >>> ((Int32.ofInt 2).toUInt32 &&& Int32.toUInt32 31)).toInt32.toInt) &&& Int32.ofInt 858993459).toInt))).toUInt32 >>> ((Int32.ofInt 4).toUInt32 &&& Int32.toUInt32 31)).toInt32.toInt)) &&& Int32.ofInt 252645135).toInt)).toUInt32 >>> ((Int32.ofInt 8).toUInt32 &&& Int32.toUInt32 31)).toInt32.toInt) dJ6_bitCount_0f7a4_38 (Int32.ofInt_toInt _).symm ?_
  refine aw_iadd dJ6_bitCount_0f7a4_39 ?_
  refine aw_istore_n (i := 0) (lv' := [(0, iI (((Int32.ofInt ((((Int32.ofInt (x - ((Int32.ofInt (((Int32.ofInt x).toUInt32 >>> ((Int32.ofInt 1).toUInt32 &&& Int32.toUInt32 31)).toInt32.toInt) &&& Int32.ofInt 1431655765).toInt)) &&& Int32.ofInt 858993459).toInt) + ((Int32.ofInt (((Int32.ofInt (x - ((Int32.ofInt (((Int32.ofInt x).toUInt32 >>> ((Int32.ofInt 1).toUInt32 &&& Int32.toUInt32 31)).toInt32.toInt) &&& Int32.ofInt 1431655765).toInt))).toUInt32 >>> ((Int32.ofInt 2).toUInt32 &&& Int32.toUInt32 31)).toInt32.toInt) &&& Int32.ofInt 858993459).toInt)) + (((Int32.ofInt (((Int32.ofInt (x - ((Int32.ofInt (((Int32.ofInt x).toUInt32 >>> ((Int32.ofInt 1).toUInt32 &&& Int32.toUInt32 31)).toInt32.toInt) &&& Int32.ofInt 1431655765).toInt)) &&& Int32.ofInt 858993459).toInt) + ((Int32.ofInt (((Int32.ofInt (x - ((Int32.ofInt (((Int32.ofInt x).toUInt32 >>> ((Int32.ofInt 1).toUInt32 &&& Int32.toUInt32 31)).toInt32.toInt) &&& Int32.ofInt 1431655765).toInt))).toUInt32 >>> ((Int32.ofInt 2).toUInt32 &&& Int32.toUInt32 31)).toInt32.toInt) &&& Int32.ofInt 858993459).toInt))).toUInt32 >>> ((Int32.ofInt 4).toUInt32 &&& Int32.toUInt32 31)).toInt32.toInt)) &&& Int32.ofInt 252645135).toInt) + (((Int32.ofInt ((Int32.ofInt ((((Int32.ofInt (x - ((Int32.ofInt (((Int32.ofInt x).toUInt32 >>> ((Int32.ofInt 1).toUInt32 &&& Int32.toUInt32 31)).toInt32.toInt) &&& Int32.ofInt 1431655765).toInt)) &&& Int32.ofInt 858993459).toInt) + ((Int32.ofInt (((Int32.ofInt (x - ((Int32.ofInt (((Int32.ofInt x).toUInt32 >>> ((Int32.ofInt 1).toUInt32 &&& Int32.toUInt32 31)).toInt32.toInt) &&& Int32.ofInt 1431655765).toInt))).toUInt32 >>> ((Int32.ofInt 2).toUInt32 &&& Int32.toUInt32 31)).toInt32.toInt) &&& Int32.ofInt 858993459).toInt)) + (((Int32.ofInt (((Int32.ofInt (x - ((Int32.ofInt (((Int32.ofInt x).toUInt32 >>> ((Int32.ofInt 1).toUInt32 &&& Int32.toUInt32 31)).toInt32.toInt) &&& Int32.ofInt 1431655765).toInt)) &&& Int32.ofInt 858993459).toInt) + ((Int32.ofInt (((Int32.ofInt (x - ((Int32.ofInt (((Int32.ofInt x).toUInt32 >>> ((Int32.ofInt 1).toUInt32 &&& Int32.toUInt32 31)).toInt32.toInt) &&& Int32.ofInt 1431655765).toInt))).toUInt32 >>> ((Int32.ofInt 2).toUInt32 &&& Int32.toUInt32 31)).toInt32.toInt) &&& Int32.ofInt 858993459).toInt))).toUInt32 >>> ((Int32.ofInt 4).toUInt32 &&& Int32.toUInt32 31)).toInt32.toInt)) &&& Int32.ofInt 252645135).toInt)).toUInt32 >>> ((Int32.ofInt 8).toUInt32 &&& Int32.toUInt32 31)).toInt32.toInt)))]) [0] dJ6_bitCount_0f7a4_40 rfl (by decide) rfl ?_
  refine aw_iload_n (i := 0) (q := 0) dJ6_bitCount_0f7a4_41 rfl rfl ?_
  refine aw_iload_n (i := 0) (q := 0) dJ6_bitCount_0f7a4_42 rfl rfl ?_
  refine aw_bipush (x := 16) dJ6_bitCount_0f7a4_43 rfl ?_
  refine aw_iushr (z := ((Int32.ofInt (((Int32.ofInt ((((Int32.ofInt (x - ((Int32.ofInt (((Int32.ofInt x).toUInt32 >>> ((Int32.ofInt 1).toUInt32 &&& Int32.toUInt32 31)).toInt32.toInt) &&& Int32.ofInt 1431655765).toInt)) &&& Int32.ofInt 858993459).toInt) + ((Int32.ofInt (((Int32.ofInt (x - ((Int32.ofInt (((Int32.ofInt x).toUInt32 >>> ((Int32.ofInt 1).toUInt32 &&& Int32.toUInt32 31)).toInt32.toInt) &&& Int32.ofInt 1431655765).toInt))).toUInt32 >>> ((Int32.ofInt 2).toUInt32 &&& Int32.toUInt32 31)).toInt32.toInt) &&& Int32.ofInt 858993459).toInt)) + (((Int32.ofInt (((Int32.ofInt (x - ((Int32.ofInt (((Int32.ofInt x).toUInt32 >>> ((Int32.ofInt 1).toUInt32 &&& Int32.toUInt32 31)).toInt32.toInt) &&& Int32.ofInt 1431655765).toInt)) &&& Int32.ofInt 858993459).toInt) + ((Int32.ofInt (((Int32.ofInt (x - ((Int32.ofInt (((Int32.ofInt x).toUInt32 >>> ((Int32.ofInt 1).toUInt32 &&& Int32.toUInt32 31)).toInt32.toInt) &&& Int32.ofInt 1431655765).toInt))).toUInt32 >>> ((Int32.ofInt 2).toUInt32 &&& Int32.toUInt32 31)).toInt32.toInt) &&& Int32.ofInt 858993459).toInt))).toUInt32 >>> ((Int32.ofInt 4).toUInt32 &&& Int32.toUInt32 31)).toInt32.toInt)) &&& Int32.ofInt 252645135).toInt) + (((Int32.ofInt ((Int32.ofInt ((((Int32.ofInt (x - ((Int32.ofInt (((Int32.ofInt x).toUInt32 >>> ((Int32.ofInt 1).toUInt32 &&& Int32.toUInt32 31)).toInt32.toInt) &&& Int32.ofInt 1431655765).toInt)) &&& Int32.ofInt 858993459).toInt) + ((Int32.ofInt (((Int32.ofInt (x - ((Int32.ofInt (((Int32.ofInt x).toUInt32 >>> ((Int32.ofInt 1).toUInt32 &&& Int32.toUInt32 31)).toInt32.toInt) &&& Int32.ofInt 1431655765).toInt))).toUInt32 >>> ((Int32.ofInt 2).toUInt32 &&& Int32.toUInt32 31)).toInt32.toInt) &&& Int32.ofInt 858993459).toInt)) + (((Int32.ofInt (((Int32.ofInt (x - ((Int32.ofInt (((Int32.ofInt x).toUInt32 >>> ((Int32.ofInt 1).toUInt32 &&& Int32.toUInt32 31)).toInt32.toInt) &&& Int32.ofInt 1431655765).toInt)) &&& Int32.ofInt 858993459).toInt) + ((Int32.ofInt (((Int32.ofInt (x - ((Int32.ofInt (((Int32.ofInt x).toUInt32 >>> ((Int32.ofInt 1).toUInt32 &&& Int32.toUInt32 31)).toInt32.toInt) &&& Int32.ofInt 1431655765).toInt))).toUInt32 >>> ((Int32.ofInt 2).toUInt32 &&& Int32.toUInt32 31)).toInt32.toInt) &&& Int32.ofInt 858993459).toInt))).toUInt32 >>> ((Int32.ofInt 4).toUInt32 &&& Int32.toUInt32 31)).toInt32.toInt)) &&& Int32.ofInt 252645135).toInt)).toUInt32 >>> ((Int32.ofInt 8).toUInt32 &&& Int32.toUInt32 31)).toInt32.toInt))).toUInt32 >>> ((Int32.ofInt 16).toUInt32 &&& Int32.toUInt32 31)).toInt32.toInt) dJ6_bitCount_0f7a4_45 (Int32.ofInt_toInt _).symm ?_
  refine aw_iadd dJ6_bitCount_0f7a4_46 ?_
  refine aw_istore_n (i := 0) (lv' := [(0, iI ((((Int32.ofInt ((((Int32.ofInt (x - ((Int32.ofInt (((Int32.ofInt x).toUInt32 >>> ((Int32.ofInt 1).toUInt32 &&& Int32.toUInt32 31)).toInt32.toInt) &&& Int32.ofInt 1431655765).toInt)) &&& Int32.ofInt 858993459).toInt) + ((Int32.ofInt (((Int32.ofInt (x - ((Int32.ofInt (((Int32.ofInt x).toUInt32 >>> ((Int32.ofInt 1).toUInt32 &&& Int32.toUInt32 31)).toInt32.toInt) &&& Int32.ofInt 1431655765).toInt))).toUInt32 >>> ((Int32.ofInt 2).toUInt32 &&& Int32.toUInt32 31)).toInt32.toInt) &&& Int32.ofInt 858993459).toInt)) + (((Int32.ofInt (((Int32.ofInt (x - ((Int32.ofInt (((Int32.ofInt x).toUInt32 >>> ((Int32.ofInt 1).toUInt32 &&& Int32.toUInt32 31)).toInt32.toInt) &&& Int32.ofInt 1431655765).toInt)) &&& Int32.ofInt 858993459).toInt) + ((Int32.ofInt (((Int32.ofInt (x - ((Int32.ofInt (((Int32.ofInt x).toUInt32 >>> ((Int32.ofInt 1).toUInt32 &&& Int32.toUInt32 31)).toInt32.toInt) &&& Int32.ofInt 1431655765).toInt))).toUInt32 >>> ((Int32.ofInt 2).toUInt32 &&& Int32.toUInt32 31)).toInt32.toInt) &&& Int32.ofInt 858993459).toInt))).toUInt32 >>> ((Int32.ofInt 4).toUInt32 &&& Int32.toUInt32 31)).toInt32.toInt)) &&& Int32.ofInt 252645135).toInt) + (((Int32.ofInt ((Int32.ofInt ((((Int32.ofInt (x - ((Int32.ofInt (((Int32.ofInt x).toUInt32 >>> ((Int32.ofInt 1).toUInt32 &&& Int32.toUInt32 31)).toInt32.toInt) &&& Int32.ofInt 1431655765).toInt)) &&& Int32.ofInt 858993459).toInt) + ((Int32.ofInt (((Int32.ofInt (x - ((Int32.ofInt (((Int32.ofInt x).toUInt32 >>> ((Int32.ofInt 1).toUInt32 &&& Int32.toUInt32 31)).toInt32.toInt) &&& Int32.ofInt 1431655765).toInt))).toUInt32 >>> ((Int32.ofInt 2).toUInt32 &&& Int32.toUInt32 31)).toInt32.toInt) &&& Int32.ofInt 858993459).toInt)) + (((Int32.ofInt (((Int32.ofInt (x - ((Int32.ofInt (((Int32.ofInt x).toUInt32 >>> ((Int32.ofInt 1).toUInt32 &&& Int32.toUInt32 31)).toInt32.toInt) &&& Int32.ofInt 1431655765).toInt)) &&& Int32.ofInt 858993459).toInt) + ((Int32.ofInt (((Int32.ofInt (x - ((Int32.ofInt (((Int32.ofInt x).toUInt32 >>> ((Int32.ofInt 1).toUInt32 &&& Int32.toUInt32 31)).toInt32.toInt) &&& Int32.ofInt 1431655765).toInt))).toUInt32 >>> ((Int32.ofInt 2).toUInt32 &&& Int32.toUInt32 31)).toInt32.toInt) &&& Int32.ofInt 858993459).toInt))).toUInt32 >>> ((Int32.ofInt 4).toUInt32 &&& Int32.toUInt32 31)).toInt32.toInt)) &&& Int32.ofInt 252645135).toInt)).toUInt32 >>> ((Int32.ofInt 8).toUInt32 &&& Int32.toUInt32 31)).toInt32.toInt)) + (((Int32.ofInt (((Int32.ofInt ((((Int32.ofInt (x - ((Int32.ofInt (((Int32.ofInt x).toUInt32 >>> ((Int32.ofInt 1).toUInt32 &&& Int32.toUInt32 31)).toInt32.toInt) &&& Int32.ofInt 1431655765).toInt)) &&& Int32.ofInt 858993459).toInt) + ((Int32.ofInt (((Int32.ofInt (x - ((Int32.ofInt (((Int32.ofInt x).toUInt32 >>> ((Int32.ofInt 1).toUInt32 &&& Int32.toUInt32 31)).toInt32.toInt) &&& Int32.ofInt 1431655765).toInt))).toUInt32 >>> ((Int32.ofInt 2).toUInt32 &&& Int32.toUInt32 31)).toInt32.toInt) &&& Int32.ofInt 858993459).toInt)) + (((Int32.ofInt (((Int32.ofInt (x - ((Int32.ofInt (((Int32.ofInt x).toUInt32 >>> ((Int32.ofInt 1).toUInt32 &&& Int32.toUInt32 31)).toInt32.toInt) &&& Int32.ofInt 1431655765).toInt)) &&& Int32.ofInt 858993459).toInt) + ((Int32.ofInt (((Int32.ofInt (x - ((Int32.ofInt (((Int32.ofInt x).toUInt32 >>> ((Int32.ofInt 1).toUInt32 &&& Int32.toUInt32 31)).toInt32.toInt) &&& Int32.ofInt 1431655765).toInt))).toUInt32 >>> ((Int32.ofInt 2).toUInt32 &&& Int32.toUInt32 31)).toInt32.toInt) &&& Int32.ofInt 858993459).toInt))).toUInt32 >>> ((Int32.ofInt 4).toUInt32 &&& Int32.toUInt32 31)).toInt32.toInt)) &&& Int32.ofInt 252645135).toInt) + (((Int32.ofInt ((Int32.ofInt ((((Int32.ofInt (x - ((Int32.ofInt (((Int32.ofInt x).toUInt32 >>> ((Int32.ofInt 1).toUInt32 &&& Int32.toUInt32 31)).toInt32.toInt) &&& Int32.ofInt 1431655765).toInt)) &&& Int32.ofInt 858993459).toInt) + ((Int32.ofInt (((Int32.ofInt (x - ((Int32.ofInt (((Int32.ofInt x).toUInt32 >>> ((Int32.ofInt 1).toUInt32 &&& Int32.toUInt32 31)).toInt32.toInt) &&& Int32.ofInt 1431655765).toInt))).toUInt32 >>> ((Int32.ofInt 2).toUInt32 &&& Int32.toUInt32 31)).toInt32.toInt) &&& Int32.ofInt 858993459).toInt)) + (((Int32.ofInt (((Int32.ofInt (x - ((Int32.ofInt (((Int32.ofInt x).toUInt32 >>> ((Int32.ofInt 1).toUInt32 &&& Int32.toUInt32 31)).toInt32.toInt) &&& Int32.ofInt 1431655765).toInt)) &&& Int32.ofInt 858993459).toInt) + ((Int32.ofInt (((Int32.ofInt (x - ((Int32.ofInt (((Int32.ofInt x).toUInt32 >>> ((Int32.ofInt 1).toUInt32 &&& Int32.toUInt32 31)).toInt32.toInt) &&& Int32.ofInt 1431655765).toInt))).toUInt32 >>> ((Int32.ofInt 2).toUInt32 &&& Int32.toUInt32 31)).toInt32.toInt) &&& Int32.ofInt 858993459).toInt))).toUInt32 >>> ((Int32.ofInt 4).toUInt32 &&& Int32.toUInt32 31)).toInt32.toInt)) &&& Int32.ofInt 252645135).toInt)).toUInt32 >>> ((Int32.ofInt 8).toUInt32 &&& Int32.toUInt32 31)).toInt32.toInt))).toUInt32 >>> ((Int32.ofInt 16).toUInt32 &&& Int32.toUInt32 31)).toInt32.toInt)))]) [0] dJ6_bitCount_0f7a4_47 rfl (by decide) rfl ?_
  refine aw_iload_n (i := 0) (q := 0) dJ6_bitCount_0f7a4_48 rfl rfl ?_
  refine aw_bipush (x := 63) dJ6_bitCount_0f7a4_49 rfl ?_
  refine aw_iand (z := (Int32.ofInt ((((Int32.ofInt ((((Int32.ofInt (x - ((Int32.ofInt (((Int32.ofInt x).toUInt32 >>> ((Int32.ofInt 1).toUInt32 &&& Int32.toUInt32 31)).toInt32.toInt) &&& Int32.ofInt 1431655765).toInt)) &&& Int32.ofInt 858993459).toInt) + ((Int32.ofInt (((Int32.ofInt (x - ((Int32.ofInt (((Int32.ofInt x).toUInt32 >>> ((Int32.ofInt 1).toUInt32 &&& Int32.toUInt32 31)).toInt32.toInt) &&& Int32.ofInt 1431655765).toInt))).toUInt32 >>> ((Int32.ofInt 2).toUInt32 &&& Int32.toUInt32 31)).toInt32.toInt) &&& Int32.ofInt 858993459).toInt)) + (((Int32.ofInt (((Int32.ofInt (x - ((Int32.ofInt (((Int32.ofInt x).toUInt32 >>> ((Int32.ofInt 1).toUInt32 &&& Int32.toUInt32 31)).toInt32.toInt) &&& Int32.ofInt 1431655765).toInt)) &&& Int32.ofInt 858993459).toInt) + ((Int32.ofInt (((Int32.ofInt (x - ((Int32.ofInt (((Int32.ofInt x).toUInt32 >>> ((Int32.ofInt 1).toUInt32 &&& Int32.toUInt32 31)).toInt32.toInt) &&& Int32.ofInt 1431655765).toInt))).toUInt32 >>> ((Int32.ofInt 2).toUInt32 &&& Int32.toUInt32 31)).toInt32.toInt) &&& Int32.ofInt 858993459).toInt))).toUInt32 >>> ((Int32.ofInt 4).toUInt32 &&& Int32.toUInt32 31)).toInt32.toInt)) &&& Int32.ofInt 252645135).toInt) + (((Int32.ofInt ((Int32.ofInt ((((Int32.ofInt (x - ((Int32.ofInt (((Int32.ofInt x).toUInt32 >>> ((Int32.ofInt 1).toUInt32 &&& Int32.toUInt32 31)).toInt32.toInt) &&& Int32.ofInt 1431655765).toInt)) &&& Int32.ofInt 858993459).toInt) + ((Int32.ofInt (((Int32.ofInt (x - ((Int32.ofInt (((Int32.ofInt x).toUInt32 >>> ((Int32.ofInt 1).toUInt32 &&& Int32.toUInt32 31)).toInt32.toInt) &&& Int32.ofInt 1431655765).toInt))).toUInt32 >>> ((Int32.ofInt 2).toUInt32 &&& Int32.toUInt32 31)).toInt32.toInt) &&& Int32.ofInt 858993459).toInt)) + (((Int32.ofInt (((Int32.ofInt (x - ((Int32.ofInt (((Int32.ofInt x).toUInt32 >>> ((Int32.ofInt 1).toUInt32 &&& Int32.toUInt32 31)).toInt32.toInt) &&& Int32.ofInt 1431655765).toInt)) &&& Int32.ofInt 858993459).toInt) + ((Int32.ofInt (((Int32.ofInt (x - ((Int32.ofInt (((Int32.ofInt x).toUInt32 >>> ((Int32.ofInt 1).toUInt32 &&& Int32.toUInt32 31)).toInt32.toInt) &&& Int32.ofInt 1431655765).toInt))).toUInt32 >>> ((Int32.ofInt 2).toUInt32 &&& Int32.toUInt32 31)).toInt32.toInt) &&& Int32.ofInt 858993459).toInt))).toUInt32 >>> ((Int32.ofInt 4).toUInt32 &&& Int32.toUInt32 31)).toInt32.toInt)) &&& Int32.ofInt 252645135).toInt)).toUInt32 >>> ((Int32.ofInt 8).toUInt32 &&& Int32.toUInt32 31)).toInt32.toInt)) + (((Int32.ofInt (((Int32.ofInt ((((Int32.ofInt (x - ((Int32.ofInt (((Int32.ofInt x).toUInt32 >>> ((Int32.ofInt 1).toUInt32 &&& Int32.toUInt32 31)).toInt32.toInt) &&& Int32.ofInt 1431655765).toInt)) &&& Int32.ofInt 858993459).toInt) + ((Int32.ofInt (((Int32.ofInt (x - ((Int32.ofInt (((Int32.ofInt x).toUInt32 >>> ((Int32.ofInt 1).toUInt32 &&& Int32.toUInt32 31)).toInt32.toInt) &&& Int32.ofInt 1431655765).toInt))).toUInt32 >>> ((Int32.ofInt 2).toUInt32 &&& Int32.toUInt32 31)).toInt32.toInt) &&& Int32.ofInt 858993459).toInt)) + (((Int32.ofInt (((Int32.ofInt (x - ((Int32.ofInt (((Int32.ofInt x).toUInt32 >>> ((Int32.ofInt 1).toUInt32 &&& Int32.toUInt32 31)).toInt32.toInt) &&& Int32.ofInt 1431655765).toInt)) &&& Int32.ofInt 858993459).toInt) + ((Int32.ofInt (((Int32.ofInt (x - ((Int32.ofInt (((Int32.ofInt x).toUInt32 >>> ((Int32.ofInt 1).toUInt32 &&& Int32.toUInt32 31)).toInt32.toInt) &&& Int32.ofInt 1431655765).toInt))).toUInt32 >>> ((Int32.ofInt 2).toUInt32 &&& Int32.toUInt32 31)).toInt32.toInt) &&& Int32.ofInt 858993459).toInt))).toUInt32 >>> ((Int32.ofInt 4).toUInt32 &&& Int32.toUInt32 31)).toInt32.toInt)) &&& Int32.ofInt 252645135).toInt) + (((Int32.ofInt ((Int32.ofInt ((((Int32.ofInt (x - ((Int32.ofInt (((Int32.ofInt x).toUInt32 >>> ((Int32.ofInt 1).toUInt32 &&& Int32.toUInt32 31)).toInt32.toInt) &&& Int32.ofInt 1431655765).toInt)) &&& Int32.ofInt 858993459).toInt) + ((Int32.ofInt (((Int32.ofInt (x - ((Int32.ofInt (((Int32.ofInt x).toUInt32 >>> ((Int32.ofInt 1).toUInt32 &&& Int32.toUInt32 31)).toInt32.toInt) &&& Int32.ofInt 1431655765).toInt))).toUInt32 >>> ((Int32.ofInt 2).toUInt32 &&& Int32.toUInt32 31)).toInt32.toInt) &&& Int32.ofInt 858993459).toInt)) + (((Int32.ofInt (((Int32.ofInt (x - ((Int32.ofInt (((Int32.ofInt x).toUInt32 >>> ((Int32.ofInt 1).toUInt32 &&& Int32.toUInt32 31)).toInt32.toInt) &&& Int32.ofInt 1431655765).toInt)) &&& Int32.ofInt 858993459).toInt) + ((Int32.ofInt (((Int32.ofInt (x - ((Int32.ofInt (((Int32.ofInt x).toUInt32 >>> ((Int32.ofInt 1).toUInt32 &&& Int32.toUInt32 31)).toInt32.toInt) &&& Int32.ofInt 1431655765).toInt))).toUInt32 >>> ((Int32.ofInt 2).toUInt32 &&& Int32.toUInt32 31)).toInt32.toInt) &&& Int32.ofInt 858993459).toInt))).toUInt32 >>> ((Int32.ofInt 4).toUInt32 &&& Int32.toUInt32 31)).toInt32.toInt)) &&& Int32.ofInt 252645135).toInt)).toUInt32 >>> ((Int32.ofInt 8).toUInt32 &&& Int32.toUInt32 31)).toInt32.toInt))).toUInt32 >>> ((Int32.ofInt 16).toUInt32 &&& Int32.toUInt32 31)).toInt32.toInt)) &&& Int32.ofInt 63).toInt) dJ6_bitCount_0f7a4_51 (Int32.ofInt_toInt _).symm ?_
  exact aw_iret ⟨_, rfl, rfl, rfl, rfl, (by have h := bcE_eq x.toNat (by omega); rw [Int.toNat_of_nonneg h_x.1] at h; exact h)⟩ (Nat.le_refl _) (Nat.le_refl _) dJ6_bitCount_0f7a4_52
/-- the amplitude behind a turn -/
def trn (amp motor aim : Int) : Int :=
  let v := amp - (amp * 30).tdiv 1000 - 2
  let v := if v < 0 then 0 else v
  if motor = 0 ∨ aim ≤ v then v else if aim < v + 80 then aim else v + 80
theorem trn_rng {amp motor aim : Int} (h : 0 ≤ amp ∧ amp ≤ 1000) (ha : 0 ≤ aim ∧ aim ≤ 1000) : 0 ≤ trn amp motor aim ∧ trn amp motor aim ≤ 1000 := by
  have e : (amp * 30).tdiv 1000 = amp * 30 / 1000 := Int.tdiv_eq_ediv_of_nonneg (by omega)
  unfold trn
  dsimp only
  rw [e]
  split <;> split <;> (try split) <;> omega
def frc (side weight amp half u : Int) : Int := (side * weight * amp * (half - 2 * u)).tdiv (100 * half)
theorem mul_rng {x y A B : Int} (hx : -A ≤ x ∧ x ≤ A) (hy : -B ≤ y ∧ y ≤ B) (hA : 0 ≤ A) (hB : 0 ≤ B) : -(A * B) ≤ x * y ∧ x * y ≤ A * B := by
  have h1 : x.natAbs ≤ A.natAbs := by omega
  have h2 : y.natAbs ≤ B.natAbs := by omega
  have h3 : (x * y).natAbs ≤ (A * B).natAbs := by rw [Int.natAbs_mul, Int.natAbs_mul]; exact Nat.mul_le_mul h1 h2
  have h4 : 0 ≤ A * B := Int.mul_nonneg hA hB
  omega
theorem frc_num {side weight amp half u : Int} (hs : side = 1 ∨ side = -1) (hw : 0 ≤ weight ∧ weight ≤ 99) (ha : 0 ≤ amp ∧ amp ≤ 1000) (hh : 0 ≤ half ∧ half ≤ 60) (hu : 0 ≤ u ∧ u ≤ half) :
    (-99 ≤ side * weight ∧ side * weight ≤ 99) ∧ (-99000 ≤ side * weight * amp ∧ side * weight * amp ≤ 99000) ∧ (-5940000 ≤ side * weight * amp * (half - 2 * u) ∧ side * weight * amp * (half - 2 * u) ≤ 5940000) := by
  have h1 : -99 ≤ side * weight ∧ side * weight ≤ 99 := by rcases hs with rfl | rfl <;> omega
  have h2 := mul_rng (A := 99) (B := 1000) h1 (y := amp) (by omega) (by omega) (by omega)
  have h3 := mul_rng (A := 99000) (B := 60) (x := side * weight * amp) (by omega) (y := half - 2 * u) (by omega) (by omega) (by omega)
  omega
theorem frc_rng {side weight amp half u : Int} (hs : side = 1 ∨ side = -1) (hw : 0 ≤ weight ∧ weight ≤ 99) (ha : 0 ≤ amp ∧ amp ≤ 1000) (hh : 10 ≤ half ∧ half ≤ 60) (hu : 0 ≤ u ∧ u ≤ half) : -1000 ≤ frc side weight amp half u ∧ frc side weight amp half u ≤ 1000 := by
  have h1 := frc_num hs hw ha (half := half) (u := u) (by omega) hu
  have h2 := mul_rng (A := 99000) (B := half) (x := side * weight * amp) (by omega) (y := half - 2 * u) (by omega) (by omega) (by omega)
  have h4 : 99000 * half ≤ 1000 * (100 * half) := by omega
  have e : (frc side weight amp half u).natAbs = (side * weight * amp * (half - 2 * u)).natAbs / (100 * half).natAbs := by unfold frc; exact Int.natAbs_tdiv _ _
  have h5 : (side * weight * amp * (half - 2 * u)).natAbs ≤ 1000 * (100 * half).natAbs := by omega
  have h6 : (side * weight * amp * (half - 2 * u)).natAbs / (100 * half).natAbs ≤ 1000 := Nat.div_le_of_le_mul (by rw [Nat.mul_comm]; exact h5)
  omega
/-- what holds of the numbers of a bell -/
def bOk (mi : aM) (a : Nat) : Prop := (1 ≤ mi a 0 ∧ mi a 0 ≤ 50) ∧ (0 ≤ mi a 1 ∧ mi a 1 ≤ 100) ∧ (1 ≤ mi a 2 ∧ mi a 2 ≤ 99) ∧ (10 ≤ mi a 3 ∧ mi a 3 ≤ 60) ∧ (0 ≤ mi a 4 ∧ mi a 4 ≤ 100100) ∧ (mi a 5 = 0 ∨ mi a 5 = 1) ∧ (mi a 6 = 0 ∨ mi a 6 = 1) ∧ (mi a 7 = 0 ∨ mi a 7 = 1) ∧ (0 ≤ mi a 8 ∧ mi a 8 ≤ 1000) ∧ (mi a 9 = 1 ∨ mi a 9 = -1) ∧ (0 ≤ mi a 10 ∧ mi a 10 ≤ 1000) ∧ (0 ≤ mi a 11 ∧ mi a 11 ≤ 200000)
theorem s_X0_turn {mr : aR} (hR : Rok mr) {mi : aM} {a : Nat} (hsa : SH a = (0, 0)) (haa : 0 < a ∧ a ≤ 94) (hb : (1 ≤ mi a 2 ∧ mi a 2 ≤ 99) ∧ (10 ≤ mi a 3 ∧ mi a 3 ≤ 60) ∧ (mi a 6 = 0 ∨ mi a 6 = 1) ∧ (mi a 7 = 0 ∨ mi a 7 = 1) ∧ (0 ≤ mi a 8 ∧ mi a 8 ≤ 1000) ∧ (mi a 9 = 1 ∨ mi a 9 = -1) ∧ (0 ≤ mi a 10 ∧ mi a 10 ≤ 1000) ∧ (0 ≤ mi a 11 ∧ mi a 11 ≤ 200000)) : SPg yX0_turn cX0_turn 1 none 2 [.ref a] mi mr (Pv mr (fun m => m a 8 = trn (mi a 8) (mi a 7) (mi a 10) ∧ m a 9 = -(mi a 9) ∧ m a 11 = mi a 11 + mi a 3 ∧ m a 6 = (if trn (mi a 8) (mi a 7) (mi a 10) = 0 ∧ mi a 7 = 0 then 0 else mi a 6) ∧ ∀ (x : Nat) (j : Int), (x ≠ a ∨ (j ≠ 6 ∧ j ≠ 8 ∧ j ≠ 9 ∧ j ≠ 11)) → m x j = mi x j)) := by
  refine SPg.void rfl (by decide +kernel) (Nat.le_of_ble_eq_true rfl) ?_
  show AWm RX0 cX0_turn 1 2 _ 0 [(0, .ref a)] [] mi mr
  have e9 : (mi a 8 * 30).tdiv 1000 = mi a 8 * 30 / 1000 := Int.tdiv_eq_ediv_of_nonneg (by omega)
  refine aw_aload_n (i := 0) (q := 0) dX0_turn_0 rfl rfl ?_
  refine aw_aload_n (i := 0) (q := 0) dX0_turn_1 rfl rfl ?_
  refine aw_cVp (As := []) (st := [.ref a]) clX0_49 (s_X0_turnTime hR hsa haa) hsa rfl haa rfl rfl (Nat.le_of_ble_eq_true rfl) (by decide) (by decide) (Nat.le_refl _) (Nat.le_refl _) dX0_turn_2 (fun rv hrv => ?_)
  subst hrv
  refine aw_putIk 11 flX0_46 hsa haa rfl rfl rfl (by first | assumption | omega) dX0_turn_5 ?_
  refine aw_aload_n (i := 0) (q := 0) dX0_turn_8 rfl rfl ?_
  refine aw_aload_n (i := 0) (q := 0) dX0_turn_9 rfl rfl ?_
  refine aw_getIk (x := mi a 9) 9 flX0_40 hsa haa rfl rfl (by (rw [aup_k (by decide)]) <;> rfl) dX0_turn_10 (fun r10 => ?_)
  refine aw_ineg dX0_turn_13 ?_
  refine aw_putIk 9 flX0_40 hsa haa rfl rfl rfl (by first | assumption | omega) dX0_turn_14 ?_
  refine aw_aload_n (i := 0) (q := 0) dX0_turn_17 rfl rfl ?_
  refine aw_iconst dX0_turn_18 ?_
  refine aw_aload_n (i := 0) (q := 0) dX0_turn_19 rfl rfl ?_
  refine aw_getIk (x := mi a 8) 8 flX0_37 hsa haa rfl rfl (by (rw [aup_k (by decide), aup_k (by decide)]) <;> rfl) dX0_turn_20 (fun r20 => ?_)
  refine aw_aload_n (i := 0) (q := 0) dX0_turn_23 rfl rfl ?_
  refine aw_getIk (x := mi a 8) 8 flX0_37 hsa haa rfl rfl (by (rw [aup_k (by decide), aup_k (by decide)]) <;> rfl) dX0_turn_24 (fun r24 => ?_)
  refine aw_bipush (x := 30) dX0_turn_27 rfl ?_
  refine aw_imul dX0_turn_29 ?_
  refine aw_sipush (x := 1000) dX0_turn_30 rfl ?_
  refine aw_idiv dX0_turn_33 (by first | assumption | omega) (by decide) (by omega) (by omega) ?_
  refine aw_iconst dX0_turn_34 ?_
  refine aw_iadd dX0_turn_35 ?_
  refine aw_isub dX0_turn_36 ?_
  refine aw_mmax (x := 0) (st := [.ref a]) (by omega) (by omega) clX0_53 (Nat.le_of_ble_eq_true rfl) (by decide) (Nat.le_refl _) (Nat.le_refl _) dX0_turn_37 (fun m37 hm37 => ?_)
  refine aw_putIk 8 flX0_37 hsa haa rfl rfl rfl (by first | assumption | omega) dX0_turn_40 ?_
  refine aw_aload_n (i := 0) (q := 0) dX0_turn_43 rfl rfl ?_
  refine aw_getIk (x := mi a 7) 7 flX0_34 hsa haa rfl rfl (by (rw [aup_k (by decide), aup_k (by decide), aup_k (by decide)]) <;> rfl) dX0_turn_44 (fun r44 => ?_)
  refine aw_if_eq (tgt := 79) dX0_turn_47 (by decide) (by first | assumption | omega) (fun c47 => ?_) (fun c47 => ?_)
  · refine aw_aload_n (i := 0) (q := 0) dX0_turn_79 rfl rfl ?_
    refine aw_getIk (x := m37) 8 flX0_37 hsa haa rfl rfl (by (rw [aup_eq]) <;> rfl) dX0_turn_80 (fun r80 => ?_)
    refine aw_if_ne (tgt := 98) dX0_turn_83 (by decide) (by first | assumption | omega) (fun c83 => ?_) (fun c83 => ?_)
    · exact aw_vret ⟨rfl, rfl, rfl, (by
      have e9 : (mi a 8 * 30).tdiv 1000 = mi a 8 * 30 / 1000 := Int.tdiv_eq_ediv_of_nonneg (by omega)
      have f : ∀ (x : Nat) (j : Int), (x ≠ a ∨ (j ≠ 6 ∧ j ≠ 8 ∧ j ≠ 9 ∧ j ≠ 11)) → (aup (aup (aup mi a 11 (mi a 11 + mi a 3)) a 9 (-(mi a 9))) a 8 m37) x j = mi x j := by
        intro x j hx
        unfold aup
        repeat (rw [if_neg (by omega)])
      refine ⟨?_, ?_, ?_, ?_, f⟩
      · simp only [aup, trn, e9] at *; simp; repeat' split
        all_goals omega
      · simp [aup]
      · simp [aup]
      · simp only [aup, trn, e9] at *; simp; repeat' split
        all_goals omega)⟩ (Nat.le_refl _) (Nat.le_refl _) dX0_turn_98
    · refine aw_aload_n (i := 0) (q := 0) dX0_turn_86 rfl rfl ?_
      refine aw_getIk (x := mi a 7) 7 flX0_34 hsa haa rfl rfl (by (rw [aup_k (by decide), aup_k (by decide), aup_k (by decide)]) <;> rfl) dX0_turn_87 (fun r87 => ?_)
      refine aw_if_ne (tgt := 98) dX0_turn_90 (by decide) (by first | assumption | omega) (fun c90 => ?_) (fun c90 => ?_)
      · exact aw_vret ⟨rfl, rfl, rfl, (by
      have e9 : (mi a 8 * 30).tdiv 1000 = mi a 8 * 30 / 1000 := Int.tdiv_eq_ediv_of_nonneg (by omega)
      have f : ∀ (x : Nat) (j : Int), (x ≠ a ∨ (j ≠ 6 ∧ j ≠ 8 ∧ j ≠ 9 ∧ j ≠ 11)) → (aup (aup (aup mi a 11 (mi a 11 + mi a 3)) a 9 (-(mi a 9))) a 8 m37) x j = mi x j := by
        intro x j hx
        unfold aup
        repeat (rw [if_neg (by omega)])
      refine ⟨?_, ?_, ?_, ?_, f⟩
      · simp only [aup, trn, e9] at *; simp; repeat' split
        all_goals omega
      · simp [aup]
      · simp [aup]
      · simp only [aup, trn, e9] at *; simp; repeat' split
        all_goals omega)⟩ (Nat.le_refl _) (Nat.le_refl _) dX0_turn_98
      · refine aw_aload_n (i := 0) (q := 0) dX0_turn_93 rfl rfl ?_
        refine aw_iconst dX0_turn_94 ?_
        refine aw_putZk 6 flX0_31 hsa haa rfl rfl rfl (by decide) dX0_turn_95 ?_
        exact aw_vret ⟨rfl, rfl, rfl, (by
      have e9 : (mi a 8 * 30).tdiv 1000 = mi a 8 * 30 / 1000 := Int.tdiv_eq_ediv_of_nonneg (by omega)
      have f : ∀ (x : Nat) (j : Int), (x ≠ a ∨ (j ≠ 6 ∧ j ≠ 8 ∧ j ≠ 9 ∧ j ≠ 11)) → (aup (aup (aup (aup mi a 11 (mi a 11 + mi a 3)) a 9 (-(mi a 9))) a 8 m37) a 6 0) x j = mi x j := by
        intro x j hx
        unfold aup
        repeat (rw [if_neg (by omega)])
      refine ⟨?_, ?_, ?_, ?_, f⟩
      · simp only [aup, trn, e9] at *; simp; repeat' split
        all_goals omega
      · simp [aup]
      · simp [aup]
      · simp only [aup, trn, e9] at *; simp; repeat' split
        all_goals omega)⟩ (Nat.le_refl _) (Nat.le_refl _) dX0_turn_98
  · refine aw_aload_n (i := 0) (q := 0) dX0_turn_50 rfl rfl ?_
    refine aw_getIk (x := m37) 8 flX0_37 hsa haa rfl rfl (by (rw [aup_eq]) <;> rfl) dX0_turn_51 (fun r51 => ?_)
    refine aw_aload_n (i := 0) (q := 0) dX0_turn_54 rfl rfl ?_
    refine aw_getIk (x := mi a 10) 10 flX0_43 hsa haa rfl rfl (by (rw [aup_k (by decide), aup_k (by decide), aup_k (by decide)]) <;> rfl) dX0_turn_55 (fun r55 => ?_)
    refine aw_icmp_ge (tgt := 79) dX0_turn_58 (by decide) (by first | assumption | omega) (by first | assumption | omega) (fun c58 => ?_) (fun c58 => ?_)
    · refine aw_aload_n (i := 0) (q := 0) dX0_turn_79 rfl rfl ?_
      refine aw_getIk (x := m37) 8 flX0_37 hsa haa rfl rfl (by (rw [aup_eq]) <;> rfl) dX0_turn_80 (fun r80 => ?_)
      refine aw_if_ne (tgt := 98) dX0_turn_83 (by decide) (by first | assumption | omega) (fun c83 => ?_) (fun c83 => ?_)
      · exact aw_vret ⟨rfl, rfl, rfl, (by
      have e9 : (mi a 8 * 30).tdiv 1000 = mi a 8 * 30 / 1000 := Int.tdiv_eq_ediv_of_nonneg (by omega)
      have f : ∀ (x : Nat) (j : Int), (x ≠ a ∨ (j ≠ 6 ∧ j ≠ 8 ∧ j ≠ 9 ∧ j ≠ 11)) → (aup (aup (aup mi a 11 (mi a 11 + mi a 3)) a 9 (-(mi a 9))) a 8 m37) x j = mi x j := by
        intro x j hx
        unfold aup
        repeat (rw [if_neg (by omega)])
      refine ⟨?_, ?_, ?_, ?_, f⟩
      · simp only [aup, trn, e9] at *; simp; repeat' split
        all_goals omega
      · simp [aup]
      · simp [aup]
      · simp only [aup, trn, e9] at *; simp; repeat' split
        all_goals omega)⟩ (Nat.le_refl _) (Nat.le_refl _) dX0_turn_98
      · refine aw_aload_n (i := 0) (q := 0) dX0_turn_86 rfl rfl ?_
        refine aw_getIk (x := mi a 7) 7 flX0_34 hsa haa rfl rfl (by (rw [aup_k (by decide), aup_k (by decide), aup_k (by decide)]) <;> rfl) dX0_turn_87 (fun r87 => ?_)
        refine aw_if_ne (tgt := 98) dX0_turn_90 (by decide) (by first | assumption | omega) (fun c90 => ?_) (fun c90 => ?_)
        · exact aw_vret ⟨rfl, rfl, rfl, (by
      have e9 : (mi a 8 * 30).tdiv 1000 = mi a 8 * 30 / 1000 := Int.tdiv_eq_ediv_of_nonneg (by omega)
      have f : ∀ (x : Nat) (j : Int), (x ≠ a ∨ (j ≠ 6 ∧ j ≠ 8 ∧ j ≠ 9 ∧ j ≠ 11)) → (aup (aup (aup mi a 11 (mi a 11 + mi a 3)) a 9 (-(mi a 9))) a 8 m37) x j = mi x j := by
        intro x j hx
        unfold aup
        repeat (rw [if_neg (by omega)])
      refine ⟨?_, ?_, ?_, ?_, f⟩
      · simp only [aup, trn, e9] at *; simp; repeat' split
        all_goals omega
      · simp [aup]
      · simp [aup]
      · simp only [aup, trn, e9] at *; simp; repeat' split
        all_goals omega)⟩ (Nat.le_refl _) (Nat.le_refl _) dX0_turn_98
        · refine aw_aload_n (i := 0) (q := 0) dX0_turn_93 rfl rfl ?_
          refine aw_iconst dX0_turn_94 ?_
          refine aw_putZk 6 flX0_31 hsa haa rfl rfl rfl (by decide) dX0_turn_95 ?_
          exact aw_vret ⟨rfl, rfl, rfl, (by
      have e9 : (mi a 8 * 30).tdiv 1000 = mi a 8 * 30 / 1000 := Int.tdiv_eq_ediv_of_nonneg (by omega)
      have f : ∀ (x : Nat) (j : Int), (x ≠ a ∨ (j ≠ 6 ∧ j ≠ 8 ∧ j ≠ 9 ∧ j ≠ 11)) → (aup (aup (aup (aup mi a 11 (mi a 11 + mi a 3)) a 9 (-(mi a 9))) a 8 m37) a 6 0) x j = mi x j := by
        intro x j hx
        unfold aup
        repeat (rw [if_neg (by omega)])
      refine ⟨?_, ?_, ?_, ?_, f⟩
      · simp only [aup, trn, e9] at *; simp; repeat' split
        all_goals omega
      · simp [aup]
      · simp [aup]
      · simp only [aup, trn, e9] at *; simp; repeat' split
        all_goals omega)⟩ (Nat.le_refl _) (Nat.le_refl _) dX0_turn_98
    · refine aw_aload_n (i := 0) (q := 0) dX0_turn_61 rfl rfl ?_
      refine aw_aload_n (i := 0) (q := 0) dX0_turn_62 rfl rfl ?_
      refine aw_getIk (x := m37) 8 flX0_37 hsa haa rfl rfl (by (rw [aup_eq]) <;> rfl) dX0_turn_63 (fun r63 => ?_)
      refine aw_bipush (x := 80) dX0_turn_66 rfl ?_
      refine aw_iadd dX0_turn_68 ?_
      refine aw_aload_n (i := 0) (q := 0) dX0_turn_69 rfl rfl ?_
      refine aw_getIk (x := mi a 10) 10 flX0_43 hsa haa rfl rfl (by (rw [aup_k (by decide), aup_k (by decide), aup_k (by decide)]) <;> rfl) dX0_turn_70 (fun r70 => ?_)
      refine aw_mmin (x := m37 + 80) (st := [.ref a]) (by omega) (by omega) clX0_59 (Nat.le_of_ble_eq_true rfl) (by decide) (Nat.le_refl _) (Nat.le_refl _) dX0_turn_73 (fun m73 hm73 => ?_)
      refine aw_putIk 8 flX0_37 hsa haa rfl rfl rfl (by first | assumption | omega) dX0_turn_76 ?_
      refine aw_aload_n (i := 0) (q := 0) dX0_turn_79 rfl rfl ?_
      refine aw_getIk (x := m73) 8 flX0_37 hsa haa rfl rfl (by (rw [aup_eq]) <;> rfl) dX0_turn_80 (fun r80 => ?_)
      refine aw_if_ne (tgt := 98) dX0_turn_83 (by decide) (by first | assumption | omega) (fun c83 => ?_) (fun c83 => ?_)
      · exact aw_vret ⟨rfl, rfl, rfl, (by
      have e9 : (mi a 8 * 30).tdiv 1000 = mi a 8 * 30 / 1000 := Int.tdiv_eq_ediv_of_nonneg (by omega)
      have f : ∀ (x : Nat) (j : Int), (x ≠ a ∨ (j ≠ 6 ∧ j ≠ 8 ∧ j ≠ 9 ∧ j ≠ 11)) → (aup (aup (aup (aup mi a 11 (mi a 11 + mi a 3)) a 9 (-(mi a 9))) a 8 m37) a 8 m73) x j = mi x j := by
        intro x j hx
        unfold aup
        repeat (rw [if_neg (by omega)])
      refine ⟨?_, ?_, ?_, ?_, f⟩
      · simp only [aup, trn, e9] at *; simp; repeat' split
        all_goals omega
      · simp [aup]
      · simp [aup]
      · simp only [aup, trn, e9] at *; simp; repeat' split
        all_goals omega)⟩ (Nat.le_refl _) (Nat.le_refl _) dX0_turn_98
      · refine aw_aload_n (i := 0) (q := 0) dX0_turn_86 rfl rfl ?_
        refine aw_getIk (x := mi a 7) 7 flX0_34 hsa haa rfl rfl (by (rw [aup_k (by decide), aup_k (by decide), aup_k (by decide), aup_k (by decide)]) <;> rfl) dX0_turn_87 (fun r87 => ?_)
        refine aw_if_ne (tgt := 98) dX0_turn_90 (by decide) (by first | assumption | omega) (fun c90 => ?_) (fun c90 => ?_)
        · exact aw_vret ⟨rfl, rfl, rfl, (by
      have e9 : (mi a 8 * 30).tdiv 1000 = mi a 8 * 30 / 1000 := Int.tdiv_eq_ediv_of_nonneg (by omega)
      have f : ∀ (x : Nat) (j : Int), (x ≠ a ∨ (j ≠ 6 ∧ j ≠ 8 ∧ j ≠ 9 ∧ j ≠ 11)) → (aup (aup (aup (aup mi a 11 (mi a 11 + mi a 3)) a 9 (-(mi a 9))) a 8 m37) a 8 m73) x j = mi x j := by
        intro x j hx
        unfold aup
        repeat (rw [if_neg (by omega)])
      refine ⟨?_, ?_, ?_, ?_, f⟩
      · simp only [aup, trn, e9] at *; simp; repeat' split
        all_goals omega
      · simp [aup]
      · simp [aup]
      · simp only [aup, trn, e9] at *; simp; repeat' split
        all_goals omega)⟩ (Nat.le_refl _) (Nat.le_refl _) dX0_turn_98
        · refine aw_aload_n (i := 0) (q := 0) dX0_turn_93 rfl rfl ?_
          refine aw_iconst dX0_turn_94 ?_
          refine aw_putZk 6 flX0_31 hsa haa rfl rfl rfl (by decide) dX0_turn_95 ?_
          exact aw_vret ⟨rfl, rfl, rfl, (by
      have e9 : (mi a 8 * 30).tdiv 1000 = mi a 8 * 30 / 1000 := Int.tdiv_eq_ediv_of_nonneg (by omega)
      have f : ∀ (x : Nat) (j : Int), (x ≠ a ∨ (j ≠ 6 ∧ j ≠ 8 ∧ j ≠ 9 ∧ j ≠ 11)) → (aup (aup (aup (aup (aup mi a 11 (mi a 11 + mi a 3)) a 9 (-(mi a 9))) a 8 m37) a 8 m73) a 6 0) x j = mi x j := by
        intro x j hx
        unfold aup
        repeat (rw [if_neg (by omega)])
      refine ⟨?_, ?_, ?_, ?_, f⟩
      · simp only [aup, trn, e9] at *; simp; repeat' split
        all_goals omega
      · simp [aup]
      · simp [aup]
      · simp only [aup, trn, e9] at *; simp; repeat' split
        all_goals omega)⟩ (Nat.le_refl _) (Nat.le_refl _) dX0_turn_98
theorem s_X0_start {mr : aR} (hR : Rok mr) {mi : aM} {a : Nat} (hsa : SH a = (0, 0)) (haa : 0 < a ∧ a ≤ 94) {t g : Int} (h_t : -2147483648 ≤ t ∧ t ≤ 2147483647) (h_g : -2147483648 ≤ g ∧ g ≤ 2147483647) : SPg yX0_start cX0_start 3 none 1 [.ref a, iI t, iI g] mi mr (Pv mr (fun m => m = aup (aup (aup (aup (aup (aup mi a 6 1) a 7 1) a 8 0) a 9 1) a 10 g) a 11 t)) := by
  refine SPg.void rfl (by decide +kernel) (Nat.le_of_ble_eq_true rfl) ?_
  show AWm RX0 cX0_start 3 1 _ 0 [(0, .ref a), (1, iI t), (2, iI g)] [] mi mr
  refine aw_aload_n (i := 0) (q := 0) dX0_start_0 rfl rfl ?_
  refine aw_iconst dX0_start_1 ?_
  refine aw_putZk 6 flX0_31 hsa haa rfl rfl rfl (by decide) dX0_start_2 ?_
  refine aw_aload_n (i := 0) (q := 0) dX0_start_5 rfl rfl ?_
  refine aw_iconst dX0_start_6 ?_
  refine aw_putZk 7 flX0_34 hsa haa rfl rfl rfl (by decide) dX0_start_7 ?_
  refine aw_aload_n (i := 0) (q := 0) dX0_start_10 rfl rfl ?_
  refine aw_iconst dX0_start_11 ?_
  refine aw_putIk 8 flX0_37 hsa haa rfl rfl rfl (by decide) dX0_start_12 ?_
  refine aw_aload_n (i := 0) (q := 0) dX0_start_15 rfl rfl ?_
  refine aw_iconst dX0_start_16 ?_
  refine aw_putIk 9 flX0_40 hsa haa rfl rfl rfl (by decide) dX0_start_17 ?_
  refine aw_aload_n (i := 0) (q := 0) dX0_start_20 rfl rfl ?_
  refine aw_iload_n (i := 2) (q := 2) dX0_start_21 rfl rfl ?_
  refine aw_putIk 10 flX0_43 hsa haa rfl rfl rfl (by first | assumption | omega) dX0_start_22 ?_
  refine aw_aload_n (i := 0) (q := 0) dX0_start_25 rfl rfl ?_
  refine aw_iload_n (i := 1) (q := 1) dX0_start_26 rfl rfl ?_
  refine aw_putIk 11 flX0_46 hsa haa rfl rfl rfl (by first | assumption | omega) dX0_start_27 ?_
  exact aw_vret ⟨rfl, rfl, rfl, rfl⟩ (Nat.le_refl _) (Nat.le_refl _) dX0_start_30
theorem s_X0_copyFrom {mr : aR} (hR : Rok mr) {mi : aM} {a : Nat} (hsa : SH a = (0, 0)) (haa : 0 < a ∧ a ≤ 94) {o : Nat} (hso : SH o = (0, 0)) (hao : 0 < o ∧ o ≤ 94) (hne : o ≠ a) (h6 : mi o 6 = 0 ∨ mi o 6 = 1) (h7 : mi o 7 = 0 ∨ mi o 7 = 1) : SPg yX0_copyFrom cX0_copyFrom 2 none 1 [.ref a, .ref o] mi mr (Pv mr (fun m => m a 2 = mi o 2 ∧ m a 3 = mi o 3 ∧ m a 6 = mi o 6 ∧ m a 7 = mi o 7 ∧ m a 8 = mi o 8 ∧ m a 9 = mi o 9 ∧ m a 10 = mi o 10 ∧ m a 11 = mi o 11 ∧ ∀ (x : Nat) (j : Int), (x ≠ a ∨ j = 0 ∨ j = 1 ∨ j = 4 ∨ j = 5) → m x j = mi x j)) := by
  refine SPg.void rfl (by decide +kernel) (Nat.le_of_ble_eq_true rfl) ?_
  show AWm RX0 cX0_copyFrom 2 1 _ 0 [(0, .ref a), (1, .ref o)] [] mi mr
  refine aw_aload_n (i := 0) (q := 0) dX0_copyFrom_0 rfl rfl ?_
  refine aw_aload_n (i := 1) (q := 1) dX0_copyFrom_1 rfl rfl ?_
  refine aw_getIk (x := mi o 2) 2 flX0_18 hso hao rfl rfl rfl dX0_copyFrom_2 (fun r2 => ?_)
  refine aw_putIk 2 flX0_18 hsa haa rfl rfl rfl (by first | assumption | omega) dX0_copyFrom_5 ?_
  refine aw_aload_n (i := 0) (q := 0) dX0_copyFrom_8 rfl rfl ?_
  refine aw_aload_n (i := 1) (q := 1) dX0_copyFrom_9 rfl rfl ?_
  refine aw_getIk (x := mi o 3) 3 flX0_21 hso hao rfl rfl (by (rw [aup_a hne]) <;> rfl) dX0_copyFrom_10 (fun r10 => ?_)
  refine aw_putIk 3 flX0_21 hsa haa rfl rfl rfl (by first | assumption | omega) dX0_copyFrom_13 ?_
  refine aw_aload_n (i := 0) (q := 0) dX0_copyFrom_16 rfl rfl ?_
  refine aw_aload_n (i := 1) (q := 1) dX0_copyFrom_17 rfl rfl ?_
  refine aw_getIk (x := mi o 6) 6 flX0_31 hso hao rfl rfl (by (rw [aup_a hne, aup_a hne]) <;> rfl) dX0_copyFrom_18 (fun r18 => ?_)
  refine aw_putZk 6 flX0_31 hsa haa rfl rfl rfl (by omega) dX0_copyFrom_21 ?_
  refine aw_aload_n (i := 0) (q := 0) dX0_copyFrom_24 rfl rfl ?_
  refine aw_aload_n (i := 1) (q := 1) dX0_copyFrom_25 rfl rfl ?_
  refine aw_getIk (x := mi o 7) 7 flX0_34 hso hao rfl rfl (by (rw [aup_a hne, aup_a hne, aup_a hne]) <;> rfl) dX0_copyFrom_26 (fun r26 => ?_)
  refine aw_putZk 7 flX0_34 hsa haa rfl rfl rfl (by omega) dX0_copyFrom_29 ?_
  refine aw_aload_n (i := 0) (q := 0) dX0_copyFrom_32 rfl rfl ?_
  refine aw_aload_n (i := 1) (q := 1) dX0_copyFrom_33 rfl rfl ?_
  refine aw_getIk (x := mi o 8) 8 flX0_37 hso hao rfl rfl (by (rw [aup_a hne, aup_a hne, aup_a hne, aup_a hne]) <;> rfl) dX0_copyFrom_34 (fun r34 => ?_)
  refine aw_putIk 8 flX0_37 hsa haa rfl rfl rfl (by first | assumption | omega) dX0_copyFrom_37 ?_
  refine aw_aload_n (i := 0) (q := 0) dX0_copyFrom_40 rfl rfl ?_
  refine aw_aload_n (i := 1) (q := 1) dX0_copyFrom_41 rfl rfl ?_
  refine aw_getIk (x := mi o 9) 9 flX0_40 hso hao rfl rfl (by (rw [aup_a hne, aup_a hne, aup_a hne, aup_a hne, aup_a hne]) <;> rfl) dX0_copyFrom_42 (fun r42 => ?_)
  refine aw_putIk 9 flX0_40 hsa haa rfl rfl rfl (by first | assumption | omega) dX0_copyFrom_45 ?_
  refine aw_aload_n (i := 0) (q := 0) dX0_copyFrom_48 rfl rfl ?_
  refine aw_aload_n (i := 1) (q := 1) dX0_copyFrom_49 rfl rfl ?_
  refine aw_getIk (x := mi o 10) 10 flX0_43 hso hao rfl rfl (by (rw [aup_a hne, aup_a hne, aup_a hne, aup_a hne, aup_a hne, aup_a hne]) <;> rfl) dX0_copyFrom_50 (fun r50 => ?_)
  refine aw_putIk 10 flX0_43 hsa haa rfl rfl rfl (by first | assumption | omega) dX0_copyFrom_53 ?_
  refine aw_aload_n (i := 0) (q := 0) dX0_copyFrom_56 rfl rfl ?_
  refine aw_aload_n (i := 1) (q := 1) dX0_copyFrom_57 rfl rfl ?_
  refine aw_getIk (x := mi o 11) 11 flX0_46 hso hao rfl rfl (by (rw [aup_a hne, aup_a hne, aup_a hne, aup_a hne, aup_a hne, aup_a hne, aup_a hne]) <;> rfl) dX0_copyFrom_58 (fun r58 => ?_)
  refine aw_putIk 11 flX0_46 hsa haa rfl rfl rfl (by first | assumption | omega) dX0_copyFrom_61 ?_
  exact aw_vret ⟨rfl, rfl, rfl, (by refine ⟨?_, ?_, ?_, ?_, ?_, ?_, ?_, ?_, fun x j hx => ?_⟩ <;> unfold aup <;> (first | (simp; done) | (repeat (rw [if_neg (by omega)]))))⟩ (Nat.le_refl _) (Nat.le_refl _) dX0_copyFrom_64
theorem s_X0_forceAt {mr : aR} (hR : Rok mr) {mi : aM} {a : Nat} (hsa : SH a = (0, 0)) (haa : 0 < a ∧ a ≤ 94) {t : Int} (h_t : -2147483648 ≤ t ∧ t ≤ 2147483647) (hw : 1 ≤ mi a 2 ∧ mi a 2 ≤ 99) (hh : 10 ≤ mi a 3 ∧ mi a 3 ≤ 60) (hm : 0 ≤ mi a 8 ∧ mi a 8 ≤ 1000) (hs9 : mi a 9 = 1 ∨ mi a 9 = -1) (hu : mi a 6 ≠ 0 → 0 ≤ t - mi a 11 ∧ t - mi a 11 ≤ mi a 3) : SPg yX0_forceAt cX0_forceAt 3 (some .int) 1 [.ref a, iI t] mi mr (Pp mi mr (fun r => (mi a 6 = 0 ∧ r = 0) ∨ (mi a 6 ≠ 0 ∧ r = frc (mi a 9) (mi a 2) (mi a 8) (mi a 3) (t - mi a 11)))) := by
  refine SPg.pure rfl (by decide +kernel) (Nat.le_of_ble_eq_true rfl) ?_
  show AWm RX0 cX0_forceAt 3 1 _ 0 [(0, .ref a), (1, iI t)] [] mi mr
  refine aw_aload_n (i := 0) (q := 0) dX0_forceAt_0 rfl rfl ?_
  refine aw_getIk (x := mi a 6) 6 flX0_31 hsa haa rfl rfl rfl dX0_forceAt_1 (fun r1 => ?_)
  refine aw_if_eq (tgt := 15) dX0_forceAt_4 (by decide) (by first | assumption | (have hn := frc_num hs9 (weight := mi a 2) (by omega) hm (half := mi a 3) (by omega) (hu (by assumption)); omega)) (fun c4 => ?_) (fun c4 => ?_)
  · refine aw_iconst dX0_forceAt_15 ?_
    exact aw_iret ⟨_, rfl, rfl, rfl, rfl, (by first | omega | exact Or.inr ⟨by assumption, rfl⟩)⟩ (Nat.le_refl _) (Nat.le_refl _) dX0_forceAt_16
  · refine aw_aload_n (i := 0) (q := 0) dX0_forceAt_7 rfl rfl ?_
    refine aw_getIk (x := mi a 3) 3 flX0_21 hsa haa rfl rfl rfl dX0_forceAt_8 (fun r8 => ?_)
    refine aw_iconst dX0_forceAt_11 ?_
    refine aw_icmp_ge (tgt := 17) dX0_forceAt_12 (by decide) (by first | assumption | (have hn := frc_num hs9 (weight := mi a 2) (by omega) hm (half := mi a 3) (by omega) (hu (by assumption)); omega)) (by decide) (fun c12 => ?_) (fun c12 => ?_)
    · refine aw_iload_n (i := 1) (q := 1) dX0_forceAt_17 rfl rfl ?_
      refine aw_aload_n (i := 0) (q := 0) dX0_forceAt_18 rfl rfl ?_
      refine aw_getIk (x := mi a 11) 11 flX0_46 hsa haa rfl rfl rfl dX0_forceAt_19 (fun r19 => ?_)
      refine aw_isub dX0_forceAt_22 ?_
      refine aw_istore_n (i := 2) (lv' := [(0, .ref a), (1, iI t), (2, iI (t - (mi a 11)))]) [1, 2, 0] dX0_forceAt_23 rfl (by decide) rfl ?_
      refine aw_aload_n (i := 0) (q := 0) dX0_forceAt_24 rfl rfl ?_
      refine aw_getIk (x := mi a 9) 9 flX0_40 hsa haa rfl rfl rfl dX0_forceAt_25 (fun r25 => ?_)
      refine aw_aload_n (i := 0) (q := 0) dX0_forceAt_28 rfl rfl ?_
      refine aw_getIk (x := mi a 2) 2 flX0_18 hsa haa rfl rfl rfl dX0_forceAt_29 (fun r29 => ?_)
      refine aw_imul dX0_forceAt_32 ?_
      refine aw_aload_n (i := 0) (q := 0) dX0_forceAt_33 rfl rfl ?_
      refine aw_getIk (x := mi a 8) 8 flX0_37 hsa haa rfl rfl rfl dX0_forceAt_34 (fun r34 => ?_)
      refine aw_imul dX0_forceAt_37 ?_
      refine aw_aload_n (i := 0) (q := 0) dX0_forceAt_38 rfl rfl ?_
      refine aw_getIk (x := mi a 3) 3 flX0_21 hsa haa rfl rfl rfl dX0_forceAt_39 (fun r39 => ?_)
      refine aw_iconst dX0_forceAt_42 ?_
      refine aw_iload_n (i := 2) (q := 2) dX0_forceAt_43 rfl rfl ?_
      refine aw_imul dX0_forceAt_44 ?_
      refine aw_isub dX0_forceAt_45 ?_
      refine aw_imul dX0_forceAt_46 ?_
      refine aw_bipush (x := 100) dX0_forceAt_47 rfl ?_
      refine aw_aload_n (i := 0) (q := 0) dX0_forceAt_49 rfl rfl ?_
      refine aw_getIk (x := mi a 3) 3 flX0_21 hsa haa rfl rfl rfl dX0_forceAt_50 (fun r50 => ?_)
      refine aw_imul dX0_forceAt_53 ?_
      refine aw_idiv dX0_forceAt_54 (by first | assumption | (have hn := frc_num hs9 (weight := mi a 2) (by omega) hm (half := mi a 3) (by omega) (hu (by assumption)); omega)) (by first | assumption | (have hn := frc_num hs9 (weight := mi a 2) (by omega) hm (half := mi a 3) (by omega) (hu (by assumption)); omega)) (by (have hn := frc_num hs9 (weight := mi a 2) (by omega) hm (half := mi a 3) (by omega) (hu (by assumption)); omega)) (by (have hn := frc_num hs9 (weight := mi a 2) (by omega) hm (half := mi a 3) (by omega) (hu (by assumption)); omega)) ?_
      exact aw_iret ⟨_, rfl, rfl, rfl, rfl, (by first | omega | exact Or.inr ⟨by assumption, rfl⟩)⟩ (Nat.le_refl _) (Nat.le_refl _) dX0_forceAt_55
    · refine aw_iconst dX0_forceAt_15 ?_
      exact aw_iret ⟨_, rfl, rfl, rfl, rfl, (by first | omega | exact Or.inr ⟨by assumption, rfl⟩)⟩ (Nat.le_refl _) (Nat.le_refl _) dX0_forceAt_16
