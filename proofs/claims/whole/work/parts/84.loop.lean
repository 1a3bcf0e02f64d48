-- part 84: the law's loop, the law from its entry (printed by wip/whole/gen/p84.py)
theorem and63 (y : Int32) : 0 ≤ (y &&& Int32.ofInt 63).toInt ∧ (y &&& Int32.ofInt 63).toInt ≤ 63 := by
  have h : (y.toBitVec &&& 63#32).toNat ≤ 63 := by
    rw [BitVec.toNat_and]
    exact Nat.and_le_right
  have e : (y &&& Int32.ofInt 63).toInt = (y.toBitVec &&& 63#32).toInt := rfl
  rw [e, BitVec.toInt_eq_toNat_of_lt (by omega)]
  omega
section LOOP
variable {L : Nat} {xs : Int → Int} {ck sk : Nat}
theorem lw_sw {i : Int} {mi : aM} {mr : aR} {E : Int → Nat} (hx : ∀ j : Int, -2147483648 ≤ xs j ∧ xs j ≤ 2147483647) (hi : 0 ≤ i ∧ i + 6 ≤ L) (hL9 : L ≤ 2147483647) (hck : ck ≤ 600000) (hsk : sk ≤ 7302250) (h : RS mi mr E) (kx : ∀ (m : aM) (s : aR) (F : Int → Nat), RS m s F → AL L xs ck sk 1523 i [] m s) (k : Nat) (hk : k < 47) : AL L xs ck sk 33 i [iI (k : Int)] mi mr := by
  unfold AL
  match k, hk with
  | 0, _ => exact aw_tabIn (off := 203) (tgt := 236) dL_law_33 (by decide) (by decide) (by decide) (by decide +kernel) (by decide) (lc_0 hx hi hL9 hck hsk h kx)
  | 1, _ => exact aw_tabIn (off := 256) (tgt := 289) dL_law_33 (by decide) (by decide) (by decide) (by decide +kernel) (by decide) (lc_1 hx hi hL9 hck hsk h kx)
  | 2, _ => exact aw_tabIn (off := 269) (tgt := 302) dL_law_33 (by decide) (by decide) (by decide) (by decide +kernel) (by decide) (lc_2 hx hi hL9 hck hsk h kx)
  | 3, _ => exact aw_tabIn (off := 292) (tgt := 325) dL_law_33 (by decide) (by decide) (by decide) (by decide +kernel) (by decide) (lc_3 hx hi hL9 hck hsk h kx)
  | 4, _ => exact aw_tabIn (off := 325) (tgt := 358) dL_law_33 (by decide) (by decide) (by decide) (by decide +kernel) (by decide) (lc_4 hx hi hL9 hck hsk h kx)
  | 5, _ => exact aw_tabIn (off := 348) (tgt := 381) dL_law_33 (by decide) (by decide) (by decide) (by decide +kernel) (by decide) (lc_5 hx hi hL9 hck hsk h kx)
  | 6, _ => exact aw_tabIn (off := 361) (tgt := 394) dL_law_33 (by decide) (by decide) (by decide) (by decide +kernel) (by decide) (lc_6 hx hi hL9 hck hsk h kx)
  | 7, _ => exact aw_tabIn (off := 384) (tgt := 417) dL_law_33 (by decide) (by decide) (by decide) (by decide +kernel) (by decide) (lc_7 hx hi hL9 hck hsk h kx)
  | 8, _ => exact aw_tabIn (off := 397) (tgt := 430) dL_law_33 (by decide) (by decide) (by decide) (by decide +kernel) (by decide) (lc_8 hx hi hL9 hck hsk h kx)
  | 9, _ => exact aw_tabIn (off := 420) (tgt := 453) dL_law_33 (by decide) (by decide) (by decide) (by decide +kernel) (by decide) (lc_9 hx hi hL9 hck hsk h kx)
  | 10, _ => exact aw_tabIn (off := 443) (tgt := 476) dL_law_33 (by decide) (by decide) (by decide) (by decide +kernel) (by decide) (lc_10 hx hi hL9 hck hsk h kx)
  | 11, _ => exact aw_tabIn (off := 466) (tgt := 499) dL_law_33 (by decide) (by decide) (by decide) (by decide +kernel) (by decide) (lc_11 hx hi hL9 hck hsk h kx)
  | 12, _ => exact aw_tabIn (off := 499) (tgt := 532) dL_law_33 (by decide) (by decide) (by decide) (by decide +kernel) (by decide) (lc_12 hx hi hL9 hck hsk h kx)
  | 13, _ => exact aw_tabIn (off := 532) (tgt := 565) dL_law_33 (by decide) (by decide) (by decide) (by decide +kernel) (by decide) (lc_13 hx hi hL9 hck hsk h kx)
  | 14, _ => exact aw_tabIn (off := 545) (tgt := 578) dL_law_33 (by decide) (by decide) (by decide) (by decide +kernel) (by decide) (lc_14 hx hi hL9 hck hsk h kx)
  | 15, _ => exact aw_tabIn (off := 568) (tgt := 601) dL_law_33 (by decide) (by decide) (by decide) (by decide +kernel) (by decide) (lc_15 hx hi hL9 hck hsk h kx)
  | 16, _ => exact aw_tabIn (off := 591) (tgt := 624) dL_law_33 (by decide) (by decide) (by decide) (by decide +kernel) (by decide) (lc_16 hx hi hL9 hck hsk h kx)
  | 17, _ => exact aw_tabIn (off := 614) (tgt := 647) dL_law_33 (by decide) (by decide) (by decide) (by decide +kernel) (by decide) (lc_17 hx hi hL9 hck hsk h kx)
  | 18, _ => exact aw_tabIn (off := 637) (tgt := 670) dL_law_33 (by decide) (by decide) (by decide) (by decide +kernel) (by decide) (lc_18 hx hi hL9 hck hsk h kx)
  | 19, _ => exact aw_tabIn (off := 670) (tgt := 703) dL_law_33 (by decide) (by decide) (by decide) (by decide +kernel) (by decide) (lc_19 hx hi hL9 hck hsk h kx)
  | 20, _ => exact aw_tabIn (off := 733) (tgt := 766) dL_law_33 (by decide) (by decide) (by decide) (by decide +kernel) (by decide) (lc_20 hx hi hL9 hck hsk h kx)
  | 21, _ => exact aw_tabIn (off := 766) (tgt := 799) dL_law_33 (by decide) (by decide) (by decide) (by decide +kernel) (by decide) (lc_21 hx hi hL9 hck hsk h kx)
  | 22, _ => exact aw_tabIn (off := 779) (tgt := 812) dL_law_33 (by decide) (by decide) (by decide) (by decide +kernel) (by decide) (lc_22 hx hi hL9 hck hsk h kx)
  | 23, _ => exact aw_tabIn (off := 792) (tgt := 825) dL_law_33 (by decide) (by decide) (by decide) (by decide +kernel) (by decide) (lc_23 hx hi hL9 hck hsk h kx)
  | 24, _ => exact aw_tabIn (off := 825) (tgt := 858) dL_law_33 (by decide) (by decide) (by decide) (by decide +kernel) (by decide) (lc_24 hx hi hL9 hck hsk h kx)
  | 25, _ => exact aw_tabIn (off := 848) (tgt := 881) dL_law_33 (by decide) (by decide) (by decide) (by decide +kernel) (by decide) (lc_25 hx hi hL9 hck hsk h kx)
  | 26, _ => exact aw_tabIn (off := 891) (tgt := 924) dL_law_33 (by decide) (by decide) (by decide) (by decide +kernel) (by decide) (lc_26 hx hi hL9 hck hsk h kx)
  | 27, _ => exact aw_tabIn (off := 944) (tgt := 977) dL_law_33 (by decide) (by decide) (by decide) (by decide +kernel) (by decide) (lc_27 hx hi hL9 hck hsk h kx)
  | 28, _ => exact aw_tabIn (off := 967) (tgt := 1000) dL_law_33 (by decide) (by decide) (by decide) (by decide +kernel) (by decide) (lc_28 hx hi hL9 hck hsk h kx)
  | 29, _ => exact aw_tabIn (off := 1000) (tgt := 1033) dL_law_33 (by decide) (by decide) (by decide) (by decide +kernel) (by decide) (lc_29 hx hi hL9 hck hsk h kx)
  | 30, _ => exact aw_tabIn (off := 1063) (tgt := 1096) dL_law_33 (by decide) (by decide) (by decide) (by decide +kernel) (by decide) (lc_30 hx hi hL9 hck hsk h kx)
  | 31, _ => exact aw_tabIn (off := 1086) (tgt := 1119) dL_law_33 (by decide) (by decide) (by decide) (by decide +kernel) (by decide) (lc_31 hx hi hL9 hck hsk h kx)
  | 32, _ => exact aw_tabIn (off := 1099) (tgt := 1132) dL_law_33 (by decide) (by decide) (by decide) (by decide +kernel) (by decide) (lc_32 hx hi hL9 hck hsk h kx)
  | 33, _ => exact aw_tabIn (off := 1122) (tgt := 1155) dL_law_33 (by decide) (by decide) (by decide) (by decide +kernel) (by decide) (lc_33 hx hi hL9 hck hsk h kx)
  | 34, _ => exact aw_tabIn (off := 1145) (tgt := 1178) dL_law_33 (by decide) (by decide) (by decide) (by decide +kernel) (by decide) (lc_34 hx hi hL9 hck hsk h kx)
  | 35, _ => exact aw_tabIn (off := 1158) (tgt := 1191) dL_law_33 (by decide) (by decide) (by decide) (by decide +kernel) (by decide) (lc_35 hx hi hL9 hck hsk h kx)
  | 36, _ => exact aw_tabIn (off := 1191) (tgt := 1224) dL_law_33 (by decide) (by decide) (by decide) (by decide +kernel) (by decide) (lc_36 hx hi hL9 hck hsk h kx)
  | 37, _ => exact aw_tabIn (off := 1214) (tgt := 1247) dL_law_33 (by decide) (by decide) (by decide) (by decide +kernel) (by decide) (lc_37 hx hi hL9 hck hsk h kx)
  | 38, _ => exact aw_tabIn (off := 1263) (tgt := 1296) dL_law_33 (by decide) (by decide) (by decide) (by decide +kernel) (by decide) (lc_38 hx hi hL9 hck hsk h kx)
  | 39, _ => exact aw_tabIn (off := 1286) (tgt := 1319) dL_law_33 (by decide) (by decide) (by decide) (by decide +kernel) (by decide) (lc_39 hx hi hL9 hck hsk h kx)
  | 40, _ => exact aw_tabIn (off := 1309) (tgt := 1342) dL_law_33 (by decide) (by decide) (by decide) (by decide +kernel) (by decide) (lc_40 hx hi hL9 hck hsk h kx)
  | 41, _ => exact aw_tabIn (off := 1342) (tgt := 1375) dL_law_33 (by decide) (by decide) (by decide) (by decide +kernel) (by decide) (lc_41 hx hi hL9 hck hsk h kx)
  | 42, _ => exact aw_tabIn (off := 1365) (tgt := 1398) dL_law_33 (by decide) (by decide) (by decide) (by decide +kernel) (by decide) (lc_42 hx hi hL9 hck hsk h kx)
  | 43, _ => exact aw_tabIn (off := 1388) (tgt := 1421) dL_law_33 (by decide) (by decide) (by decide) (by decide +kernel) (by decide) (lc_43 hx hi hL9 hck hsk h kx)
  | 44, _ => exact aw_tabIn (off := 1411) (tgt := 1444) dL_law_33 (by decide) (by decide) (by decide) (by decide +kernel) (by decide) (lc_44 hx hi hL9 hck hsk h kx)
  | 45, _ => exact aw_tabIn (off := 1434) (tgt := 1467) dL_law_33 (by decide) (by decide) (by decide) (by decide +kernel) (by decide) (lc_45 hx hi hL9 hck hsk h kx)
  | 46, _ => exact aw_tabIn (off := 1457) (tgt := 1490) dL_law_33 (by decide) (by decide) (by decide) (by decide +kernel) (by decide) (lc_46 hx hi hL9 hck hsk h kx)
  | k + 47, hk => exact absurd hk (by omega)
theorem law_loop (hx : ∀ j : Int, -2147483648 ≤ xs j ∧ xs j ≤ 2147483647) (hL : L ≤ 3072) (hck : ck ≤ 600000) (hsk : sk ≤ 7302250) : ∀ (n : Nat) (i : Int) (mi : aM) (mr : aR) (E : Int → Nat), RS mi mr E → (0 ≤ i ∧ i ≤ L) → (L : Int) - i < n → AL L xs ck sk 18 i [] mi mr := by
  intro n
  induction n with
  | zero => intro i mi mr E h hi hn; omega
  | succ n ih =>
    intro i mi mr E h hi hn
    unfold AL lwV
    refine aw_iload_n (i := 3) (q := 3) dL_law_18 rfl rfl ?_
    refine aw_aload_n (i := 0) (q := 0) dL_law_19 rfl rfl ?_
    refine aw_slen rfl dL_law_20 ?_
    refine aw_bipush (x := 6) dL_law_21 rfl ?_
    refine aw_isub dL_law_23 ?_
    refine aw_icmp_gt (tgt := 1529) dL_law_24 (by decide) (by omega) (by omega) (fun c => ?_) (fun c => ?_)
    · refine aw_iconst dL_law_1529 ?_
      exact aw_iret rfl hck hsk dL_law_1530
    · have hi6 : 0 ≤ i ∧ i + 6 ≤ L := by omega
      have kx : ∀ (m : aM) (s : aR) (F : Int → Nat), RS m s F → AL L xs ck sk 1523 i [] m s := by
        intro m s F hF
        unfold AL lwV
        refine aw_iinc (i := 3) (q := 3) (x := i) (lv' := [(0, .ref 0), (1, .ref 1), (2, .ref 58), (3, iI (i + 6))]) [1, 2, 3, 0] dL_law_1523 rfl (by decide) rfl ?_
        refine aw_goto (tgt := 18) dL_law_1526 (by decide) ?_
        exact ih (i + 6) m s F hF (by omega) (by omega)
      refine aw_aload_n (i := 0) (q := 0) dL_law_27 rfl rfl ?_
      refine aw_iload_n (i := 3) (q := 3) dL_law_28 rfl rfl ?_
      refine aw_sld rfl ⟨by omega, by omega⟩ (by omega) dL_law_29 ?_
      refine aw_bipush (x := 63) dL_law_30 rfl ?_
      have hz := and63 (Int32.ofInt (xs i))
      generalize hzz : (Int32.ofInt (xs i) &&& Int32.ofInt 63).toInt = z at hz
      refine aw_iand (z := z) dL_law_32 (by rw [← hzz]; exact (Int32.ofInt_toInt _).symm) ?_
      by_cases hz46 : 46 < z
      · exact aw_tabOut (tgt := 1523) dL_law_33 (by omega) (Or.inr hz46) (by decide) (kx mi mr E h)
      · obtain ⟨k, hk⟩ : ∃ k : Nat, z = k := ⟨z.toNat, by omega⟩
        subst hk
        exact lw_sw hx hi6 (by omega) hck hsk h kx k (by omega)
theorem lw_begin (hx : ∀ j : Int, -2147483648 ≤ xs j ∧ xs j ≤ 2147483647) (hL : L ≤ 3072) : AW RL cL_law 4 20 false 600000 7302250 (some (L, xs)) lwE 0 0 [(0, .ref 0)] [] mZ rZ 0 0 := by
  refine aw_new (n := 0) (ck := 0) (sk := 0) SH_1 (rfl : vwCl[6]? = _) ckL_7 ins_RX6 hdf_6 (Nat.le_of_ble_eq_true rfl) (Nat.le_of_ble_eq_true rfl) dL_law_0 ?_
  refine aw_dup dL_law_3 rfl ?_
  refine aw_cIi (n := 1) (a := 1) (ck := 1) (sk := 17) clL_9 s_X6_init (Nat.le_of_ble_eq_true rfl) (by decide) (by decide) (Nat.le_of_ble_eq_true rfl) (Nat.le_of_ble_eq_true rfl) dL_law_4 ?_
  refine aw_astore_n (i := 1) (lv' := [(0, .ref 0), (1, .ref 1)]) [1, 0] dL_law_7 rfl (by decide) rfl ?_
  refine aw_new (n := 57) (ck := 57) (sk := 5062) SH_58 (rfl : vwCl[7]? = _) ckL_10 ins_RX7 hdf_7 (Nat.le_of_ble_eq_true rfl) (Nat.le_of_ble_eq_true rfl) dL_law_8 ?_
  refine aw_dup dL_law_11 rfl ?_
  refine aw_cIi (n := 58) (a := 58) (ck := 58) (sk := 5115) clL_12 s_X7_init (Nat.le_of_ble_eq_true rfl) (by decide) (by decide) (Nat.le_of_ble_eq_true rfl) (Nat.le_of_ble_eq_true rfl) dL_law_12 ?_
  refine aw_astore_n (i := 2) (lv' := [(0, .ref 0), (1, .ref 1), (2, .ref 58)]) [1, 2, 0] dL_law_15 rfl (by decide) rfl ?_
  refine aw_iconst dL_law_16 ?_
  refine aw_istore_n (i := 3) (lv' := [(0, .ref 0), (1, .ref 1), (2, .ref 58), (3, iI 0)]) [1, 2, 3, 0] dL_law_17 rfl (by decide) rfl ?_
  have key := law_loop (ck := 94) (sk := 10009) hx hL (Nat.le_of_ble_eq_true rfl) (Nat.le_of_ble_eq_true rfl) (L + 1) 0 mC1 rC1 _ RS_1 (by omega) (by omega)
  exact key
end LOOP
