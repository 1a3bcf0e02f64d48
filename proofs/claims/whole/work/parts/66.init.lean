-- part 66: the constructors (printed by wip/whole/gen/p66.py)
theorem aw_cNi {own : String} {cc : ByteArray} {nL d : Nat} {ini : Bool} {kc ks : Nat} {xo : Option (Nat × (Int → Int))} {Po : Option Int → Nat → aM → aR → Prop} {n pc : Nat} {lv : List (Nat × Value)} {st : List Value} {mi : aM} {mr : aR} {ck sk : Nat} {y : MethodName} {ccg : ByteArray} {nLg dg mc ms idx : Nat} {a : Nat} {host : String} {n1 : Nat} {m1 : aM} {r1 : aR} (hcal : aCalN own idx y host ccg nLg 0) (hM : SP y ccg nLg none dg mc ms n [.ref a] mi mr (fun v n' m' r' => v = none ∧ n' = n1 ∧ m' = m1 ∧ r' = r1)) (hr : (st.map fun v => v.category).sum ≤ 8) (hdd : dg + 1 ≤ d) (hnl : nLg ≤ 40) (hck : ck + mc ≤ kc) (hsk : sk + ms ≤ ks) (hd : decode cc pc = .ok (.invokespecial idx, 3)) (k : AW own cc nL d ini kc ks xo Po n1 (pc + 3) lv st m1 r1 (ck + mc) (sk + ms)) : AW own cc nL d ini kc ks xo Po n pc lv (.ref a :: st) mi mr ck sk := by
  refine aw_callN (As := []) (st := st) hcal hM rfl rfl hr hdd hnl hck hsk hd (fun v n' mi' mr' h => ?_)
  obtain ⟨h1, h2, h3, h4⟩ := h
  subst h1 h2 h3 h4
  exact k
theorem aw_cIi {own : String} {cc : ByteArray} {nL d : Nat} {ini : Bool} {kc ks : Nat} {xo : Option (Nat × (Int → Int))} {Po : Option Int → Nat → aM → aR → Prop} {n pc : Nat} {lv : List (Nat × Value)} {st : List Value} {mi : aM} {mr : aR} {ck sk : Nat} {y : MethodName} {ccg : ByteArray} {nLg dg mc ms idx : Nat} {a : Nat} {n1 : Nat} {m1 : aM} {r1 : aR} (hcal : aCalI own idx y ccg nLg 0) (hM : SP y ccg nLg none dg mc ms n [.ref a] mi mr (fun v n' m' r' => v = none ∧ n' = n1 ∧ m' = m1 ∧ r' = r1)) (hr : (st.map fun v => v.category).sum ≤ 8) (hdd : dg + 1 ≤ d) (hnl : nLg ≤ 40) (hck : ck + mc ≤ kc) (hsk : sk + ms ≤ ks) (hd : decode cc pc = .ok (.invokespecial idx, 3)) (k : AW own cc nL d ini kc ks xo Po n1 (pc + 3) lv st m1 r1 (ck + mc) (sk + ms)) : AW own cc nL d ini kc ks xo Po n pc lv (.ref a :: st) mi mr ck sk := by
  refine aw_callI (As := []) (st := st) hcal hM rfl rfl hr hdd hnl hck hsk hd (fun v n' mi' mr' h => ?_)
  obtain ⟨h1, h2, h3, h4⟩ := h
  subst h1 h2 h3 h4
  exact k
theorem hdf_0 : ∀ j, j < 12 → defaultValue (fty 0 j) = if (fty 0 j).isReference = true then .null else .int 0 := by decide +kernel
theorem hdf_1 : ∀ j, j < 6 → defaultValue (fty 1 j) = if (fty 1 j).isReference = true then .null else .int 0 := by decide +kernel
theorem hdf_2 : ∀ j, j < 2 → defaultValue (fty 2 j) = if (fty 2 j).isReference = true then .null else .int 0 := by decide +kernel
theorem hdf_3 : ∀ j, j < 11 → defaultValue (fty 3 j) = if (fty 3 j).isReference = true then .null else .int 0 := by decide +kernel
theorem hdf_4 : ∀ j, j < 5 → defaultValue (fty 4 j) = if (fty 4 j).isReference = true then .null else .int 0 := by decide +kernel
theorem hdf_5 : ∀ j, j < 5 → defaultValue (fty 5 j) = if (fty 5 j).isReference = true then .null else .int 0 := by decide +kernel
theorem hdf_6 : ∀ j, j < 17 → defaultValue (fty 6 j) = if (fty 6 j).isReference = true then .null else .int 0 := by decide +kernel
theorem hdf_7 : ∀ j, j < 53 → defaultValue (fty 7 j) = if (fty 7 j).isReference = true then .null else .int 0 := by decide +kernel
theorem i_3 {mi : aM} {mr : aR} : SP yX0_init cX0_init 1 none 1 0 0 3 [.ref 3] mi mr (fun v n' m' r' => v = none ∧ n' = 3 ∧ m' = (aup (aup (aup (aup (aup (aup (aup (aup (aup (aup (aup (aup mi 3 0 1) 3 1 0) 3 2 1) 3 3 10) 3 4 0) 3 5 0) 3 6 0) 3 7 0) 3 8 0) 3 9 1) 3 10 0) 3 11 0) ∧ r' = mr) := by
  refine SP.of true rfl (fun _ => rfl) (by decide +kernel) (Nat.le_of_ble_eq_true rfl) (Or.inr (Or.inr ⟨rfl, fun _ _ _ _ h => by cases h.1⟩)) ?_
  show AW RX0 cX0_init 1 1 true 0 0 none _ 3 0 [(0, .ref 3)] [] mi mr 0 0
  refine aw_aload_n (i := 0) (q := 0) dX0_init_0 rfl rfl ?_
  refine aw_obj (n := 3) (a := 3) obX0_3 (Nat.le_of_ble_eq_true rfl) (by decide) dX0_init_1 ?_
  refine aw_aload_n (i := 0) (q := 0) dX0_init_4 rfl rfl ?_
  refine aw_iconst dX0_init_5 ?_
  refine aw_putIk (n := 3) 0 flX0_9 SH_3 (by decide) rfl rfl rfl (by decide) dX0_init_6 ?_
  refine aw_aload_n (i := 0) (q := 0) dX0_init_9 rfl rfl ?_
  refine aw_iconst dX0_init_10 ?_
  refine aw_putIk (n := 3) 1 flX0_15 SH_3 (by decide) rfl rfl rfl (by decide) dX0_init_11 ?_
  refine aw_aload_n (i := 0) (q := 0) dX0_init_14 rfl rfl ?_
  refine aw_iconst dX0_init_15 ?_
  refine aw_putIk (n := 3) 2 flX0_18 SH_3 (by decide) rfl rfl rfl (by decide) dX0_init_16 ?_
  refine aw_aload_n (i := 0) (q := 0) dX0_init_19 rfl rfl ?_
  refine aw_bipush (x := 10) dX0_init_20 rfl ?_
  refine aw_putIk (n := 3) 3 flX0_21 SH_3 (by decide) rfl rfl rfl (by decide) dX0_init_22 ?_
  refine aw_aload_n (i := 0) (q := 0) dX0_init_25 rfl rfl ?_
  refine aw_iconst dX0_init_26 ?_
  refine aw_putIk (n := 3) 4 flX0_24 SH_3 (by decide) rfl rfl rfl (by decide) dX0_init_27 ?_
  refine aw_aload_n (i := 0) (q := 0) dX0_init_30 rfl rfl ?_
  refine aw_iconst dX0_init_31 ?_
  refine aw_putZk (n := 3) 5 flX0_27 SH_3 (by decide) rfl rfl rfl (by decide) dX0_init_32 ?_
  refine aw_aload_n (i := 0) (q := 0) dX0_init_35 rfl rfl ?_
  refine aw_iconst dX0_init_36 ?_
  refine aw_putZk (n := 3) 6 flX0_31 SH_3 (by decide) rfl rfl rfl (by decide) dX0_init_37 ?_
  refine aw_aload_n (i := 0) (q := 0) dX0_init_40 rfl rfl ?_
  refine aw_iconst dX0_init_41 ?_
  refine aw_putZk (n := 3) 7 flX0_34 SH_3 (by decide) rfl rfl rfl (by decide) dX0_init_42 ?_
  refine aw_aload_n (i := 0) (q := 0) dX0_init_45 rfl rfl ?_
  refine aw_iconst dX0_init_46 ?_
  refine aw_putIk (n := 3) 8 flX0_37 SH_3 (by decide) rfl rfl rfl (by decide) dX0_init_47 ?_
  refine aw_aload_n (i := 0) (q := 0) dX0_init_50 rfl rfl ?_
  refine aw_iconst dX0_init_51 ?_
  refine aw_putIk (n := 3) 9 flX0_40 SH_3 (by decide) rfl rfl rfl (by decide) dX0_init_52 ?_
  refine aw_aload_n (i := 0) (q := 0) dX0_init_55 rfl rfl ?_
  refine aw_iconst dX0_init_56 ?_
  refine aw_putIk (n := 3) 10 flX0_43 SH_3 (by decide) rfl rfl rfl (by decide) dX0_init_57 ?_
  refine aw_aload_n (i := 0) (q := 0) dX0_init_60 rfl rfl ?_
  refine aw_iconst dX0_init_61 ?_
  refine aw_putIk (n := 3) 11 flX0_46 SH_3 (by decide) rfl rfl rfl (by decide) dX0_init_62 ?_
  exact aw_vret ⟨rfl, rfl, rfl, rfl⟩ (Nat.le_refl _) (Nat.le_refl _) dX0_init_65
theorem i_4 {mi : aM} {mr : aR} : SP yX5_init cX5_init 1 none 1 3 600 4 [.ref 4] mi mr (fun v n' m' r' => v = none ∧ n' = 7 ∧ m' = (aup (aup mi 4 3 0) 4 4 0) ∧ r' = (aup (aup (aup mr 4 0 (some 5)) 4 1 (some 6)) 4 2 (some 7))) := by
  refine SP.of true rfl (fun _ => rfl) (by decide +kernel) (Nat.le_of_ble_eq_true rfl) (Or.inr (Or.inr ⟨rfl, fun _ _ _ _ h => by cases h.1⟩)) ?_
  show AW RX5 cX5_init 1 1 true 3 600 none _ 4 0 [(0, .ref 4)] [] mi mr 0 0
  refine aw_aload_n (i := 0) (q := 0) dX5_init_0 rfl rfl ?_
  refine aw_obj (n := 4) (a := 4) obX5_3 (Nat.le_of_ble_eq_true rfl) (by decide) dX5_init_1 ?_
  refine aw_aload_n (i := 0) (q := 0) dX5_init_4 rfl rfl ?_
  refine aw_sipush (x := 200) dX5_init_5 rfl ?_
  refine aw_newI (n := 4) (z := 200) (ck := 0) (sk := 0) SH_5 (Nat.le_of_ble_eq_true rfl) (Nat.le_of_ble_eq_true rfl) dX5_init_8 ?_
  refine aw_putRk (n := 5) (r := 5) 0 flX5_9 SH_4 (by decide) rfl rfl rfl (fun q h => by cases h; rfl) rfl dX5_init_10 ?_
  refine aw_aload_n (i := 0) (q := 0) dX5_init_13 rfl rfl ?_
  refine aw_sipush (x := 200) dX5_init_14 rfl ?_
  refine aw_newI (n := 5) (z := 200) (ck := 1) (sk := 200) SH_6 (Nat.le_of_ble_eq_true rfl) (Nat.le_of_ble_eq_true rfl) dX5_init_17 ?_
  refine aw_putRk (n := 6) (r := 6) 1 flX5_15 SH_4 (by decide) rfl rfl rfl (fun q h => by cases h; rfl) rfl dX5_init_19 ?_
  refine aw_aload_n (i := 0) (q := 0) dX5_init_22 rfl rfl ?_
  refine aw_sipush (x := 200) dX5_init_23 rfl ?_
  refine aw_newI (n := 6) (z := 200) (ck := 2) (sk := 400) SH_7 (Nat.le_of_ble_eq_true rfl) (Nat.le_of_ble_eq_true rfl) dX5_init_26 ?_
  refine aw_putRk (n := 7) (r := 7) 2 flX5_18 SH_4 (by decide) rfl rfl rfl (fun q h => by cases h; rfl) rfl dX5_init_28 ?_
  refine aw_aload_n (i := 0) (q := 0) dX5_init_31 rfl rfl ?_
  refine aw_iconst dX5_init_32 ?_
  refine aw_putIk (n := 7) 3 flX5_21 SH_4 (by decide) rfl rfl rfl (by decide) dX5_init_33 ?_
  refine aw_aload_n (i := 0) (q := 0) dX5_init_36 rfl rfl ?_
  refine aw_iconst dX5_init_37 ?_
  refine aw_putIk (n := 7) 4 flX5_25 SH_4 (by decide) rfl rfl rfl (by decide) dX5_init_38 ?_
  exact aw_vret ⟨rfl, rfl, rfl, rfl⟩ (Nat.le_refl _) (Nat.le_refl _) dX5_init_41
theorem i_8 {mi : aM} {mr : aR} : SP yX4_init cX4_init 1 none 1 4 951 8 [.ref 8] mi mr (fun v n' m' r' => v = none ∧ n' = 12 ∧ m' = (aup mi 8 4 0) ∧ r' = (aup (aup (aup (aup mr 8 0 (some 9)) 8 1 (some 10)) 8 2 (some 11)) 8 3 (some 12))) := by
  refine SP.of true rfl (fun _ => rfl) (by decide +kernel) (Nat.le_of_ble_eq_true rfl) (Or.inr (Or.inr ⟨rfl, fun _ _ _ _ h => by cases h.1⟩)) ?_
  show AW RX4 cX4_init 1 1 true 4 951 none _ 8 0 [(0, .ref 8)] [] mi mr 0 0
  refine aw_aload_n (i := 0) (q := 0) dX4_init_0 rfl rfl ?_
  refine aw_obj (n := 8) (a := 8) obX4_3 (Nat.le_of_ble_eq_true rfl) (by decide) dX4_init_1 ?_
  refine aw_aload_n (i := 0) (q := 0) dX4_init_4 rfl rfl ?_
  refine aw_sipush (x := 300) dX4_init_5 rfl ?_
  refine aw_newI (n := 8) (z := 300) (ck := 0) (sk := 0) SH_9 (Nat.le_of_ble_eq_true rfl) (Nat.le_of_ble_eq_true rfl) dX4_init_8 ?_
  refine aw_putRk (n := 9) (r := 9) 0 flX4_9 SH_8 (by decide) rfl rfl rfl (fun q h => by cases h; rfl) rfl dX4_init_10 ?_
  refine aw_aload_n (i := 0) (q := 0) dX4_init_13 rfl rfl ?_
  refine aw_sipush (x := 300) dX4_init_14 rfl ?_
  refine aw_newI (n := 9) (z := 300) (ck := 1) (sk := 300) SH_10 (Nat.le_of_ble_eq_true rfl) (Nat.le_of_ble_eq_true rfl) dX4_init_17 ?_
  refine aw_putRk (n := 10) (r := 10) 1 flX4_15 SH_8 (by decide) rfl rfl rfl (fun q h => by cases h; rfl) rfl dX4_init_19 ?_
  refine aw_aload_n (i := 0) (q := 0) dX4_init_22 rfl rfl ?_
  refine aw_sipush (x := 300) dX4_init_23 rfl ?_
  refine aw_newI (n := 10) (z := 300) (ck := 2) (sk := 600) SH_11 (Nat.le_of_ble_eq_true rfl) (Nat.le_of_ble_eq_true rfl) dX4_init_26 ?_
  refine aw_putRk (n := 11) (r := 11) 2 flX4_18 SH_8 (by decide) rfl rfl rfl (fun q h => by cases h; rfl) rfl dX4_init_28 ?_
  refine aw_aload_n (i := 0) (q := 0) dX4_init_31 rfl rfl ?_
  refine aw_bipush (x := 51) dX4_init_32 rfl ?_
  refine aw_newI (n := 11) (z := 51) (ck := 3) (sk := 900) SH_12 (Nat.le_of_ble_eq_true rfl) (Nat.le_of_ble_eq_true rfl) dX4_init_34 ?_
  refine aw_putRk (n := 12) (r := 12) 3 flX4_21 SH_8 (by decide) rfl rfl rfl (fun q h => by cases h; rfl) rfl dX4_init_36 ?_
  refine aw_aload_n (i := 0) (q := 0) dX4_init_39 rfl rfl ?_
  refine aw_iconst dX4_init_40 ?_
  refine aw_putIk (n := 12) 4 flX4_24 SH_8 (by decide) rfl rfl rfl (by decide) dX4_init_41 ?_
  exact aw_vret ⟨rfl, rfl, rfl, rfl⟩ (Nat.le_refl _) (Nat.le_refl _) dX4_init_44
theorem i_13 {mi : aM} {mr : aR} : SP yX4_init cX4_init 1 none 1 4 951 13 [.ref 13] mi mr (fun v n' m' r' => v = none ∧ n' = 17 ∧ m' = (aup mi 13 4 0) ∧ r' = (aup (aup (aup (aup mr 13 0 (some 14)) 13 1 (some 15)) 13 2 (some 16)) 13 3 (some 17))) := by
  refine SP.of true rfl (fun _ => rfl) (by decide +kernel) (Nat.le_of_ble_eq_true rfl) (Or.inr (Or.inr ⟨rfl, fun _ _ _ _ h => by cases h.1⟩)) ?_
  show AW RX4 cX4_init 1 1 true 4 951 none _ 13 0 [(0, .ref 13)] [] mi mr 0 0
  refine aw_aload_n (i := 0) (q := 0) dX4_init_0 rfl rfl ?_
  refine aw_obj (n := 13) (a := 13) obX4_3 (Nat.le_of_ble_eq_true rfl) (by decide) dX4_init_1 ?_
  refine aw_aload_n (i := 0) (q := 0) dX4_init_4 rfl rfl ?_
  refine aw_sipush (x := 300) dX4_init_5 rfl ?_
  refine aw_newI (n := 13) (z := 300) (ck := 0) (sk := 0) SH_14 (Nat.le_of_ble_eq_true rfl) (Nat.le_of_ble_eq_true rfl) dX4_init_8 ?_
  refine aw_putRk (n := 14) (r := 14) 0 flX4_9 SH_13 (by decide) rfl rfl rfl (fun q h => by cases h; rfl) rfl dX4_init_10 ?_
  refine aw_aload_n (i := 0) (q := 0) dX4_init_13 rfl rfl ?_
  refine aw_sipush (x := 300) dX4_init_14 rfl ?_
  refine aw_newI (n := 14) (z := 300) (ck := 1) (sk := 300) SH_15 (Nat.le_of_ble_eq_true rfl) (Nat.le_of_ble_eq_true rfl) dX4_init_17 ?_
  refine aw_putRk (n := 15) (r := 15) 1 flX4_15 SH_13 (by decide) rfl rfl rfl (fun q h => by cases h; rfl) rfl dX4_init_19 ?_
  refine aw_aload_n (i := 0) (q := 0) dX4_init_22 rfl rfl ?_
  refine aw_sipush (x := 300) dX4_init_23 rfl ?_
  refine aw_newI (n := 15) (z := 300) (ck := 2) (sk := 600) SH_16 (Nat.le_of_ble_eq_true rfl) (Nat.le_of_ble_eq_true rfl) dX4_init_26 ?_
  refine aw_putRk (n := 16) (r := 16) 2 flX4_18 SH_13 (by decide) rfl rfl rfl (fun q h => by cases h; rfl) rfl dX4_init_28 ?_
  refine aw_aload_n (i := 0) (q := 0) dX4_init_31 rfl rfl ?_
  refine aw_bipush (x := 51) dX4_init_32 rfl ?_
  refine aw_newI (n := 16) (z := 51) (ck := 3) (sk := 900) SH_17 (Nat.le_of_ble_eq_true rfl) (Nat.le_of_ble_eq_true rfl) dX4_init_34 ?_
  refine aw_putRk (n := 17) (r := 17) 3 flX4_21 SH_13 (by decide) rfl rfl rfl (fun q h => by cases h; rfl) rfl dX4_init_36 ?_
  refine aw_aload_n (i := 0) (q := 0) dX4_init_39 rfl rfl ?_
  refine aw_iconst dX4_init_40 ?_
  refine aw_putIk (n := 17) 4 flX4_24 SH_13 (by decide) rfl rfl rfl (by decide) dX4_init_41 ?_
  exact aw_vret ⟨rfl, rfl, rfl, rfl⟩ (Nat.le_refl _) (Nat.le_refl _) dX4_init_44
theorem i_18 {mi : aM} {mr : aR} : SP yX3_init cX3_init 1 none 1 4 406 18 [.ref 18] mi mr (fun v n' m' r' => v = none ∧ n' = 22 ∧ m' = (aup (aup (aup (aup (aup (aup (aup mi 18 1 0) 18 3 0) 18 4 0) 18 5 (-1)) 18 6 0) 18 7 0) 18 8 0) ∧ r' = (aup (aup (aup (aup mr 18 0 (some 19)) 18 2 (some 20)) 18 9 (some 21)) 18 10 (some 22))) := by
  refine SP.of true rfl (fun _ => rfl) (by decide +kernel) (Nat.le_of_ble_eq_true rfl) (Or.inr (Or.inr ⟨rfl, fun _ _ _ _ h => by cases h.1⟩)) ?_
  show AW RX3 cX3_init 1 1 true 4 406 none _ 18 0 [(0, .ref 18)] [] mi mr 0 0
  refine aw_aload_n (i := 0) (q := 0) dX3_init_0 rfl rfl ?_
  refine aw_obj (n := 18) (a := 18) obX3_3 (Nat.le_of_ble_eq_true rfl) (by decide) dX3_init_1 ?_
  refine aw_aload_n (i := 0) (q := 0) dX3_init_4 rfl rfl ?_
  refine aw_sipush (x := 300) dX3_init_5 rfl ?_
  refine aw_newI (n := 18) (z := 300) (ck := 0) (sk := 0) SH_19 (Nat.le_of_ble_eq_true rfl) (Nat.le_of_ble_eq_true rfl) dX3_init_8 ?_
  refine aw_putRk (n := 19) (r := 19) 0 flX3_9 SH_18 (by decide) rfl rfl rfl (fun q h => by cases h; rfl) rfl dX3_init_10 ?_
  refine aw_aload_n (i := 0) (q := 0) dX3_init_13 rfl rfl ?_
  refine aw_iconst dX3_init_14 ?_
  refine aw_putIk (n := 19) 1 flX3_15 SH_18 (by decide) rfl rfl rfl (by decide) dX3_init_15 ?_
  refine aw_aload_n (i := 0) (q := 0) dX3_init_18 rfl rfl ?_
  refine aw_bipush (x := 100) dX3_init_19 rfl ?_
  refine aw_newI (n := 19) (z := 100) (ck := 1) (sk := 300) SH_20 (Nat.le_of_ble_eq_true rfl) (Nat.le_of_ble_eq_true rfl) dX3_init_21 ?_
  refine aw_putRk (n := 20) (r := 20) 2 flX3_19 SH_18 (by decide) rfl rfl rfl (fun q h => by cases h; rfl) rfl dX3_init_23 ?_
  refine aw_aload_n (i := 0) (q := 0) dX3_init_26 rfl rfl ?_
  refine aw_iconst dX3_init_27 ?_
  refine aw_putIk (n := 20) 3 flX3_22 SH_18 (by decide) rfl rfl rfl (by decide) dX3_init_28 ?_
  refine aw_aload_n (i := 0) (q := 0) dX3_init_31 rfl rfl ?_
  refine aw_iconst dX3_init_32 ?_
  refine aw_putIk (n := 20) 4 flX3_25 SH_18 (by decide) rfl rfl rfl (by decide) dX3_init_33 ?_
  refine aw_aload_n (i := 0) (q := 0) dX3_init_36 rfl rfl ?_
  refine aw_iconst dX3_init_37 ?_
  refine aw_putIk (n := 20) 5 flX3_28 SH_18 (by decide) rfl rfl rfl (by decide) dX3_init_38 ?_
  refine aw_aload_n (i := 0) (q := 0) dX3_init_41 rfl rfl ?_
  refine aw_iconst dX3_init_42 ?_
  refine aw_putIk (n := 20) 6 flX3_31 SH_18 (by decide) rfl rfl rfl (by decide) dX3_init_43 ?_
  refine aw_aload_n (i := 0) (q := 0) dX3_init_46 rfl rfl ?_
  refine aw_iconst dX3_init_47 ?_
  refine aw_putIk (n := 20) 7 flX3_34 SH_18 (by decide) rfl rfl rfl (by decide) dX3_init_48 ?_
  refine aw_aload_n (i := 0) (q := 0) dX3_init_51 rfl rfl ?_
  refine aw_iconst dX3_init_52 ?_
  refine aw_putIk (n := 20) 8 flX3_37 SH_18 (by decide) rfl rfl rfl (by decide) dX3_init_53 ?_
  refine aw_aload_n (i := 0) (q := 0) dX3_init_56 rfl rfl ?_
  refine aw_iconst dX3_init_57 ?_
  refine aw_newI (n := 20) (z := 3) (ck := 2) (sk := 400) SH_21 (Nat.le_of_ble_eq_true rfl) (Nat.le_of_ble_eq_true rfl) dX3_init_58 ?_
  refine aw_putRk (n := 21) (r := 21) 9 flX3_40 SH_18 (by decide) rfl rfl rfl (fun q h => by cases h; rfl) rfl dX3_init_60 ?_
  refine aw_aload_n (i := 0) (q := 0) dX3_init_63 rfl rfl ?_
  refine aw_iconst dX3_init_64 ?_
  refine aw_newI (n := 21) (z := 3) (ck := 3) (sk := 403) SH_22 (Nat.le_of_ble_eq_true rfl) (Nat.le_of_ble_eq_true rfl) dX3_init_65 ?_
  refine aw_putRk (n := 22) (r := 22) 10 flX3_43 SH_18 (by decide) rfl rfl rfl (fun q h => by cases h; rfl) rfl dX3_init_67 ?_
  exact aw_vret ⟨rfl, rfl, rfl, rfl⟩ (Nat.le_refl _) (Nat.le_refl _) dX3_init_70
theorem i_28 {mi : aM} {mr : aR} : SP yX0_init cX0_init 1 none 1 0 0 28 [.ref 28] mi mr (fun v n' m' r' => v = none ∧ n' = 28 ∧ m' = (aup (aup (aup (aup (aup (aup (aup (aup (aup (aup (aup (aup mi 28 0 1) 28 1 0) 28 2 1) 28 3 10) 28 4 0) 28 5 0) 28 6 0) 28 7 0) 28 8 0) 28 9 1) 28 10 0) 28 11 0) ∧ r' = mr) := by
  refine SP.of true rfl (fun _ => rfl) (by decide +kernel) (Nat.le_of_ble_eq_true rfl) (Or.inr (Or.inr ⟨rfl, fun _ _ _ _ h => by cases h.1⟩)) ?_
  show AW RX0 cX0_init 1 1 true 0 0 none _ 28 0 [(0, .ref 28)] [] mi mr 0 0
  refine aw_aload_n (i := 0) (q := 0) dX0_init_0 rfl rfl ?_
  refine aw_obj (n := 28) (a := 28) obX0_3 (Nat.le_of_ble_eq_true rfl) (by decide) dX0_init_1 ?_
  refine aw_aload_n (i := 0) (q := 0) dX0_init_4 rfl rfl ?_
  refine aw_iconst dX0_init_5 ?_
  refine aw_putIk (n := 28) 0 flX0_9 SH_28 (by decide) rfl rfl rfl (by decide) dX0_init_6 ?_
  refine aw_aload_n (i := 0) (q := 0) dX0_init_9 rfl rfl ?_
  refine aw_iconst dX0_init_10 ?_
  refine aw_putIk (n := 28) 1 flX0_15 SH_28 (by decide) rfl rfl rfl (by decide) dX0_init_11 ?_
  refine aw_aload_n (i := 0) (q := 0) dX0_init_14 rfl rfl ?_
  refine aw_iconst dX0_init_15 ?_
  refine aw_putIk (n := 28) 2 flX0_18 SH_28 (by decide) rfl rfl rfl (by decide) dX0_init_16 ?_
  refine aw_aload_n (i := 0) (q := 0) dX0_init_19 rfl rfl ?_
  refine aw_bipush (x := 10) dX0_init_20 rfl ?_
  refine aw_putIk (n := 28) 3 flX0_21 SH_28 (by decide) rfl rfl rfl (by decide) dX0_init_22 ?_
  refine aw_aload_n (i := 0) (q := 0) dX0_init_25 rfl rfl ?_
  refine aw_iconst dX0_init_26 ?_
  refine aw_putIk (n := 28) 4 flX0_24 SH_28 (by decide) rfl rfl rfl (by decide) dX0_init_27 ?_
  refine aw_aload_n (i := 0) (q := 0) dX0_init_30 rfl rfl ?_
  refine aw_iconst dX0_init_31 ?_
  refine aw_putZk (n := 28) 5 flX0_27 SH_28 (by decide) rfl rfl rfl (by decide) dX0_init_32 ?_
  refine aw_aload_n (i := 0) (q := 0) dX0_init_35 rfl rfl ?_
  refine aw_iconst dX0_init_36 ?_
  refine aw_putZk (n := 28) 6 flX0_31 SH_28 (by decide) rfl rfl rfl (by decide) dX0_init_37 ?_
  refine aw_aload_n (i := 0) (q := 0) dX0_init_40 rfl rfl ?_
  refine aw_iconst dX0_init_41 ?_
  refine aw_putZk (n := 28) 7 flX0_34 SH_28 (by decide) rfl rfl rfl (by decide) dX0_init_42 ?_
  refine aw_aload_n (i := 0) (q := 0) dX0_init_45 rfl rfl ?_
  refine aw_iconst dX0_init_46 ?_
  refine aw_putIk (n := 28) 8 flX0_37 SH_28 (by decide) rfl rfl rfl (by decide) dX0_init_47 ?_
  refine aw_aload_n (i := 0) (q := 0) dX0_init_50 rfl rfl ?_
  refine aw_iconst dX0_init_51 ?_
  refine aw_putIk (n := 28) 9 flX0_40 SH_28 (by decide) rfl rfl rfl (by decide) dX0_init_52 ?_
  refine aw_aload_n (i := 0) (q := 0) dX0_init_55 rfl rfl ?_
  refine aw_iconst dX0_init_56 ?_
  refine aw_putIk (n := 28) 10 flX0_43 SH_28 (by decide) rfl rfl rfl (by decide) dX0_init_57 ?_
  refine aw_aload_n (i := 0) (q := 0) dX0_init_60 rfl rfl ?_
  refine aw_iconst dX0_init_61 ?_
  refine aw_putIk (n := 28) 11 flX0_46 SH_28 (by decide) rfl rfl rfl (by decide) dX0_init_62 ?_
  exact aw_vret ⟨rfl, rfl, rfl, rfl⟩ (Nat.le_refl _) (Nat.le_refl _) dX0_init_65
theorem i_29 {mi : aM} {mr : aR} : SP yX0_init cX0_init 1 none 1 0 0 29 [.ref 29] mi mr (fun v n' m' r' => v = none ∧ n' = 29 ∧ m' = (aup (aup (aup (aup (aup (aup (aup (aup (aup (aup (aup (aup mi 29 0 1) 29 1 0) 29 2 1) 29 3 10) 29 4 0) 29 5 0) 29 6 0) 29 7 0) 29 8 0) 29 9 1) 29 10 0) 29 11 0) ∧ r' = mr) := by
  refine SP.of true rfl (fun _ => rfl) (by decide +kernel) (Nat.le_of_ble_eq_true rfl) (Or.inr (Or.inr ⟨rfl, fun _ _ _ _ h => by cases h.1⟩)) ?_
  show AW RX0 cX0_init 1 1 true 0 0 none _ 29 0 [(0, .ref 29)] [] mi mr 0 0
  refine aw_aload_n (i := 0) (q := 0) dX0_init_0 rfl rfl ?_
  refine aw_obj (n := 29) (a := 29) obX0_3 (Nat.le_of_ble_eq_true rfl) (by decide) dX0_init_1 ?_
  refine aw_aload_n (i := 0) (q := 0) dX0_init_4 rfl rfl ?_
  refine aw_iconst dX0_init_5 ?_
  refine aw_putIk (n := 29) 0 flX0_9 SH_29 (by decide) rfl rfl rfl (by decide) dX0_init_6 ?_
  refine aw_aload_n (i := 0) (q := 0) dX0_init_9 rfl rfl ?_
  refine aw_iconst dX0_init_10 ?_
  refine aw_putIk (n := 29) 1 flX0_15 SH_29 (by decide) rfl rfl rfl (by decide) dX0_init_11 ?_
  refine aw_aload_n (i := 0) (q := 0) dX0_init_14 rfl rfl ?_
  refine aw_iconst dX0_init_15 ?_
  refine aw_putIk (n := 29) 2 flX0_18 SH_29 (by decide) rfl rfl rfl (by decide) dX0_init_16 ?_
  refine aw_aload_n (i := 0) (q := 0) dX0_init_19 rfl rfl ?_
  refine aw_bipush (x := 10) dX0_init_20 rfl ?_
  refine aw_putIk (n := 29) 3 flX0_21 SH_29 (by decide) rfl rfl rfl (by decide) dX0_init_22 ?_
  refine aw_aload_n (i := 0) (q := 0) dX0_init_25 rfl rfl ?_
  refine aw_iconst dX0_init_26 ?_
  refine aw_putIk (n := 29) 4 flX0_24 SH_29 (by decide) rfl rfl rfl (by decide) dX0_init_27 ?_
  refine aw_aload_n (i := 0) (q := 0) dX0_init_30 rfl rfl ?_
  refine aw_iconst dX0_init_31 ?_
  refine aw_putZk (n := 29) 5 flX0_27 SH_29 (by decide) rfl rfl rfl (by decide) dX0_init_32 ?_
  refine aw_aload_n (i := 0) (q := 0) dX0_init_35 rfl rfl ?_
  refine aw_iconst dX0_init_36 ?_
  refine aw_putZk (n := 29) 6 flX0_31 SH_29 (by decide) rfl rfl rfl (by decide) dX0_init_37 ?_
  refine aw_aload_n (i := 0) (q := 0) dX0_init_40 rfl rfl ?_
  refine aw_iconst dX0_init_41 ?_
  refine aw_putZk (n := 29) 7 flX0_34 SH_29 (by decide) rfl rfl rfl (by decide) dX0_init_42 ?_
  refine aw_aload_n (i := 0) (q := 0) dX0_init_45 rfl rfl ?_
  refine aw_iconst dX0_init_46 ?_
  refine aw_putIk (n := 29) 8 flX0_37 SH_29 (by decide) rfl rfl rfl (by decide) dX0_init_47 ?_
  refine aw_aload_n (i := 0) (q := 0) dX0_init_50 rfl rfl ?_
  refine aw_iconst dX0_init_51 ?_
  refine aw_putIk (n := 29) 9 flX0_40 SH_29 (by decide) rfl rfl rfl (by decide) dX0_init_52 ?_
  refine aw_aload_n (i := 0) (q := 0) dX0_init_55 rfl rfl ?_
  refine aw_iconst dX0_init_56 ?_
  refine aw_putIk (n := 29) 10 flX0_43 SH_29 (by decide) rfl rfl rfl (by decide) dX0_init_57 ?_
  refine aw_aload_n (i := 0) (q := 0) dX0_init_60 rfl rfl ?_
  refine aw_iconst dX0_init_61 ?_
  refine aw_putIk (n := 29) 11 flX0_46 SH_29 (by decide) rfl rfl rfl (by decide) dX0_init_62 ?_
  exact aw_vret ⟨rfl, rfl, rfl, rfl⟩ (Nat.le_refl _) (Nat.le_refl _) dX0_init_65
theorem i_30 {mi : aM} {mr : aR} : SP yX0_init cX0_init 1 none 1 0 0 30 [.ref 30] mi mr (fun v n' m' r' => v = none ∧ n' = 30 ∧ m' = (aup (aup (aup (aup (aup (aup (aup (aup (aup (aup (aup (aup mi 30 0 1) 30 1 0) 30 2 1) 30 3 10) 30 4 0) 30 5 0) 30 6 0) 30 7 0) 30 8 0) 30 9 1) 30 10 0) 30 11 0) ∧ r' = mr) := by
  refine SP.of true rfl (fun _ => rfl) (by decide +kernel) (Nat.le_of_ble_eq_true rfl) (Or.inr (Or.inr ⟨rfl, fun _ _ _ _ h => by cases h.1⟩)) ?_
  show AW RX0 cX0_init 1 1 true 0 0 none _ 30 0 [(0, .ref 30)] [] mi mr 0 0
  refine aw_aload_n (i := 0) (q := 0) dX0_init_0 rfl rfl ?_
  refine aw_obj (n := 30) (a := 30) obX0_3 (Nat.le_of_ble_eq_true rfl) (by decide) dX0_init_1 ?_
  refine aw_aload_n (i := 0) (q := 0) dX0_init_4 rfl rfl ?_
  refine aw_iconst dX0_init_5 ?_
  refine aw_putIk (n := 30) 0 flX0_9 SH_30 (by decide) rfl rfl rfl (by decide) dX0_init_6 ?_
  refine aw_aload_n (i := 0) (q := 0) dX0_init_9 rfl rfl ?_
  refine aw_iconst dX0_init_10 ?_
  refine aw_putIk (n := 30) 1 flX0_15 SH_30 (by decide) rfl rfl rfl (by decide) dX0_init_11 ?_
  refine aw_aload_n (i := 0) (q := 0) dX0_init_14 rfl rfl ?_
  refine aw_iconst dX0_init_15 ?_
  refine aw_putIk (n := 30) 2 flX0_18 SH_30 (by decide) rfl rfl rfl (by decide) dX0_init_16 ?_
  refine aw_aload_n (i := 0) (q := 0) dX0_init_19 rfl rfl ?_
  refine aw_bipush (x := 10) dX0_init_20 rfl ?_
  refine aw_putIk (n := 30) 3 flX0_21 SH_30 (by decide) rfl rfl rfl (by decide) dX0_init_22 ?_
  refine aw_aload_n (i := 0) (q := 0) dX0_init_25 rfl rfl ?_
  refine aw_iconst dX0_init_26 ?_
  refine aw_putIk (n := 30) 4 flX0_24 SH_30 (by decide) rfl rfl rfl (by decide) dX0_init_27 ?_
  refine aw_aload_n (i := 0) (q := 0) dX0_init_30 rfl rfl ?_
  refine aw_iconst dX0_init_31 ?_
  refine aw_putZk (n := 30) 5 flX0_27 SH_30 (by decide) rfl rfl rfl (by decide) dX0_init_32 ?_
  refine aw_aload_n (i := 0) (q := 0) dX0_init_35 rfl rfl ?_
  refine aw_iconst dX0_init_36 ?_
  refine aw_putZk (n := 30) 6 flX0_31 SH_30 (by decide) rfl rfl rfl (by decide) dX0_init_37 ?_
  refine aw_aload_n (i := 0) (q := 0) dX0_init_40 rfl rfl ?_
  refine aw_iconst dX0_init_41 ?_
  refine aw_putZk (n := 30) 7 flX0_34 SH_30 (by decide) rfl rfl rfl (by decide) dX0_init_42 ?_
  refine aw_aload_n (i := 0) (q := 0) dX0_init_45 rfl rfl ?_
  refine aw_iconst dX0_init_46 ?_
  refine aw_putIk (n := 30) 8 flX0_37 SH_30 (by decide) rfl rfl rfl (by decide) dX0_init_47 ?_
  refine aw_aload_n (i := 0) (q := 0) dX0_init_50 rfl rfl ?_
  refine aw_iconst dX0_init_51 ?_
  refine aw_putIk (n := 30) 9 flX0_40 SH_30 (by decide) rfl rfl rfl (by decide) dX0_init_52 ?_
  refine aw_aload_n (i := 0) (q := 0) dX0_init_55 rfl rfl ?_
  refine aw_iconst dX0_init_56 ?_
  refine aw_putIk (n := 30) 10 flX0_43 SH_30 (by decide) rfl rfl rfl (by decide) dX0_init_57 ?_
  refine aw_aload_n (i := 0) (q := 0) dX0_init_60 rfl rfl ?_
  refine aw_iconst dX0_init_61 ?_
  refine aw_putIk (n := 30) 11 flX0_46 SH_30 (by decide) rfl rfl rfl (by decide) dX0_init_62 ?_
  exact aw_vret ⟨rfl, rfl, rfl, rfl⟩ (Nat.le_refl _) (Nat.le_refl _) dX0_init_65
theorem i_31 {mi : aM} {mr : aR} : SP yX0_init cX0_init 1 none 1 0 0 31 [.ref 31] mi mr (fun v n' m' r' => v = none ∧ n' = 31 ∧ m' = (aup (aup (aup (aup (aup (aup (aup (aup (aup (aup (aup (aup mi 31 0 1) 31 1 0) 31 2 1) 31 3 10) 31 4 0) 31 5 0) 31 6 0) 31 7 0) 31 8 0) 31 9 1) 31 10 0) 31 11 0) ∧ r' = mr) := by
  refine SP.of true rfl (fun _ => rfl) (by decide +kernel) (Nat.le_of_ble_eq_true rfl) (Or.inr (Or.inr ⟨rfl, fun _ _ _ _ h => by cases h.1⟩)) ?_
  show AW RX0 cX0_init 1 1 true 0 0 none _ 31 0 [(0, .ref 31)] [] mi mr 0 0
  refine aw_aload_n (i := 0) (q := 0) dX0_init_0 rfl rfl ?_
  refine aw_obj (n := 31) (a := 31) obX0_3 (Nat.le_of_ble_eq_true rfl) (by decide) dX0_init_1 ?_
  refine aw_aload_n (i := 0) (q := 0) dX0_init_4 rfl rfl ?_
  refine aw_iconst dX0_init_5 ?_
  refine aw_putIk (n := 31) 0 flX0_9 SH_31 (by decide) rfl rfl rfl (by decide) dX0_init_6 ?_
  refine aw_aload_n (i := 0) (q := 0) dX0_init_9 rfl rfl ?_
  refine aw_iconst dX0_init_10 ?_
  refine aw_putIk (n := 31) 1 flX0_15 SH_31 (by decide) rfl rfl rfl (by decide) dX0_init_11 ?_
  refine aw_aload_n (i := 0) (q := 0) dX0_init_14 rfl rfl ?_
  refine aw_iconst dX0_init_15 ?_
  refine aw_putIk (n := 31) 2 flX0_18 SH_31 (by decide) rfl rfl rfl (by decide) dX0_init_16 ?_
  refine aw_aload_n (i := 0) (q := 0) dX0_init_19 rfl rfl ?_
  refine aw_bipush (x := 10) dX0_init_20 rfl ?_
  refine aw_putIk (n := 31) 3 flX0_21 SH_31 (by decide) rfl rfl rfl (by decide) dX0_init_22 ?_
  refine aw_aload_n (i := 0) (q := 0) dX0_init_25 rfl rfl ?_
  refine aw_iconst dX0_init_26 ?_
  refine aw_putIk (n := 31) 4 flX0_24 SH_31 (by decide) rfl rfl rfl (by decide) dX0_init_27 ?_
  refine aw_aload_n (i := 0) (q := 0) dX0_init_30 rfl rfl ?_
  refine aw_iconst dX0_init_31 ?_
  refine aw_putZk (n := 31) 5 flX0_27 SH_31 (by decide) rfl rfl rfl (by decide) dX0_init_32 ?_
  refine aw_aload_n (i := 0) (q := 0) dX0_init_35 rfl rfl ?_
  refine aw_iconst dX0_init_36 ?_
  refine aw_putZk (n := 31) 6 flX0_31 SH_31 (by decide) rfl rfl rfl (by decide) dX0_init_37 ?_
  refine aw_aload_n (i := 0) (q := 0) dX0_init_40 rfl rfl ?_
  refine aw_iconst dX0_init_41 ?_
  refine aw_putZk (n := 31) 7 flX0_34 SH_31 (by decide) rfl rfl rfl (by decide) dX0_init_42 ?_
  refine aw_aload_n (i := 0) (q := 0) dX0_init_45 rfl rfl ?_
  refine aw_iconst dX0_init_46 ?_
  refine aw_putIk (n := 31) 8 flX0_37 SH_31 (by decide) rfl rfl rfl (by decide) dX0_init_47 ?_
  refine aw_aload_n (i := 0) (q := 0) dX0_init_50 rfl rfl ?_
  refine aw_iconst dX0_init_51 ?_
  refine aw_putIk (n := 31) 9 flX0_40 SH_31 (by decide) rfl rfl rfl (by decide) dX0_init_52 ?_
  refine aw_aload_n (i := 0) (q := 0) dX0_init_55 rfl rfl ?_
  refine aw_iconst dX0_init_56 ?_
  refine aw_putIk (n := 31) 10 flX0_43 SH_31 (by decide) rfl rfl rfl (by decide) dX0_init_57 ?_
  refine aw_aload_n (i := 0) (q := 0) dX0_init_60 rfl rfl ?_
  refine aw_iconst dX0_init_61 ?_
  refine aw_putIk (n := 31) 11 flX0_46 SH_31 (by decide) rfl rfl rfl (by decide) dX0_init_62 ?_
  exact aw_vret ⟨rfl, rfl, rfl, rfl⟩ (Nat.le_refl _) (Nat.le_refl _) dX0_init_65
theorem i_32 {mi : aM} {mr : aR} : SP yX0_init cX0_init 1 none 1 0 0 32 [.ref 32] mi mr (fun v n' m' r' => v = none ∧ n' = 32 ∧ m' = (aup (aup (aup (aup (aup (aup (aup (aup (aup (aup (aup (aup mi 32 0 1) 32 1 0) 32 2 1) 32 3 10) 32 4 0) 32 5 0) 32 6 0) 32 7 0) 32 8 0) 32 9 1) 32 10 0) 32 11 0) ∧ r' = mr) := by
  refine SP.of true rfl (fun _ => rfl) (by decide +kernel) (Nat.le_of_ble_eq_true rfl) (Or.inr (Or.inr ⟨rfl, fun _ _ _ _ h => by cases h.1⟩)) ?_
  show AW RX0 cX0_init 1 1 true 0 0 none _ 32 0 [(0, .ref 32)] [] mi mr 0 0
  refine aw_aload_n (i := 0) (q := 0) dX0_init_0 rfl rfl ?_
  refine aw_obj (n := 32) (a := 32) obX0_3 (Nat.le_of_ble_eq_true rfl) (by decide) dX0_init_1 ?_
  refine aw_aload_n (i := 0) (q := 0) dX0_init_4 rfl rfl ?_
  refine aw_iconst dX0_init_5 ?_
  refine aw_putIk (n := 32) 0 flX0_9 SH_32 (by decide) rfl rfl rfl (by decide) dX0_init_6 ?_
  refine aw_aload_n (i := 0) (q := 0) dX0_init_9 rfl rfl ?_
  refine aw_iconst dX0_init_10 ?_
  refine aw_putIk (n := 32) 1 flX0_15 SH_32 (by decide) rfl rfl rfl (by decide) dX0_init_11 ?_
  refine aw_aload_n (i := 0) (q := 0) dX0_init_14 rfl rfl ?_
  refine aw_iconst dX0_init_15 ?_
  refine aw_putIk (n := 32) 2 flX0_18 SH_32 (by decide) rfl rfl rfl (by decide) dX0_init_16 ?_
  refine aw_aload_n (i := 0) (q := 0) dX0_init_19 rfl rfl ?_
  refine aw_bipush (x := 10) dX0_init_20 rfl ?_
  refine aw_putIk (n := 32) 3 flX0_21 SH_32 (by decide) rfl rfl rfl (by decide) dX0_init_22 ?_
  refine aw_aload_n (i := 0) (q := 0) dX0_init_25 rfl rfl ?_
  refine aw_iconst dX0_init_26 ?_
  refine aw_putIk (n := 32) 4 flX0_24 SH_32 (by decide) rfl rfl rfl (by decide) dX0_init_27 ?_
  refine aw_aload_n (i := 0) (q := 0) dX0_init_30 rfl rfl ?_
  refine aw_iconst dX0_init_31 ?_
  refine aw_putZk (n := 32) 5 flX0_27 SH_32 (by decide) rfl rfl rfl (by decide) dX0_init_32 ?_
  refine aw_aload_n (i := 0) (q := 0) dX0_init_35 rfl rfl ?_
  refine aw_iconst dX0_init_36 ?_
  refine aw_putZk (n := 32) 6 flX0_31 SH_32 (by decide) rfl rfl rfl (by decide) dX0_init_37 ?_
  refine aw_aload_n (i := 0) (q := 0) dX0_init_40 rfl rfl ?_
  refine aw_iconst dX0_init_41 ?_
  refine aw_putZk (n := 32) 7 flX0_34 SH_32 (by decide) rfl rfl rfl (by decide) dX0_init_42 ?_
  refine aw_aload_n (i := 0) (q := 0) dX0_init_45 rfl rfl ?_
  refine aw_iconst dX0_init_46 ?_
  refine aw_putIk (n := 32) 8 flX0_37 SH_32 (by decide) rfl rfl rfl (by decide) dX0_init_47 ?_
  refine aw_aload_n (i := 0) (q := 0) dX0_init_50 rfl rfl ?_
  refine aw_iconst dX0_init_51 ?_
  refine aw_putIk (n := 32) 9 flX0_40 SH_32 (by decide) rfl rfl rfl (by decide) dX0_init_52 ?_
  refine aw_aload_n (i := 0) (q := 0) dX0_init_55 rfl rfl ?_
  refine aw_iconst dX0_init_56 ?_
  refine aw_putIk (n := 32) 10 flX0_43 SH_32 (by decide) rfl rfl rfl (by decide) dX0_init_57 ?_
  refine aw_aload_n (i := 0) (q := 0) dX0_init_60 rfl rfl ?_
  refine aw_iconst dX0_init_61 ?_
  refine aw_putIk (n := 32) 11 flX0_46 SH_32 (by decide) rfl rfl rfl (by decide) dX0_init_62 ?_
  exact aw_vret ⟨rfl, rfl, rfl, rfl⟩ (Nat.le_refl _) (Nat.le_refl _) dX0_init_65
theorem i_33 {mi : aM} {mr : aR} : SP yX0_init cX0_init 1 none 1 0 0 33 [.ref 33] mi mr (fun v n' m' r' => v = none ∧ n' = 33 ∧ m' = (aup (aup (aup (aup (aup (aup (aup (aup (aup (aup (aup (aup mi 33 0 1) 33 1 0) 33 2 1) 33 3 10) 33 4 0) 33 5 0) 33 6 0) 33 7 0) 33 8 0) 33 9 1) 33 10 0) 33 11 0) ∧ r' = mr) := by
  refine SP.of true rfl (fun _ => rfl) (by decide +kernel) (Nat.le_of_ble_eq_true rfl) (Or.inr (Or.inr ⟨rfl, fun _ _ _ _ h => by cases h.1⟩)) ?_
  show AW RX0 cX0_init 1 1 true 0 0 none _ 33 0 [(0, .ref 33)] [] mi mr 0 0
  refine aw_aload_n (i := 0) (q := 0) dX0_init_0 rfl rfl ?_
  refine aw_obj (n := 33) (a := 33) obX0_3 (Nat.le_of_ble_eq_true rfl) (by decide) dX0_init_1 ?_
  refine aw_aload_n (i := 0) (q := 0) dX0_init_4 rfl rfl ?_
  refine aw_iconst dX0_init_5 ?_
  refine aw_putIk (n := 33) 0 flX0_9 SH_33 (by decide) rfl rfl rfl (by decide) dX0_init_6 ?_
  refine aw_aload_n (i := 0) (q := 0) dX0_init_9 rfl rfl ?_
  refine aw_iconst dX0_init_10 ?_
  refine aw_putIk (n := 33) 1 flX0_15 SH_33 (by decide) rfl rfl rfl (by decide) dX0_init_11 ?_
  refine aw_aload_n (i := 0) (q := 0) dX0_init_14 rfl rfl ?_
  refine aw_iconst dX0_init_15 ?_
  refine aw_putIk (n := 33) 2 flX0_18 SH_33 (by decide) rfl rfl rfl (by decide) dX0_init_16 ?_
  refine aw_aload_n (i := 0) (q := 0) dX0_init_19 rfl rfl ?_
  refine aw_bipush (x := 10) dX0_init_20 rfl ?_
  refine aw_putIk (n := 33) 3 flX0_21 SH_33 (by decide) rfl rfl rfl (by decide) dX0_init_22 ?_
  refine aw_aload_n (i := 0) (q := 0) dX0_init_25 rfl rfl ?_
  refine aw_iconst dX0_init_26 ?_
  refine aw_putIk (n := 33) 4 flX0_24 SH_33 (by decide) rfl rfl rfl (by decide) dX0_init_27 ?_
  refine aw_aload_n (i := 0) (q := 0) dX0_init_30 rfl rfl ?_
  refine aw_iconst dX0_init_31 ?_
  refine aw_putZk (n := 33) 5 flX0_27 SH_33 (by decide) rfl rfl rfl (by decide) dX0_init_32 ?_
  refine aw_aload_n (i := 0) (q := 0) dX0_init_35 rfl rfl ?_
  refine aw_iconst dX0_init_36 ?_
  refine aw_putZk (n := 33) 6 flX0_31 SH_33 (by decide) rfl rfl rfl (by decide) dX0_init_37 ?_
  refine aw_aload_n (i := 0) (q := 0) dX0_init_40 rfl rfl ?_
  refine aw_iconst dX0_init_41 ?_
  refine aw_putZk (n := 33) 7 flX0_34 SH_33 (by decide) rfl rfl rfl (by decide) dX0_init_42 ?_
  refine aw_aload_n (i := 0) (q := 0) dX0_init_45 rfl rfl ?_
  refine aw_iconst dX0_init_46 ?_
  refine aw_putIk (n := 33) 8 flX0_37 SH_33 (by decide) rfl rfl rfl (by decide) dX0_init_47 ?_
  refine aw_aload_n (i := 0) (q := 0) dX0_init_50 rfl rfl ?_
  refine aw_iconst dX0_init_51 ?_
  refine aw_putIk (n := 33) 9 flX0_40 SH_33 (by decide) rfl rfl rfl (by decide) dX0_init_52 ?_
  refine aw_aload_n (i := 0) (q := 0) dX0_init_55 rfl rfl ?_
  refine aw_iconst dX0_init_56 ?_
  refine aw_putIk (n := 33) 10 flX0_43 SH_33 (by decide) rfl rfl rfl (by decide) dX0_init_57 ?_
  refine aw_aload_n (i := 0) (q := 0) dX0_init_60 rfl rfl ?_
  refine aw_iconst dX0_init_61 ?_
  refine aw_putIk (n := 33) 11 flX0_46 SH_33 (by decide) rfl rfl rfl (by decide) dX0_init_62 ?_
  exact aw_vret ⟨rfl, rfl, rfl, rfl⟩ (Nat.le_refl _) (Nat.le_refl _) dX0_init_65
theorem i_34 {mi : aM} {mr : aR} : SP yX0_init cX0_init 1 none 1 0 0 34 [.ref 34] mi mr (fun v n' m' r' => v = none ∧ n' = 34 ∧ m' = (aup (aup (aup (aup (aup (aup (aup (aup (aup (aup (aup (aup mi 34 0 1) 34 1 0) 34 2 1) 34 3 10) 34 4 0) 34 5 0) 34 6 0) 34 7 0) 34 8 0) 34 9 1) 34 10 0) 34 11 0) ∧ r' = mr) := by
  refine SP.of true rfl (fun _ => rfl) (by decide +kernel) (Nat.le_of_ble_eq_true rfl) (Or.inr (Or.inr ⟨rfl, fun _ _ _ _ h => by cases h.1⟩)) ?_
  show AW RX0 cX0_init 1 1 true 0 0 none _ 34 0 [(0, .ref 34)] [] mi mr 0 0
  refine aw_aload_n (i := 0) (q := 0) dX0_init_0 rfl rfl ?_
  refine aw_obj (n := 34) (a := 34) obX0_3 (Nat.le_of_ble_eq_true rfl) (by decide) dX0_init_1 ?_
  refine aw_aload_n (i := 0) (q := 0) dX0_init_4 rfl rfl ?_
  refine aw_iconst dX0_init_5 ?_
  refine aw_putIk (n := 34) 0 flX0_9 SH_34 (by decide) rfl rfl rfl (by decide) dX0_init_6 ?_
  refine aw_aload_n (i := 0) (q := 0) dX0_init_9 rfl rfl ?_
  refine aw_iconst dX0_init_10 ?_
  refine aw_putIk (n := 34) 1 flX0_15 SH_34 (by decide) rfl rfl rfl (by decide) dX0_init_11 ?_
  refine aw_aload_n (i := 0) (q := 0) dX0_init_14 rfl rfl ?_
  refine aw_iconst dX0_init_15 ?_
  refine aw_putIk (n := 34) 2 flX0_18 SH_34 (by decide) rfl rfl rfl (by decide) dX0_init_16 ?_
  refine aw_aload_n (i := 0) (q := 0) dX0_init_19 rfl rfl ?_
  refine aw_bipush (x := 10) dX0_init_20 rfl ?_
  refine aw_putIk (n := 34) 3 flX0_21 SH_34 (by decide) rfl rfl rfl (by decide) dX0_init_22 ?_
  refine aw_aload_n (i := 0) (q := 0) dX0_init_25 rfl rfl ?_
  refine aw_iconst dX0_init_26 ?_
  refine aw_putIk (n := 34) 4 flX0_24 SH_34 (by decide) rfl rfl rfl (by decide) dX0_init_27 ?_
  refine aw_aload_n (i := 0) (q := 0) dX0_init_30 rfl rfl ?_
  refine aw_iconst dX0_init_31 ?_
  refine aw_putZk (n := 34) 5 flX0_27 SH_34 (by decide) rfl rfl rfl (by decide) dX0_init_32 ?_
  refine aw_aload_n (i := 0) (q := 0) dX0_init_35 rfl rfl ?_
  refine aw_iconst dX0_init_36 ?_
  refine aw_putZk (n := 34) 6 flX0_31 SH_34 (by decide) rfl rfl rfl (by decide) dX0_init_37 ?_
  refine aw_aload_n (i := 0) (q := 0) dX0_init_40 rfl rfl ?_
  refine aw_iconst dX0_init_41 ?_
  refine aw_putZk (n := 34) 7 flX0_34 SH_34 (by decide) rfl rfl rfl (by decide) dX0_init_42 ?_
  refine aw_aload_n (i := 0) (q := 0) dX0_init_45 rfl rfl ?_
  refine aw_iconst dX0_init_46 ?_
  refine aw_putIk (n := 34) 8 flX0_37 SH_34 (by decide) rfl rfl rfl (by decide) dX0_init_47 ?_
  refine aw_aload_n (i := 0) (q := 0) dX0_init_50 rfl rfl ?_
  refine aw_iconst dX0_init_51 ?_
  refine aw_putIk (n := 34) 9 flX0_40 SH_34 (by decide) rfl rfl rfl (by decide) dX0_init_52 ?_
  refine aw_aload_n (i := 0) (q := 0) dX0_init_55 rfl rfl ?_
  refine aw_iconst dX0_init_56 ?_
  refine aw_putIk (n := 34) 10 flX0_43 SH_34 (by decide) rfl rfl rfl (by decide) dX0_init_57 ?_
  refine aw_aload_n (i := 0) (q := 0) dX0_init_60 rfl rfl ?_
  refine aw_iconst dX0_init_61 ?_
  refine aw_putIk (n := 34) 11 flX0_46 SH_34 (by decide) rfl rfl rfl (by decide) dX0_init_62 ?_
  exact aw_vret ⟨rfl, rfl, rfl, rfl⟩ (Nat.le_refl _) (Nat.le_refl _) dX0_init_65
theorem i_35 {mi : aM} {mr : aR} : SP yX0_init cX0_init 1 none 1 0 0 35 [.ref 35] mi mr (fun v n' m' r' => v = none ∧ n' = 35 ∧ m' = (aup (aup (aup (aup (aup (aup (aup (aup (aup (aup (aup (aup mi 35 0 1) 35 1 0) 35 2 1) 35 3 10) 35 4 0) 35 5 0) 35 6 0) 35 7 0) 35 8 0) 35 9 1) 35 10 0) 35 11 0) ∧ r' = mr) := by
  refine SP.of true rfl (fun _ => rfl) (by decide +kernel) (Nat.le_of_ble_eq_true rfl) (Or.inr (Or.inr ⟨rfl, fun _ _ _ _ h => by cases h.1⟩)) ?_
  show AW RX0 cX0_init 1 1 true 0 0 none _ 35 0 [(0, .ref 35)] [] mi mr 0 0
  refine aw_aload_n (i := 0) (q := 0) dX0_init_0 rfl rfl ?_
  refine aw_obj (n := 35) (a := 35) obX0_3 (Nat.le_of_ble_eq_true rfl) (by decide) dX0_init_1 ?_
  refine aw_aload_n (i := 0) (q := 0) dX0_init_4 rfl rfl ?_
  refine aw_iconst dX0_init_5 ?_
  refine aw_putIk (n := 35) 0 flX0_9 SH_35 (by decide) rfl rfl rfl (by decide) dX0_init_6 ?_
  refine aw_aload_n (i := 0) (q := 0) dX0_init_9 rfl rfl ?_
  refine aw_iconst dX0_init_10 ?_
  refine aw_putIk (n := 35) 1 flX0_15 SH_35 (by decide) rfl rfl rfl (by decide) dX0_init_11 ?_
  refine aw_aload_n (i := 0) (q := 0) dX0_init_14 rfl rfl ?_
  refine aw_iconst dX0_init_15 ?_
  refine aw_putIk (n := 35) 2 flX0_18 SH_35 (by decide) rfl rfl rfl (by decide) dX0_init_16 ?_
  refine aw_aload_n (i := 0) (q := 0) dX0_init_19 rfl rfl ?_
  refine aw_bipush (x := 10) dX0_init_20 rfl ?_
  refine aw_putIk (n := 35) 3 flX0_21 SH_35 (by decide) rfl rfl rfl (by decide) dX0_init_22 ?_
  refine aw_aload_n (i := 0) (q := 0) dX0_init_25 rfl rfl ?_
  refine aw_iconst dX0_init_26 ?_
  refine aw_putIk (n := 35) 4 flX0_24 SH_35 (by decide) rfl rfl rfl (by decide) dX0_init_27 ?_
  refine aw_aload_n (i := 0) (q := 0) dX0_init_30 rfl rfl ?_
  refine aw_iconst dX0_init_31 ?_
  refine aw_putZk (n := 35) 5 flX0_27 SH_35 (by decide) rfl rfl rfl (by decide) dX0_init_32 ?_
  refine aw_aload_n (i := 0) (q := 0) dX0_init_35 rfl rfl ?_
  refine aw_iconst dX0_init_36 ?_
  refine aw_putZk (n := 35) 6 flX0_31 SH_35 (by decide) rfl rfl rfl (by decide) dX0_init_37 ?_
  refine aw_aload_n (i := 0) (q := 0) dX0_init_40 rfl rfl ?_
  refine aw_iconst dX0_init_41 ?_
  refine aw_putZk (n := 35) 7 flX0_34 SH_35 (by decide) rfl rfl rfl (by decide) dX0_init_42 ?_
  refine aw_aload_n (i := 0) (q := 0) dX0_init_45 rfl rfl ?_
  refine aw_iconst dX0_init_46 ?_
  refine aw_putIk (n := 35) 8 flX0_37 SH_35 (by decide) rfl rfl rfl (by decide) dX0_init_47 ?_
  refine aw_aload_n (i := 0) (q := 0) dX0_init_50 rfl rfl ?_
  refine aw_iconst dX0_init_51 ?_
  refine aw_putIk (n := 35) 9 flX0_40 SH_35 (by decide) rfl rfl rfl (by decide) dX0_init_52 ?_
  refine aw_aload_n (i := 0) (q := 0) dX0_init_55 rfl rfl ?_
  refine aw_iconst dX0_init_56 ?_
  refine aw_putIk (n := 35) 10 flX0_43 SH_35 (by decide) rfl rfl rfl (by decide) dX0_init_57 ?_
  refine aw_aload_n (i := 0) (q := 0) dX0_init_60 rfl rfl ?_
  refine aw_iconst dX0_init_61 ?_
  refine aw_putIk (n := 35) 11 flX0_46 SH_35 (by decide) rfl rfl rfl (by decide) dX0_init_62 ?_
  exact aw_vret ⟨rfl, rfl, rfl, rfl⟩ (Nat.le_refl _) (Nat.le_refl _) dX0_init_65
theorem i_36 {mi : aM} {mr : aR} : SP yX0_init cX0_init 1 none 1 0 0 36 [.ref 36] mi mr (fun v n' m' r' => v = none ∧ n' = 36 ∧ m' = (aup (aup (aup (aup (aup (aup (aup (aup (aup (aup (aup (aup mi 36 0 1) 36 1 0) 36 2 1) 36 3 10) 36 4 0) 36 5 0) 36 6 0) 36 7 0) 36 8 0) 36 9 1) 36 10 0) 36 11 0) ∧ r' = mr) := by
  refine SP.of true rfl (fun _ => rfl) (by decide +kernel) (Nat.le_of_ble_eq_true rfl) (Or.inr (Or.inr ⟨rfl, fun _ _ _ _ h => by cases h.1⟩)) ?_
  show AW RX0 cX0_init 1 1 true 0 0 none _ 36 0 [(0, .ref 36)] [] mi mr 0 0
  refine aw_aload_n (i := 0) (q := 0) dX0_init_0 rfl rfl ?_
  refine aw_obj (n := 36) (a := 36) obX0_3 (Nat.le_of_ble_eq_true rfl) (by decide) dX0_init_1 ?_
  refine aw_aload_n (i := 0) (q := 0) dX0_init_4 rfl rfl ?_
  refine aw_iconst dX0_init_5 ?_
  refine aw_putIk (n := 36) 0 flX0_9 SH_36 (by decide) rfl rfl rfl (by decide) dX0_init_6 ?_
  refine aw_aload_n (i := 0) (q := 0) dX0_init_9 rfl rfl ?_
  refine aw_iconst dX0_init_10 ?_
  refine aw_putIk (n := 36) 1 flX0_15 SH_36 (by decide) rfl rfl rfl (by decide) dX0_init_11 ?_
  refine aw_aload_n (i := 0) (q := 0) dX0_init_14 rfl rfl ?_
  refine aw_iconst dX0_init_15 ?_
  refine aw_putIk (n := 36) 2 flX0_18 SH_36 (by decide) rfl rfl rfl (by decide) dX0_init_16 ?_
  refine aw_aload_n (i := 0) (q := 0) dX0_init_19 rfl rfl ?_
  refine aw_bipush (x := 10) dX0_init_20 rfl ?_
  refine aw_putIk (n := 36) 3 flX0_21 SH_36 (by decide) rfl rfl rfl (by decide) dX0_init_22 ?_
  refine aw_aload_n (i := 0) (q := 0) dX0_init_25 rfl rfl ?_
  refine aw_iconst dX0_init_26 ?_
  refine aw_putIk (n := 36) 4 flX0_24 SH_36 (by decide) rfl rfl rfl (by decide) dX0_init_27 ?_
  refine aw_aload_n (i := 0) (q := 0) dX0_init_30 rfl rfl ?_
  refine aw_iconst dX0_init_31 ?_
  refine aw_putZk (n := 36) 5 flX0_27 SH_36 (by decide) rfl rfl rfl (by decide) dX0_init_32 ?_
  refine aw_aload_n (i := 0) (q := 0) dX0_init_35 rfl rfl ?_
  refine aw_iconst dX0_init_36 ?_
  refine aw_putZk (n := 36) 6 flX0_31 SH_36 (by decide) rfl rfl rfl (by decide) dX0_init_37 ?_
  refine aw_aload_n (i := 0) (q := 0) dX0_init_40 rfl rfl ?_
  refine aw_iconst dX0_init_41 ?_
  refine aw_putZk (n := 36) 7 flX0_34 SH_36 (by decide) rfl rfl rfl (by decide) dX0_init_42 ?_
  refine aw_aload_n (i := 0) (q := 0) dX0_init_45 rfl rfl ?_
  refine aw_iconst dX0_init_46 ?_
  refine aw_putIk (n := 36) 8 flX0_37 SH_36 (by decide) rfl rfl rfl (by decide) dX0_init_47 ?_
  refine aw_aload_n (i := 0) (q := 0) dX0_init_50 rfl rfl ?_
  refine aw_iconst dX0_init_51 ?_
  refine aw_putIk (n := 36) 9 flX0_40 SH_36 (by decide) rfl rfl rfl (by decide) dX0_init_52 ?_
  refine aw_aload_n (i := 0) (q := 0) dX0_init_55 rfl rfl ?_
  refine aw_iconst dX0_init_56 ?_
  refine aw_putIk (n := 36) 10 flX0_43 SH_36 (by decide) rfl rfl rfl (by decide) dX0_init_57 ?_
  refine aw_aload_n (i := 0) (q := 0) dX0_init_60 rfl rfl ?_
  refine aw_iconst dX0_init_61 ?_
  refine aw_putIk (n := 36) 11 flX0_46 SH_36 (by decide) rfl rfl rfl (by decide) dX0_init_62 ?_
  exact aw_vret ⟨rfl, rfl, rfl, rfl⟩ (Nat.le_refl _) (Nat.le_refl _) dX0_init_65
theorem i_37 {mi : aM} {mr : aR} : SP yX0_init cX0_init 1 none 1 0 0 37 [.ref 37] mi mr (fun v n' m' r' => v = none ∧ n' = 37 ∧ m' = (aup (aup (aup (aup (aup (aup (aup (aup (aup (aup (aup (aup mi 37 0 1) 37 1 0) 37 2 1) 37 3 10) 37 4 0) 37 5 0) 37 6 0) 37 7 0) 37 8 0) 37 9 1) 37 10 0) 37 11 0) ∧ r' = mr) := by
  refine SP.of true rfl (fun _ => rfl) (by decide +kernel) (Nat.le_of_ble_eq_true rfl) (Or.inr (Or.inr ⟨rfl, fun _ _ _ _ h => by cases h.1⟩)) ?_
  show AW RX0 cX0_init 1 1 true 0 0 none _ 37 0 [(0, .ref 37)] [] mi mr 0 0
  refine aw_aload_n (i := 0) (q := 0) dX0_init_0 rfl rfl ?_
  refine aw_obj (n := 37) (a := 37) obX0_3 (Nat.le_of_ble_eq_true rfl) (by decide) dX0_init_1 ?_
  refine aw_aload_n (i := 0) (q := 0) dX0_init_4 rfl rfl ?_
  refine aw_iconst dX0_init_5 ?_
  refine aw_putIk (n := 37) 0 flX0_9 SH_37 (by decide) rfl rfl rfl (by decide) dX0_init_6 ?_
  refine aw_aload_n (i := 0) (q := 0) dX0_init_9 rfl rfl ?_
  refine aw_iconst dX0_init_10 ?_
  refine aw_putIk (n := 37) 1 flX0_15 SH_37 (by decide) rfl rfl rfl (by decide) dX0_init_11 ?_
  refine aw_aload_n (i := 0) (q := 0) dX0_init_14 rfl rfl ?_
  refine aw_iconst dX0_init_15 ?_
  refine aw_putIk (n := 37) 2 flX0_18 SH_37 (by decide) rfl rfl rfl (by decide) dX0_init_16 ?_
  refine aw_aload_n (i := 0) (q := 0) dX0_init_19 rfl rfl ?_
  refine aw_bipush (x := 10) dX0_init_20 rfl ?_
  refine aw_putIk (n := 37) 3 flX0_21 SH_37 (by decide) rfl rfl rfl (by decide) dX0_init_22 ?_
  refine aw_aload_n (i := 0) (q := 0) dX0_init_25 rfl rfl ?_
  refine aw_iconst dX0_init_26 ?_
  refine aw_putIk (n := 37) 4 flX0_24 SH_37 (by decide) rfl rfl rfl (by decide) dX0_init_27 ?_
  refine aw_aload_n (i := 0) (q := 0) dX0_init_30 rfl rfl ?_
  refine aw_iconst dX0_init_31 ?_
  refine aw_putZk (n := 37) 5 flX0_27 SH_37 (by decide) rfl rfl rfl (by decide) dX0_init_32 ?_
  refine aw_aload_n (i := 0) (q := 0) dX0_init_35 rfl rfl ?_
  refine aw_iconst dX0_init_36 ?_
  refine aw_putZk (n := 37) 6 flX0_31 SH_37 (by decide) rfl rfl rfl (by decide) dX0_init_37 ?_
  refine aw_aload_n (i := 0) (q := 0) dX0_init_40 rfl rfl ?_
  refine aw_iconst dX0_init_41 ?_
  refine aw_putZk (n := 37) 7 flX0_34 SH_37 (by decide) rfl rfl rfl (by decide) dX0_init_42 ?_
  refine aw_aload_n (i := 0) (q := 0) dX0_init_45 rfl rfl ?_
  refine aw_iconst dX0_init_46 ?_
  refine aw_putIk (n := 37) 8 flX0_37 SH_37 (by decide) rfl rfl rfl (by decide) dX0_init_47 ?_
  refine aw_aload_n (i := 0) (q := 0) dX0_init_50 rfl rfl ?_
  refine aw_iconst dX0_init_51 ?_
  refine aw_putIk (n := 37) 9 flX0_40 SH_37 (by decide) rfl rfl rfl (by decide) dX0_init_52 ?_
  refine aw_aload_n (i := 0) (q := 0) dX0_init_55 rfl rfl ?_
  refine aw_iconst dX0_init_56 ?_
  refine aw_putIk (n := 37) 10 flX0_43 SH_37 (by decide) rfl rfl rfl (by decide) dX0_init_57 ?_
  refine aw_aload_n (i := 0) (q := 0) dX0_init_60 rfl rfl ?_
  refine aw_iconst dX0_init_61 ?_
  refine aw_putIk (n := 37) 11 flX0_46 SH_37 (by decide) rfl rfl rfl (by decide) dX0_init_62 ?_
  exact aw_vret ⟨rfl, rfl, rfl, rfl⟩ (Nat.le_refl _) (Nat.le_refl _) dX0_init_65
theorem i_38 {mi : aM} {mr : aR} : SP yX0_init cX0_init 1 none 1 0 0 38 [.ref 38] mi mr (fun v n' m' r' => v = none ∧ n' = 38 ∧ m' = (aup (aup (aup (aup (aup (aup (aup (aup (aup (aup (aup (aup mi 38 0 1) 38 1 0) 38 2 1) 38 3 10) 38 4 0) 38 5 0) 38 6 0) 38 7 0) 38 8 0) 38 9 1) 38 10 0) 38 11 0) ∧ r' = mr) := by
  refine SP.of true rfl (fun _ => rfl) (by decide +kernel) (Nat.le_of_ble_eq_true rfl) (Or.inr (Or.inr ⟨rfl, fun _ _ _ _ h => by cases h.1⟩)) ?_
  show AW RX0 cX0_init 1 1 true 0 0 none _ 38 0 [(0, .ref 38)] [] mi mr 0 0
  refine aw_aload_n (i := 0) (q := 0) dX0_init_0 rfl rfl ?_
  refine aw_obj (n := 38) (a := 38) obX0_3 (Nat.le_of_ble_eq_true rfl) (by decide) dX0_init_1 ?_
  refine aw_aload_n (i := 0) (q := 0) dX0_init_4 rfl rfl ?_
  refine aw_iconst dX0_init_5 ?_
  refine aw_putIk (n := 38) 0 flX0_9 SH_38 (by decide) rfl rfl rfl (by decide) dX0_init_6 ?_
  refine aw_aload_n (i := 0) (q := 0) dX0_init_9 rfl rfl ?_
  refine aw_iconst dX0_init_10 ?_
  refine aw_putIk (n := 38) 1 flX0_15 SH_38 (by decide) rfl rfl rfl (by decide) dX0_init_11 ?_
  refine aw_aload_n (i := 0) (q := 0) dX0_init_14 rfl rfl ?_
  refine aw_iconst dX0_init_15 ?_
  refine aw_putIk (n := 38) 2 flX0_18 SH_38 (by decide) rfl rfl rfl (by decide) dX0_init_16 ?_
  refine aw_aload_n (i := 0) (q := 0) dX0_init_19 rfl rfl ?_
  refine aw_bipush (x := 10) dX0_init_20 rfl ?_
  refine aw_putIk (n := 38) 3 flX0_21 SH_38 (by decide) rfl rfl rfl (by decide) dX0_init_22 ?_
  refine aw_aload_n (i := 0) (q := 0) dX0_init_25 rfl rfl ?_
  refine aw_iconst dX0_init_26 ?_
  refine aw_putIk (n := 38) 4 flX0_24 SH_38 (by decide) rfl rfl rfl (by decide) dX0_init_27 ?_
  refine aw_aload_n (i := 0) (q := 0) dX0_init_30 rfl rfl ?_
  refine aw_iconst dX0_init_31 ?_
  refine aw_putZk (n := 38) 5 flX0_27 SH_38 (by decide) rfl rfl rfl (by decide) dX0_init_32 ?_
  refine aw_aload_n (i := 0) (q := 0) dX0_init_35 rfl rfl ?_
  refine aw_iconst dX0_init_36 ?_
  refine aw_putZk (n := 38) 6 flX0_31 SH_38 (by decide) rfl rfl rfl (by decide) dX0_init_37 ?_
  refine aw_aload_n (i := 0) (q := 0) dX0_init_40 rfl rfl ?_
  refine aw_iconst dX0_init_41 ?_
  refine aw_putZk (n := 38) 7 flX0_34 SH_38 (by decide) rfl rfl rfl (by decide) dX0_init_42 ?_
  refine aw_aload_n (i := 0) (q := 0) dX0_init_45 rfl rfl ?_
  refine aw_iconst dX0_init_46 ?_
  refine aw_putIk (n := 38) 8 flX0_37 SH_38 (by decide) rfl rfl rfl (by decide) dX0_init_47 ?_
  refine aw_aload_n (i := 0) (q := 0) dX0_init_50 rfl rfl ?_
  refine aw_iconst dX0_init_51 ?_
  refine aw_putIk (n := 38) 9 flX0_40 SH_38 (by decide) rfl rfl rfl (by decide) dX0_init_52 ?_
  refine aw_aload_n (i := 0) (q := 0) dX0_init_55 rfl rfl ?_
  refine aw_iconst dX0_init_56 ?_
  refine aw_putIk (n := 38) 10 flX0_43 SH_38 (by decide) rfl rfl rfl (by decide) dX0_init_57 ?_
  refine aw_aload_n (i := 0) (q := 0) dX0_init_60 rfl rfl ?_
  refine aw_iconst dX0_init_61 ?_
  refine aw_putIk (n := 38) 11 flX0_46 SH_38 (by decide) rfl rfl rfl (by decide) dX0_init_62 ?_
  exact aw_vret ⟨rfl, rfl, rfl, rfl⟩ (Nat.le_refl _) (Nat.le_refl _) dX0_init_65
theorem i_39 {mi : aM} {mr : aR} : SP yX0_init cX0_init 1 none 1 0 0 39 [.ref 39] mi mr (fun v n' m' r' => v = none ∧ n' = 39 ∧ m' = (aup (aup (aup (aup (aup (aup (aup (aup (aup (aup (aup (aup mi 39 0 1) 39 1 0) 39 2 1) 39 3 10) 39 4 0) 39 5 0) 39 6 0) 39 7 0) 39 8 0) 39 9 1) 39 10 0) 39 11 0) ∧ r' = mr) := by
  refine SP.of true rfl (fun _ => rfl) (by decide +kernel) (Nat.le_of_ble_eq_true rfl) (Or.inr (Or.inr ⟨rfl, fun _ _ _ _ h => by cases h.1⟩)) ?_
  show AW RX0 cX0_init 1 1 true 0 0 none _ 39 0 [(0, .ref 39)] [] mi mr 0 0
  refine aw_aload_n (i := 0) (q := 0) dX0_init_0 rfl rfl ?_
  refine aw_obj (n := 39) (a := 39) obX0_3 (Nat.le_of_ble_eq_true rfl) (by decide) dX0_init_1 ?_
  refine aw_aload_n (i := 0) (q := 0) dX0_init_4 rfl rfl ?_
  refine aw_iconst dX0_init_5 ?_
  refine aw_putIk (n := 39) 0 flX0_9 SH_39 (by decide) rfl rfl rfl (by decide) dX0_init_6 ?_
  refine aw_aload_n (i := 0) (q := 0) dX0_init_9 rfl rfl ?_
  refine aw_iconst dX0_init_10 ?_
  refine aw_putIk (n := 39) 1 flX0_15 SH_39 (by decide) rfl rfl rfl (by decide) dX0_init_11 ?_
  refine aw_aload_n (i := 0) (q := 0) dX0_init_14 rfl rfl ?_
  refine aw_iconst dX0_init_15 ?_
  refine aw_putIk (n := 39) 2 flX0_18 SH_39 (by decide) rfl rfl rfl (by decide) dX0_init_16 ?_
  refine aw_aload_n (i := 0) (q := 0) dX0_init_19 rfl rfl ?_
  refine aw_bipush (x := 10) dX0_init_20 rfl ?_
  refine aw_putIk (n := 39) 3 flX0_21 SH_39 (by decide) rfl rfl rfl (by decide) dX0_init_22 ?_
  refine aw_aload_n (i := 0) (q := 0) dX0_init_25 rfl rfl ?_
  refine aw_iconst dX0_init_26 ?_
  refine aw_putIk (n := 39) 4 flX0_24 SH_39 (by decide) rfl rfl rfl (by decide) dX0_init_27 ?_
  refine aw_aload_n (i := 0) (q := 0) dX0_init_30 rfl rfl ?_
  refine aw_iconst dX0_init_31 ?_
  refine aw_putZk (n := 39) 5 flX0_27 SH_39 (by decide) rfl rfl rfl (by decide) dX0_init_32 ?_
  refine aw_aload_n (i := 0) (q := 0) dX0_init_35 rfl rfl ?_
  refine aw_iconst dX0_init_36 ?_
  refine aw_putZk (n := 39) 6 flX0_31 SH_39 (by decide) rfl rfl rfl (by decide) dX0_init_37 ?_
  refine aw_aload_n (i := 0) (q := 0) dX0_init_40 rfl rfl ?_
  refine aw_iconst dX0_init_41 ?_
  refine aw_putZk (n := 39) 7 flX0_34 SH_39 (by decide) rfl rfl rfl (by decide) dX0_init_42 ?_
  refine aw_aload_n (i := 0) (q := 0) dX0_init_45 rfl rfl ?_
  refine aw_iconst dX0_init_46 ?_
  refine aw_putIk (n := 39) 8 flX0_37 SH_39 (by decide) rfl rfl rfl (by decide) dX0_init_47 ?_
  refine aw_aload_n (i := 0) (q := 0) dX0_init_50 rfl rfl ?_
  refine aw_iconst dX0_init_51 ?_
  refine aw_putIk (n := 39) 9 flX0_40 SH_39 (by decide) rfl rfl rfl (by decide) dX0_init_52 ?_
  refine aw_aload_n (i := 0) (q := 0) dX0_init_55 rfl rfl ?_
  refine aw_iconst dX0_init_56 ?_
  refine aw_putIk (n := 39) 10 flX0_43 SH_39 (by decide) rfl rfl rfl (by decide) dX0_init_57 ?_
  refine aw_aload_n (i := 0) (q := 0) dX0_init_60 rfl rfl ?_
  refine aw_iconst dX0_init_61 ?_
  refine aw_putIk (n := 39) 11 flX0_46 SH_39 (by decide) rfl rfl rfl (by decide) dX0_init_62 ?_
  exact aw_vret ⟨rfl, rfl, rfl, rfl⟩ (Nat.le_refl _) (Nat.le_refl _) dX0_init_65
theorem i_40 {mi : aM} {mr : aR} : SP yX2_init cX2_init 1 none 1 1 100 40 [.ref 40] mi mr (fun v n' m' r' => v = none ∧ n' = 41 ∧ m' = (aup mi 40 1 0) ∧ r' = (aup mr 40 0 (some 41))) := by
  refine SP.of true rfl (fun _ => rfl) (by decide +kernel) (Nat.le_of_ble_eq_true rfl) (Or.inr (Or.inr ⟨rfl, fun _ _ _ _ h => by cases h.1⟩)) ?_
  show AW RX2 cX2_init 1 1 true 1 100 none _ 40 0 [(0, .ref 40)] [] mi mr 0 0
  refine aw_aload_n (i := 0) (q := 0) dX2_init_0 rfl rfl ?_
  refine aw_obj (n := 40) (a := 40) obX2_3 (Nat.le_of_ble_eq_true rfl) (by decide) dX2_init_1 ?_
  refine aw_aload_n (i := 0) (q := 0) dX2_init_4 rfl rfl ?_
  refine aw_bipush (x := 100) dX2_init_5 rfl ?_
  refine aw_newI (n := 40) (z := 100) (ck := 0) (sk := 0) SH_41 (Nat.le_of_ble_eq_true rfl) (Nat.le_of_ble_eq_true rfl) dX2_init_7 ?_
  refine aw_putRk (n := 41) (r := 41) 0 flX2_9 SH_40 (by decide) rfl rfl rfl (fun q h => by cases h; rfl) rfl dX2_init_9 ?_
  refine aw_aload_n (i := 0) (q := 0) dX2_init_12 rfl rfl ?_
  refine aw_iconst dX2_init_13 ?_
  refine aw_putIk (n := 41) 1 flX2_15 SH_40 (by decide) rfl rfl rfl (by decide) dX2_init_14 ?_
  exact aw_vret ⟨rfl, rfl, rfl, rfl⟩ (Nat.le_refl _) (Nat.le_refl _) dX2_init_17
theorem i_42 {mi : aM} {mr : aR} : SP yX2_init cX2_init 1 none 1 1 100 42 [.ref 42] mi mr (fun v n' m' r' => v = none ∧ n' = 43 ∧ m' = (aup mi 42 1 0) ∧ r' = (aup mr 42 0 (some 43))) := by
  refine SP.of true rfl (fun _ => rfl) (by decide +kernel) (Nat.le_of_ble_eq_true rfl) (Or.inr (Or.inr ⟨rfl, fun _ _ _ _ h => by cases h.1⟩)) ?_
  show AW RX2 cX2_init 1 1 true 1 100 none _ 42 0 [(0, .ref 42)] [] mi mr 0 0
  refine aw_aload_n (i := 0) (q := 0) dX2_init_0 rfl rfl ?_
  refine aw_obj (n := 42) (a := 42) obX2_3 (Nat.le_of_ble_eq_true rfl) (by decide) dX2_init_1 ?_
  refine aw_aload_n (i := 0) (q := 0) dX2_init_4 rfl rfl ?_
  refine aw_bipush (x := 100) dX2_init_5 rfl ?_
  refine aw_newI (n := 42) (z := 100) (ck := 0) (sk := 0) SH_43 (Nat.le_of_ble_eq_true rfl) (Nat.le_of_ble_eq_true rfl) dX2_init_7 ?_
  refine aw_putRk (n := 43) (r := 43) 0 flX2_9 SH_42 (by decide) rfl rfl rfl (fun q h => by cases h; rfl) rfl dX2_init_9 ?_
  refine aw_aload_n (i := 0) (q := 0) dX2_init_12 rfl rfl ?_
  refine aw_iconst dX2_init_13 ?_
  refine aw_putIk (n := 43) 1 flX2_15 SH_42 (by decide) rfl rfl rfl (by decide) dX2_init_14 ?_
  exact aw_vret ⟨rfl, rfl, rfl, rfl⟩ (Nat.le_refl _) (Nat.le_refl _) dX2_init_17
theorem i_44 {mi : aM} {mr : aR} : SP yX2_init cX2_init 1 none 1 1 100 44 [.ref 44] mi mr (fun v n' m' r' => v = none ∧ n' = 45 ∧ m' = (aup mi 44 1 0) ∧ r' = (aup mr 44 0 (some 45))) := by
  refine SP.of true rfl (fun _ => rfl) (by decide +kernel) (Nat.le_of_ble_eq_true rfl) (Or.inr (Or.inr ⟨rfl, fun _ _ _ _ h => by cases h.1⟩)) ?_
  show AW RX2 cX2_init 1 1 true 1 100 none _ 44 0 [(0, .ref 44)] [] mi mr 0 0
  refine aw_aload_n (i := 0) (q := 0) dX2_init_0 rfl rfl ?_
  refine aw_obj (n := 44) (a := 44) obX2_3 (Nat.le_of_ble_eq_true rfl) (by decide) dX2_init_1 ?_
  refine aw_aload_n (i := 0) (q := 0) dX2_init_4 rfl rfl ?_
  refine aw_bipush (x := 100) dX2_init_5 rfl ?_
  refine aw_newI (n := 44) (z := 100) (ck := 0) (sk := 0) SH_45 (Nat.le_of_ble_eq_true rfl) (Nat.le_of_ble_eq_true rfl) dX2_init_7 ?_
  refine aw_putRk (n := 45) (r := 45) 0 flX2_9 SH_44 (by decide) rfl rfl rfl (fun q h => by cases h; rfl) rfl dX2_init_9 ?_
  refine aw_aload_n (i := 0) (q := 0) dX2_init_12 rfl rfl ?_
  refine aw_iconst dX2_init_13 ?_
  refine aw_putIk (n := 45) 1 flX2_15 SH_44 (by decide) rfl rfl rfl (by decide) dX2_init_14 ?_
  exact aw_vret ⟨rfl, rfl, rfl, rfl⟩ (Nat.le_refl _) (Nat.le_refl _) dX2_init_17
theorem i_46 {mi : aM} {mr : aR} : SP yX2_init cX2_init 1 none 1 1 100 46 [.ref 46] mi mr (fun v n' m' r' => v = none ∧ n' = 47 ∧ m' = (aup mi 46 1 0) ∧ r' = (aup mr 46 0 (some 47))) := by
  refine SP.of true rfl (fun _ => rfl) (by decide +kernel) (Nat.le_of_ble_eq_true rfl) (Or.inr (Or.inr ⟨rfl, fun _ _ _ _ h => by cases h.1⟩)) ?_
  show AW RX2 cX2_init 1 1 true 1 100 none _ 46 0 [(0, .ref 46)] [] mi mr 0 0
  refine aw_aload_n (i := 0) (q := 0) dX2_init_0 rfl rfl ?_
  refine aw_obj (n := 46) (a := 46) obX2_3 (Nat.le_of_ble_eq_true rfl) (by decide) dX2_init_1 ?_
  refine aw_aload_n (i := 0) (q := 0) dX2_init_4 rfl rfl ?_
  refine aw_bipush (x := 100) dX2_init_5 rfl ?_
  refine aw_newI (n := 46) (z := 100) (ck := 0) (sk := 0) SH_47 (Nat.le_of_ble_eq_true rfl) (Nat.le_of_ble_eq_true rfl) dX2_init_7 ?_
  refine aw_putRk (n := 47) (r := 47) 0 flX2_9 SH_46 (by decide) rfl rfl rfl (fun q h => by cases h; rfl) rfl dX2_init_9 ?_
  refine aw_aload_n (i := 0) (q := 0) dX2_init_12 rfl rfl ?_
  refine aw_iconst dX2_init_13 ?_
  refine aw_putIk (n := 47) 1 flX2_15 SH_46 (by decide) rfl rfl rfl (by decide) dX2_init_14 ?_
  exact aw_vret ⟨rfl, rfl, rfl, rfl⟩ (Nat.le_refl _) (Nat.le_refl _) dX2_init_17
theorem i_48 {mi : aM} {mr : aR} : SP yX2_init cX2_init 1 none 1 1 100 48 [.ref 48] mi mr (fun v n' m' r' => v = none ∧ n' = 49 ∧ m' = (aup mi 48 1 0) ∧ r' = (aup mr 48 0 (some 49))) := by
  refine SP.of true rfl (fun _ => rfl) (by decide +kernel) (Nat.le_of_ble_eq_true rfl) (Or.inr (Or.inr ⟨rfl, fun _ _ _ _ h => by cases h.1⟩)) ?_
  show AW RX2 cX2_init 1 1 true 1 100 none _ 48 0 [(0, .ref 48)] [] mi mr 0 0
  refine aw_aload_n (i := 0) (q := 0) dX2_init_0 rfl rfl ?_
  refine aw_obj (n := 48) (a := 48) obX2_3 (Nat.le_of_ble_eq_true rfl) (by decide) dX2_init_1 ?_
  refine aw_aload_n (i := 0) (q := 0) dX2_init_4 rfl rfl ?_
  refine aw_bipush (x := 100) dX2_init_5 rfl ?_
  refine aw_newI (n := 48) (z := 100) (ck := 0) (sk := 0) SH_49 (Nat.le_of_ble_eq_true rfl) (Nat.le_of_ble_eq_true rfl) dX2_init_7 ?_
  refine aw_putRk (n := 49) (r := 49) 0 flX2_9 SH_48 (by decide) rfl rfl rfl (fun q h => by cases h; rfl) rfl dX2_init_9 ?_
  refine aw_aload_n (i := 0) (q := 0) dX2_init_12 rfl rfl ?_
  refine aw_iconst dX2_init_13 ?_
  refine aw_putIk (n := 49) 1 flX2_15 SH_48 (by decide) rfl rfl rfl (by decide) dX2_init_14 ?_
  exact aw_vret ⟨rfl, rfl, rfl, rfl⟩ (Nat.le_refl _) (Nat.le_refl _) dX2_init_17
theorem i_50 {mi : aM} {mr : aR} : SP yX1_init cX1_init 1 none 1 0 0 50 [.ref 50] mi mr (fun v n' m' r' => v = none ∧ n' = 50 ∧ m' = (aup (aup (aup (aup (aup (aup mi 50 0 0) 50 1 0) 50 2 0) 50 3 1) 50 4 0) 50 5 (-1)) ∧ r' = mr) := by
  refine SP.of true rfl (fun _ => rfl) (by decide +kernel) (Nat.le_of_ble_eq_true rfl) (Or.inr (Or.inr ⟨rfl, fun _ _ _ _ h => by cases h.1⟩)) ?_
  show AW RX1 cX1_init 1 1 true 0 0 none _ 50 0 [(0, .ref 50)] [] mi mr 0 0
  refine aw_aload_n (i := 0) (q := 0) dX1_init_0 rfl rfl ?_
  refine aw_obj (n := 50) (a := 50) obX1_3 (Nat.le_of_ble_eq_true rfl) (by decide) dX1_init_1 ?_
  refine aw_aload_n (i := 0) (q := 0) dX1_init_4 rfl rfl ?_
  refine aw_iconst dX1_init_5 ?_
  refine aw_putIk (n := 50) 0 flX1_9 SH_50 (by decide) rfl rfl rfl (by decide) dX1_init_6 ?_
  refine aw_aload_n (i := 0) (q := 0) dX1_init_9 rfl rfl ?_
  refine aw_iconst dX1_init_10 ?_
  refine aw_putIk (n := 50) 1 flX1_15 SH_50 (by decide) rfl rfl rfl (by decide) dX1_init_11 ?_
  refine aw_aload_n (i := 0) (q := 0) dX1_init_14 rfl rfl ?_
  refine aw_iconst dX1_init_15 ?_
  refine aw_putIk (n := 50) 2 flX1_18 SH_50 (by decide) rfl rfl rfl (by decide) dX1_init_16 ?_
  refine aw_aload_n (i := 0) (q := 0) dX1_init_19 rfl rfl ?_
  refine aw_iconst dX1_init_20 ?_
  refine aw_putIk (n := 50) 3 flX1_21 SH_50 (by decide) rfl rfl rfl (by decide) dX1_init_21 ?_
  refine aw_aload_n (i := 0) (q := 0) dX1_init_24 rfl rfl ?_
  refine aw_iconst dX1_init_25 ?_
  refine aw_putIk (n := 50) 4 flX1_24 SH_50 (by decide) rfl rfl rfl (by decide) dX1_init_26 ?_
  refine aw_aload_n (i := 0) (q := 0) dX1_init_29 rfl rfl ?_
  refine aw_iconst dX1_init_30 ?_
  refine aw_putIk (n := 50) 5 flX1_27 SH_50 (by decide) rfl rfl rfl (by decide) dX1_init_31 ?_
  exact aw_vret ⟨rfl, rfl, rfl, rfl⟩ (Nat.le_refl _) (Nat.le_refl _) dX1_init_34
theorem i_51 {mi : aM} {mr : aR} : SP yX1_init cX1_init 1 none 1 0 0 51 [.ref 51] mi mr (fun v n' m' r' => v = none ∧ n' = 51 ∧ m' = (aup (aup (aup (aup (aup (aup mi 51 0 0) 51 1 0) 51 2 0) 51 3 1) 51 4 0) 51 5 (-1)) ∧ r' = mr) := by
  refine SP.of true rfl (fun _ => rfl) (by decide +kernel) (Nat.le_of_ble_eq_true rfl) (Or.inr (Or.inr ⟨rfl, fun _ _ _ _ h => by cases h.1⟩)) ?_
  show AW RX1 cX1_init 1 1 true 0 0 none _ 51 0 [(0, .ref 51)] [] mi mr 0 0
  refine aw_aload_n (i := 0) (q := 0) dX1_init_0 rfl rfl ?_
  refine aw_obj (n := 51) (a := 51) obX1_3 (Nat.le_of_ble_eq_true rfl) (by decide) dX1_init_1 ?_
  refine aw_aload_n (i := 0) (q := 0) dX1_init_4 rfl rfl ?_
  refine aw_iconst dX1_init_5 ?_
  refine aw_putIk (n := 51) 0 flX1_9 SH_51 (by decide) rfl rfl rfl (by decide) dX1_init_6 ?_
  refine aw_aload_n (i := 0) (q := 0) dX1_init_9 rfl rfl ?_
  refine aw_iconst dX1_init_10 ?_
  refine aw_putIk (n := 51) 1 flX1_15 SH_51 (by decide) rfl rfl rfl (by decide) dX1_init_11 ?_
  refine aw_aload_n (i := 0) (q := 0) dX1_init_14 rfl rfl ?_
  refine aw_iconst dX1_init_15 ?_
  refine aw_putIk (n := 51) 2 flX1_18 SH_51 (by decide) rfl rfl rfl (by decide) dX1_init_16 ?_
  refine aw_aload_n (i := 0) (q := 0) dX1_init_19 rfl rfl ?_
  refine aw_iconst dX1_init_20 ?_
  refine aw_putIk (n := 51) 3 flX1_21 SH_51 (by decide) rfl rfl rfl (by decide) dX1_init_21 ?_
  refine aw_aload_n (i := 0) (q := 0) dX1_init_24 rfl rfl ?_
  refine aw_iconst dX1_init_25 ?_
  refine aw_putIk (n := 51) 4 flX1_24 SH_51 (by decide) rfl rfl rfl (by decide) dX1_init_26 ?_
  refine aw_aload_n (i := 0) (q := 0) dX1_init_29 rfl rfl ?_
  refine aw_iconst dX1_init_30 ?_
  refine aw_putIk (n := 51) 5 flX1_27 SH_51 (by decide) rfl rfl rfl (by decide) dX1_init_31 ?_
  exact aw_vret ⟨rfl, rfl, rfl, rfl⟩ (Nat.le_refl _) (Nat.le_refl _) dX1_init_34
theorem i_52 {mi : aM} {mr : aR} : SP yX1_init cX1_init 1 none 1 0 0 52 [.ref 52] mi mr (fun v n' m' r' => v = none ∧ n' = 52 ∧ m' = (aup (aup (aup (aup (aup (aup mi 52 0 0) 52 1 0) 52 2 0) 52 3 1) 52 4 0) 52 5 (-1)) ∧ r' = mr) := by
  refine SP.of true rfl (fun _ => rfl) (by decide +kernel) (Nat.le_of_ble_eq_true rfl) (Or.inr (Or.inr ⟨rfl, fun _ _ _ _ h => by cases h.1⟩)) ?_
  show AW RX1 cX1_init 1 1 true 0 0 none _ 52 0 [(0, .ref 52)] [] mi mr 0 0
  refine aw_aload_n (i := 0) (q := 0) dX1_init_0 rfl rfl ?_
  refine aw_obj (n := 52) (a := 52) obX1_3 (Nat.le_of_ble_eq_true rfl) (by decide) dX1_init_1 ?_
  refine aw_aload_n (i := 0) (q := 0) dX1_init_4 rfl rfl ?_
  refine aw_iconst dX1_init_5 ?_
  refine aw_putIk (n := 52) 0 flX1_9 SH_52 (by decide) rfl rfl rfl (by decide) dX1_init_6 ?_
  refine aw_aload_n (i := 0) (q := 0) dX1_init_9 rfl rfl ?_
  refine aw_iconst dX1_init_10 ?_
  refine aw_putIk (n := 52) 1 flX1_15 SH_52 (by decide) rfl rfl rfl (by decide) dX1_init_11 ?_
  refine aw_aload_n (i := 0) (q := 0) dX1_init_14 rfl rfl ?_
  refine aw_iconst dX1_init_15 ?_
  refine aw_putIk (n := 52) 2 flX1_18 SH_52 (by decide) rfl rfl rfl (by decide) dX1_init_16 ?_
  refine aw_aload_n (i := 0) (q := 0) dX1_init_19 rfl rfl ?_
  refine aw_iconst dX1_init_20 ?_
  refine aw_putIk (n := 52) 3 flX1_21 SH_52 (by decide) rfl rfl rfl (by decide) dX1_init_21 ?_
  refine aw_aload_n (i := 0) (q := 0) dX1_init_24 rfl rfl ?_
  refine aw_iconst dX1_init_25 ?_
  refine aw_putIk (n := 52) 4 flX1_24 SH_52 (by decide) rfl rfl rfl (by decide) dX1_init_26 ?_
  refine aw_aload_n (i := 0) (q := 0) dX1_init_29 rfl rfl ?_
  refine aw_iconst dX1_init_30 ?_
  refine aw_putIk (n := 52) 5 flX1_27 SH_52 (by decide) rfl rfl rfl (by decide) dX1_init_31 ?_
  exact aw_vret ⟨rfl, rfl, rfl, rfl⟩ (Nat.le_refl _) (Nat.le_refl _) dX1_init_34
theorem i_53 {mi : aM} {mr : aR} : SP yX1_init cX1_init 1 none 1 0 0 53 [.ref 53] mi mr (fun v n' m' r' => v = none ∧ n' = 53 ∧ m' = (aup (aup (aup (aup (aup (aup mi 53 0 0) 53 1 0) 53 2 0) 53 3 1) 53 4 0) 53 5 (-1)) ∧ r' = mr) := by
  refine SP.of true rfl (fun _ => rfl) (by decide +kernel) (Nat.le_of_ble_eq_true rfl) (Or.inr (Or.inr ⟨rfl, fun _ _ _ _ h => by cases h.1⟩)) ?_
  show AW RX1 cX1_init 1 1 true 0 0 none _ 53 0 [(0, .ref 53)] [] mi mr 0 0
  refine aw_aload_n (i := 0) (q := 0) dX1_init_0 rfl rfl ?_
  refine aw_obj (n := 53) (a := 53) obX1_3 (Nat.le_of_ble_eq_true rfl) (by decide) dX1_init_1 ?_
  refine aw_aload_n (i := 0) (q := 0) dX1_init_4 rfl rfl ?_
  refine aw_iconst dX1_init_5 ?_
  refine aw_putIk (n := 53) 0 flX1_9 SH_53 (by decide) rfl rfl rfl (by decide) dX1_init_6 ?_
  refine aw_aload_n (i := 0) (q := 0) dX1_init_9 rfl rfl ?_
  refine aw_iconst dX1_init_10 ?_
  refine aw_putIk (n := 53) 1 flX1_15 SH_53 (by decide) rfl rfl rfl (by decide) dX1_init_11 ?_
  refine aw_aload_n (i := 0) (q := 0) dX1_init_14 rfl rfl ?_
  refine aw_iconst dX1_init_15 ?_
  refine aw_putIk (n := 53) 2 flX1_18 SH_53 (by decide) rfl rfl rfl (by decide) dX1_init_16 ?_
  refine aw_aload_n (i := 0) (q := 0) dX1_init_19 rfl rfl ?_
  refine aw_iconst dX1_init_20 ?_
  refine aw_putIk (n := 53) 3 flX1_21 SH_53 (by decide) rfl rfl rfl (by decide) dX1_init_21 ?_
  refine aw_aload_n (i := 0) (q := 0) dX1_init_24 rfl rfl ?_
  refine aw_iconst dX1_init_25 ?_
  refine aw_putIk (n := 53) 4 flX1_24 SH_53 (by decide) rfl rfl rfl (by decide) dX1_init_26 ?_
  refine aw_aload_n (i := 0) (q := 0) dX1_init_29 rfl rfl ?_
  refine aw_iconst dX1_init_30 ?_
  refine aw_putIk (n := 53) 5 flX1_27 SH_53 (by decide) rfl rfl rfl (by decide) dX1_init_31 ?_
  exact aw_vret ⟨rfl, rfl, rfl, rfl⟩ (Nat.le_refl _) (Nat.le_refl _) dX1_init_34
theorem i_54 {mi : aM} {mr : aR} : SP yX1_init cX1_init 1 none 1 0 0 54 [.ref 54] mi mr (fun v n' m' r' => v = none ∧ n' = 54 ∧ m' = (aup (aup (aup (aup (aup (aup mi 54 0 0) 54 1 0) 54 2 0) 54 3 1) 54 4 0) 54 5 (-1)) ∧ r' = mr) := by
  refine SP.of true rfl (fun _ => rfl) (by decide +kernel) (Nat.le_of_ble_eq_true rfl) (Or.inr (Or.inr ⟨rfl, fun _ _ _ _ h => by cases h.1⟩)) ?_
  show AW RX1 cX1_init 1 1 true 0 0 none _ 54 0 [(0, .ref 54)] [] mi mr 0 0
  refine aw_aload_n (i := 0) (q := 0) dX1_init_0 rfl rfl ?_
  refine aw_obj (n := 54) (a := 54) obX1_3 (Nat.le_of_ble_eq_true rfl) (by decide) dX1_init_1 ?_
  refine aw_aload_n (i := 0) (q := 0) dX1_init_4 rfl rfl ?_
  refine aw_iconst dX1_init_5 ?_
  refine aw_putIk (n := 54) 0 flX1_9 SH_54 (by decide) rfl rfl rfl (by decide) dX1_init_6 ?_
  refine aw_aload_n (i := 0) (q := 0) dX1_init_9 rfl rfl ?_
  refine aw_iconst dX1_init_10 ?_
  refine aw_putIk (n := 54) 1 flX1_15 SH_54 (by decide) rfl rfl rfl (by decide) dX1_init_11 ?_
  refine aw_aload_n (i := 0) (q := 0) dX1_init_14 rfl rfl ?_
  refine aw_iconst dX1_init_15 ?_
  refine aw_putIk (n := 54) 2 flX1_18 SH_54 (by decide) rfl rfl rfl (by decide) dX1_init_16 ?_
  refine aw_aload_n (i := 0) (q := 0) dX1_init_19 rfl rfl ?_
  refine aw_iconst dX1_init_20 ?_
  refine aw_putIk (n := 54) 3 flX1_21 SH_54 (by decide) rfl rfl rfl (by decide) dX1_init_21 ?_
  refine aw_aload_n (i := 0) (q := 0) dX1_init_24 rfl rfl ?_
  refine aw_iconst dX1_init_25 ?_
  refine aw_putIk (n := 54) 4 flX1_24 SH_54 (by decide) rfl rfl rfl (by decide) dX1_init_26 ?_
  refine aw_aload_n (i := 0) (q := 0) dX1_init_29 rfl rfl ?_
  refine aw_iconst dX1_init_30 ?_
  refine aw_putIk (n := 54) 5 flX1_27 SH_54 (by decide) rfl rfl rfl (by decide) dX1_init_31 ?_
  exact aw_vret ⟨rfl, rfl, rfl, rfl⟩ (Nat.le_refl _) (Nat.le_refl _) dX1_init_34
theorem i_55 {mi : aM} {mr : aR} : SP yX1_init cX1_init 1 none 1 0 0 55 [.ref 55] mi mr (fun v n' m' r' => v = none ∧ n' = 55 ∧ m' = (aup (aup (aup (aup (aup (aup mi 55 0 0) 55 1 0) 55 2 0) 55 3 1) 55 4 0) 55 5 (-1)) ∧ r' = mr) := by
  refine SP.of true rfl (fun _ => rfl) (by decide +kernel) (Nat.le_of_ble_eq_true rfl) (Or.inr (Or.inr ⟨rfl, fun _ _ _ _ h => by cases h.1⟩)) ?_
  show AW RX1 cX1_init 1 1 true 0 0 none _ 55 0 [(0, .ref 55)] [] mi mr 0 0
  refine aw_aload_n (i := 0) (q := 0) dX1_init_0 rfl rfl ?_
  refine aw_obj (n := 55) (a := 55) obX1_3 (Nat.le_of_ble_eq_true rfl) (by decide) dX1_init_1 ?_
  refine aw_aload_n (i := 0) (q := 0) dX1_init_4 rfl rfl ?_
  refine aw_iconst dX1_init_5 ?_
  refine aw_putIk (n := 55) 0 flX1_9 SH_55 (by decide) rfl rfl rfl (by decide) dX1_init_6 ?_
  refine aw_aload_n (i := 0) (q := 0) dX1_init_9 rfl rfl ?_
  refine aw_iconst dX1_init_10 ?_
  refine aw_putIk (n := 55) 1 flX1_15 SH_55 (by decide) rfl rfl rfl (by decide) dX1_init_11 ?_
  refine aw_aload_n (i := 0) (q := 0) dX1_init_14 rfl rfl ?_
  refine aw_iconst dX1_init_15 ?_
  refine aw_putIk (n := 55) 2 flX1_18 SH_55 (by decide) rfl rfl rfl (by decide) dX1_init_16 ?_
  refine aw_aload_n (i := 0) (q := 0) dX1_init_19 rfl rfl ?_
  refine aw_iconst dX1_init_20 ?_
  refine aw_putIk (n := 55) 3 flX1_21 SH_55 (by decide) rfl rfl rfl (by decide) dX1_init_21 ?_
  refine aw_aload_n (i := 0) (q := 0) dX1_init_24 rfl rfl ?_
  refine aw_iconst dX1_init_25 ?_
  refine aw_putIk (n := 55) 4 flX1_24 SH_55 (by decide) rfl rfl rfl (by decide) dX1_init_26 ?_
  refine aw_aload_n (i := 0) (q := 0) dX1_init_29 rfl rfl ?_
  refine aw_iconst dX1_init_30 ?_
  refine aw_putIk (n := 55) 5 flX1_27 SH_55 (by decide) rfl rfl rfl (by decide) dX1_init_31 ?_
  exact aw_vret ⟨rfl, rfl, rfl, rfl⟩ (Nat.le_refl _) (Nat.le_refl _) dX1_init_34
theorem i_56 {mi : aM} {mr : aR} : SP yX1_init cX1_init 1 none 1 0 0 56 [.ref 56] mi mr (fun v n' m' r' => v = none ∧ n' = 56 ∧ m' = (aup (aup (aup (aup (aup (aup mi 56 0 0) 56 1 0) 56 2 0) 56 3 1) 56 4 0) 56 5 (-1)) ∧ r' = mr) := by
  refine SP.of true rfl (fun _ => rfl) (by decide +kernel) (Nat.le_of_ble_eq_true rfl) (Or.inr (Or.inr ⟨rfl, fun _ _ _ _ h => by cases h.1⟩)) ?_
  show AW RX1 cX1_init 1 1 true 0 0 none _ 56 0 [(0, .ref 56)] [] mi mr 0 0
  refine aw_aload_n (i := 0) (q := 0) dX1_init_0 rfl rfl ?_
  refine aw_obj (n := 56) (a := 56) obX1_3 (Nat.le_of_ble_eq_true rfl) (by decide) dX1_init_1 ?_
  refine aw_aload_n (i := 0) (q := 0) dX1_init_4 rfl rfl ?_
  refine aw_iconst dX1_init_5 ?_
  refine aw_putIk (n := 56) 0 flX1_9 SH_56 (by decide) rfl rfl rfl (by decide) dX1_init_6 ?_
  refine aw_aload_n (i := 0) (q := 0) dX1_init_9 rfl rfl ?_
  refine aw_iconst dX1_init_10 ?_
  refine aw_putIk (n := 56) 1 flX1_15 SH_56 (by decide) rfl rfl rfl (by decide) dX1_init_11 ?_
  refine aw_aload_n (i := 0) (q := 0) dX1_init_14 rfl rfl ?_
  refine aw_iconst dX1_init_15 ?_
  refine aw_putIk (n := 56) 2 flX1_18 SH_56 (by decide) rfl rfl rfl (by decide) dX1_init_16 ?_
  refine aw_aload_n (i := 0) (q := 0) dX1_init_19 rfl rfl ?_
  refine aw_iconst dX1_init_20 ?_
  refine aw_putIk (n := 56) 3 flX1_21 SH_56 (by decide) rfl rfl rfl (by decide) dX1_init_21 ?_
  refine aw_aload_n (i := 0) (q := 0) dX1_init_24 rfl rfl ?_
  refine aw_iconst dX1_init_25 ?_
  refine aw_putIk (n := 56) 4 flX1_24 SH_56 (by decide) rfl rfl rfl (by decide) dX1_init_26 ?_
  refine aw_aload_n (i := 0) (q := 0) dX1_init_29 rfl rfl ?_
  refine aw_iconst dX1_init_30 ?_
  refine aw_putIk (n := 56) 5 flX1_27 SH_56 (by decide) rfl rfl rfl (by decide) dX1_init_31 ?_
  exact aw_vret ⟨rfl, rfl, rfl, rfl⟩ (Nat.le_refl _) (Nat.le_refl _) dX1_init_34
theorem i_57 {mi : aM} {mr : aR} : SP yX1_init cX1_init 1 none 1 0 0 57 [.ref 57] mi mr (fun v n' m' r' => v = none ∧ n' = 57 ∧ m' = (aup (aup (aup (aup (aup (aup mi 57 0 0) 57 1 0) 57 2 0) 57 3 1) 57 4 0) 57 5 (-1)) ∧ r' = mr) := by
  refine SP.of true rfl (fun _ => rfl) (by decide +kernel) (Nat.le_of_ble_eq_true rfl) (Or.inr (Or.inr ⟨rfl, fun _ _ _ _ h => by cases h.1⟩)) ?_
  show AW RX1 cX1_init 1 1 true 0 0 none _ 57 0 [(0, .ref 57)] [] mi mr 0 0
  refine aw_aload_n (i := 0) (q := 0) dX1_init_0 rfl rfl ?_
  refine aw_obj (n := 57) (a := 57) obX1_3 (Nat.le_of_ble_eq_true rfl) (by decide) dX1_init_1 ?_
  refine aw_aload_n (i := 0) (q := 0) dX1_init_4 rfl rfl ?_
  refine aw_iconst dX1_init_5 ?_
  refine aw_putIk (n := 57) 0 flX1_9 SH_57 (by decide) rfl rfl rfl (by decide) dX1_init_6 ?_
  refine aw_aload_n (i := 0) (q := 0) dX1_init_9 rfl rfl ?_
  refine aw_iconst dX1_init_10 ?_
  refine aw_putIk (n := 57) 1 flX1_15 SH_57 (by decide) rfl rfl rfl (by decide) dX1_init_11 ?_
  refine aw_aload_n (i := 0) (q := 0) dX1_init_14 rfl rfl ?_
  refine aw_iconst dX1_init_15 ?_
  refine aw_putIk (n := 57) 2 flX1_18 SH_57 (by decide) rfl rfl rfl (by decide) dX1_init_16 ?_
  refine aw_aload_n (i := 0) (q := 0) dX1_init_19 rfl rfl ?_
  refine aw_iconst dX1_init_20 ?_
  refine aw_putIk (n := 57) 3 flX1_21 SH_57 (by decide) rfl rfl rfl (by decide) dX1_init_21 ?_
  refine aw_aload_n (i := 0) (q := 0) dX1_init_24 rfl rfl ?_
  refine aw_iconst dX1_init_25 ?_
  refine aw_putIk (n := 57) 4 flX1_24 SH_57 (by decide) rfl rfl rfl (by decide) dX1_init_26 ?_
  refine aw_aload_n (i := 0) (q := 0) dX1_init_29 rfl rfl ?_
  refine aw_iconst dX1_init_30 ?_
  refine aw_putIk (n := 57) 5 flX1_27 SH_57 (by decide) rfl rfl rfl (by decide) dX1_init_31 ?_
  exact aw_vret ⟨rfl, rfl, rfl, rfl⟩ (Nat.le_refl _) (Nat.le_refl _) dX1_init_34
def mZ : aM := fun _ _ => 0
def rZ : aR := fun _ _ => none
def mC0 : aM := (aup (aup (aup (aup (aup (aup (aup (aup (aup (aup (aup (aup (aup (aup (aup (aup (aup (aup (aup (aup (aup (aup (aup (aup (aup (aup (aup (aup (aup (aup (aup (aup (aup (aup (aup (aup (aup (aup (aup (aup (aup (aup (aup (aup (aup (aup (aup (aup (aup (aup (aup (aup (aup (aup (aup (aup (aup (aup (aup (aup (aup (aup (aup (aup (aup (aup (aup (aup (aup (aup (aup (aup (aup (aup (aup (aup (aup (aup (aup (aup (aup (aup (aup (aup (aup (aup (aup (aup (aup (aup (aup (aup (aup (aup (aup (aup (aup (aup (aup (aup (aup (aup (aup (aup (aup (aup (aup (aup (aup (aup (aup (aup (aup (aup (aup (aup (aup (aup (aup (aup (aup (aup (aup (aup (aup (aup (aup (aup (aup (aup (aup (aup (aup (aup (aup (aup (aup (aup (aup (aup (aup (aup (aup (aup (aup (aup (aup (aup (aup (aup (aup (aup (aup (aup (aup (aup (aup (aup (aup (aup (aup (aup (aup (aup (aup (aup (aup (aup (aup (aup (aup (aup (aup (aup (aup (aup (aup (aup (aup (aup (aup (aup (aup (aup (aup (aup (aup (aup (aup (aup (aup (aup (aup (aup (aup (aup (aup (aup (aup (aup (aup (aup (aup (aup (aup (aup (aup (aup (aup (aup (aup (aup (aup (aup (aup (aup (aup (aup (aup (aup (aup (aup (aup (aup (aup (aup mZ 3 0 1) 3 1 0) 3 2 1) 3 3 10) 3 4 0) 3 5 0) 3 6 0) 3 7 0) 3 8 0) 3 9 1) 3 10 0) 3 11 0) 4 3 0) 4 4 0) 8 4 0) 13 4 0) 18 1 0) 18 3 0) 18 4 0) 18 5 (-1)) 18 6 0) 18 7 0) 18 8 0) 1 11 0) 1 12 0) 1 13 0) 1 14 3) 1 15 2000) 1 16 0) 28 0 1) 28 1 0) 28 2 1) 28 3 10) 28 4 0) 28 5 0) 28 6 0) 28 7 0) 28 8 0) 28 9 1) 28 10 0) 28 11 0) 29 0 1) 29 1 0) 29 2 1) 29 3 10) 29 4 0) 29 5 0) 29 6 0) 29 7 0) 29 8 0) 29 9 1) 29 10 0) 29 11 0) 30 0 1) 30 1 0) 30 2 1) 30 3 10) 30 4 0) 30 5 0) 30 6 0) 30 7 0) 30 8 0) 30 9 1) 30 10 0) 30 11 0) 31 0 1) 31 1 0) 31 2 1) 31 3 10) 31 4 0) 31 5 0) 31 6 0) 31 7 0) 31 8 0) 31 9 1) 31 10 0) 31 11 0) 32 0 1) 32 1 0) 32 2 1) 32 3 10) 32 4 0) 32 5 0) 32 6 0) 32 7 0) 32 8 0) 32 9 1) 32 10 0) 32 11 0) 33 0 1) 33 1 0) 33 2 1) 33 3 10) 33 4 0) 33 5 0) 33 6 0) 33 7 0) 33 8 0) 33 9 1) 33 10 0) 33 11 0) 34 0 1) 34 1 0) 34 2 1) 34 3 10) 34 4 0) 34 5 0) 34 6 0) 34 7 0) 34 8 0) 34 9 1) 34 10 0) 34 11 0) 35 0 1) 35 1 0) 35 2 1) 35 3 10) 35 4 0) 35 5 0) 35 6 0) 35 7 0) 35 8 0) 35 9 1) 35 10 0) 35 11 0) 36 0 1) 36 1 0) 36 2 1) 36 3 10) 36 4 0) 36 5 0) 36 6 0) 36 7 0) 36 8 0) 36 9 1) 36 10 0) 36 11 0) 37 0 1) 37 1 0) 37 2 1) 37 3 10) 37 4 0) 37 5 0) 37 6 0) 37 7 0) 37 8 0) 37 9 1) 37 10 0) 37 11 0) 38 0 1) 38 1 0) 38 2 1) 38 3 10) 38 4 0) 38 5 0) 38 6 0) 38 7 0) 38 8 0) 38 9 1) 38 10 0) 38 11 0) 39 0 1) 39 1 0) 39 2 1) 39 3 10) 39 4 0) 39 5 0) 39 6 0) 39 7 0) 39 8 0) 39 9 1) 39 10 0) 39 11 0) 40 1 0) 42 1 0) 44 1 0) 46 1 0) 48 1 0) 50 0 0) 50 1 0) 50 2 0) 50 3 1) 50 4 0) 50 5 (-1)) 51 0 0) 51 1 0) 51 2 0) 51 3 1) 51 4 0) 51 5 (-1)) 52 0 0) 52 1 0) 52 2 0) 52 3 1) 52 4 0) 52 5 (-1)) 53 0 0) 53 1 0) 53 2 0) 53 3 1) 53 4 0) 53 5 (-1)) 54 0 0) 54 1 0) 54 2 0) 54 3 1) 54 4 0) 54 5 (-1)) 55 0 0) 55 1 0) 55 2 0) 55 3 1) 55 4 0) 55 5 (-1)) 56 0 0) 56 1 0) 56 2 0) 56 3 1) 56 4 0) 56 5 (-1)) 57 0 0) 57 1 0) 57 2 0) 57 3 1) 57 4 0) 57 5 (-1))
def rC0 : aR := (aup (aup (aup (aup (aup (aup (aup (aup (aup (aup (aup (aup (aup (aup (aup (aup (aup (aup (aup (aup (aup (aup (aup (aup (aup (aup (aup (aup (aup (aup (aup (aup (aup (aup (aup (aup (aup (aup (aup (aup (aup (aup (aup (aup (aup (aup (aup (aup (aup (aup (aup (aup (aup (aup (aup (aup rZ 1 0 (some 2)) 1 1 (some 3)) 4 0 (some 5)) 4 1 (some 6)) 4 2 (some 7)) 1 2 (some 4)) 8 0 (some 9)) 8 1 (some 10)) 8 2 (some 11)) 8 3 (some 12)) 1 3 (some 8)) 13 0 (some 14)) 13 1 (some 15)) 13 2 (some 16)) 13 3 (some 17)) 1 4 (some 13)) 18 0 (some 19)) 18 2 (some 20)) 18 9 (some 21)) 18 10 (some 22)) 1 5 (some 18)) 1 6 (some 23)) 1 7 (some 24)) 1 8 (some 25)) 1 9 (some 26)) 1 10 (some 27)) 2 0 (some 28)) 2 1 (some 29)) 2 2 (some 30)) 2 3 (some 31)) 2 4 (some 32)) 2 5 (some 33)) 2 6 (some 34)) 2 7 (some 35)) 2 8 (some 36)) 2 9 (some 37)) 2 10 (some 38)) 2 11 (some 39)) 40 0 (some 41)) 23 0 (some 40)) 42 0 (some 43)) 23 1 (some 42)) 44 0 (some 45)) 23 2 (some 44)) 46 0 (some 47)) 23 3 (some 46)) 48 0 (some 49)) 23 4 (some 48)) 24 0 (some 50)) 24 1 (some 51)) 24 2 (some 52)) 24 3 (some 53)) 24 4 (some 54)) 24 5 (some 55)) 24 6 (some 56)) 24 7 (some 57))
theorem s_X6_init : SP yX6_init cX6_init 2 none 2 56 5045 1 [.ref 1] mZ rZ (fun v n' m' r' => v = none ∧ n' = 57 ∧ m' = mC0 ∧ r' = rC0) := by
  refine SP.of true rfl (fun _ => rfl) (by decide +kernel) (Nat.le_of_ble_eq_true rfl) (Or.inr (Or.inr ⟨rfl, fun _ _ _ _ h => by cases h.1⟩)) ?_
  show AW RX6 cX6_init 2 2 true 56 5045 none _ 1 0 [(0, .ref 1)] [] mZ rZ 0 0
  refine aw_aload_n (i := 0) (q := 0) dX6_init_0 rfl rfl ?_
  refine aw_obj (n := 1) (a := 1) obX6_3 (Nat.le_of_ble_eq_true rfl) (by decide) dX6_init_1 ?_
  refine aw_aload_n (i := 0) (q := 0) dX6_init_4 rfl rfl ?_
  refine aw_bipush (x := 12) dX6_init_5 rfl ?_
  refine aw_newQ (n := 1) (z := 12) (t := 0) (ck := 0) (sk := 0) SH_2 (by decide) rfl ckX6_9 (Nat.le_of_ble_eq_true rfl) (Nat.le_of_ble_eq_true rfl) dX6_init_7 ?_
  refine aw_putRk (n := 2) (r := 2) 0 flX6_11 SH_1 (by decide) rfl rfl rfl (fun q h => by cases h; rfl) rfl dX6_init_10 ?_
  refine aw_aload_n (i := 0) (q := 0) dX6_init_13 rfl rfl ?_
  refine aw_new (n := 2) (ck := 1) (sk := 12) SH_3 (rfl : vwCl[0]? = _) ckX6_9 ins_RX0 hdf_0 (Nat.le_of_ble_eq_true rfl) (Nat.le_of_ble_eq_true rfl) dX6_init_14 ?_
  refine aw_dup dX6_init_17 rfl ?_
  refine aw_cNi (n := 3) (a := 3) (ck := 2) (sk := 24) clX6_15 i_3 (Nat.le_of_ble_eq_true rfl) (by decide) (by decide) (Nat.le_of_ble_eq_true rfl) (Nat.le_of_ble_eq_true rfl) dX6_init_18 ?_
  refine aw_putRk (n := 3) (r := 3) 1 flX6_16 SH_1 (by decide) rfl rfl rfl (fun q h => by cases h; rfl) rfl dX6_init_21 ?_
  refine aw_aload_n (i := 0) (q := 0) dX6_init_24 rfl rfl ?_
  refine aw_new (n := 3) (ck := 2) (sk := 24) SH_4 (rfl : vwCl[5]? = _) ckX6_20 ins_RX5 hdf_5 (Nat.le_of_ble_eq_true rfl) (Nat.le_of_ble_eq_true rfl) dX6_init_25 ?_
  refine aw_dup dX6_init_28 rfl ?_
  refine aw_cNi (n := 4) (a := 4) (ck := 3) (sk := 29) clX6_22 i_4 (Nat.le_of_ble_eq_true rfl) (by decide) (by decide) (Nat.le_of_ble_eq_true rfl) (Nat.le_of_ble_eq_true rfl) dX6_init_29 ?_
  refine aw_putRk (n := 7) (r := 4) 2 flX6_23 SH_1 (by decide) rfl rfl rfl (fun q h => by cases h; rfl) rfl dX6_init_32 ?_
  refine aw_aload_n (i := 0) (q := 0) dX6_init_35 rfl rfl ?_
  refine aw_new (n := 7) (ck := 6) (sk := 629) SH_8 (rfl : vwCl[4]? = _) ckX6_27 ins_RX4 hdf_4 (Nat.le_of_ble_eq_true rfl) (Nat.le_of_ble_eq_true rfl) dX6_init_36 ?_
  refine aw_dup dX6_init_39 rfl ?_
  refine aw_cNi (n := 8) (a := 8) (ck := 7) (sk := 634) clX6_29 i_8 (Nat.le_of_ble_eq_true rfl) (by decide) (by decide) (Nat.le_of_ble_eq_true rfl) (Nat.le_of_ble_eq_true rfl) dX6_init_40 ?_
  refine aw_putRk (n := 12) (r := 8) 3 flX6_30 SH_1 (by decide) rfl rfl rfl (fun q h => by cases h; rfl) rfl dX6_init_43 ?_
  refine aw_aload_n (i := 0) (q := 0) dX6_init_46 rfl rfl ?_
  refine aw_new (n := 12) (ck := 11) (sk := 1585) SH_13 (rfl : vwCl[4]? = _) ckX6_27 ins_RX4 hdf_4 (Nat.le_of_ble_eq_true rfl) (Nat.le_of_ble_eq_true rfl) dX6_init_47 ?_
  refine aw_dup dX6_init_50 rfl ?_
  refine aw_cNi (n := 13) (a := 13) (ck := 12) (sk := 1590) clX6_29 i_13 (Nat.le_of_ble_eq_true rfl) (by decide) (by decide) (Nat.le_of_ble_eq_true rfl) (Nat.le_of_ble_eq_true rfl) dX6_init_51 ?_
  refine aw_putRk (n := 17) (r := 13) 4 flX6_34 SH_1 (by decide) rfl rfl rfl (fun q h => by cases h; rfl) rfl dX6_init_54 ?_
  refine aw_aload_n (i := 0) (q := 0) dX6_init_57 rfl rfl ?_
  refine aw_new (n := 17) (ck := 16) (sk := 2541) SH_18 (rfl : vwCl[3]? = _) ckX6_37 ins_RX3 hdf_3 (Nat.le_of_ble_eq_true rfl) (Nat.le_of_ble_eq_true rfl) dX6_init_58 ?_
  refine aw_dup dX6_init_61 rfl ?_
  refine aw_cNi (n := 18) (a := 18) (ck := 17) (sk := 2552) clX6_39 i_18 (Nat.le_of_ble_eq_true rfl) (by decide) (by decide) (Nat.le_of_ble_eq_true rfl) (Nat.le_of_ble_eq_true rfl) dX6_init_62 ?_
  refine aw_putRk (n := 22) (r := 18) 5 flX6_40 SH_1 (by decide) rfl rfl rfl (fun q h => by cases h; rfl) rfl dX6_init_65 ?_
  refine aw_aload_n (i := 0) (q := 0) dX6_init_68 rfl rfl ?_
  refine aw_iconst dX6_init_69 ?_
  refine aw_newQ (n := 22) (z := 5) (t := 1) (ck := 21) (sk := 2958) SH_23 (by decide) rfl ckX6_44 (Nat.le_of_ble_eq_true rfl) (Nat.le_of_ble_eq_true rfl) dX6_init_70 ?_
  refine aw_putRk (n := 23) (r := 23) 6 flX6_46 SH_1 (by decide) rfl rfl rfl (fun q h => by cases h; rfl) rfl dX6_init_73 ?_
  refine aw_aload_n (i := 0) (q := 0) dX6_init_76 rfl rfl ?_
  refine aw_bipush (x := 8) dX6_init_77 rfl ?_
  refine aw_newQ (n := 23) (z := 8) (t := 2) (ck := 22) (sk := 2963) SH_24 (by decide) rfl ckX6_50 (Nat.le_of_ble_eq_true rfl) (Nat.le_of_ble_eq_true rfl) dX6_init_79 ?_
  refine aw_putRk (n := 24) (r := 24) 7 flX6_52 SH_1 (by decide) rfl rfl rfl (fun q h => by cases h; rfl) rfl dX6_init_82 ?_
  refine aw_aload_n (i := 0) (q := 0) dX6_init_85 rfl rfl ?_
  refine aw_sipush (x := 720) dX6_init_86 rfl ?_
  refine aw_newI (n := 24) (z := 720) (ck := 23) (sk := 2971) SH_25 (Nat.le_of_ble_eq_true rfl) (Nat.le_of_ble_eq_true rfl) dX6_init_89 ?_
  refine aw_putRk (n := 25) (r := 25) 8 flX6_56 SH_1 (by decide) rfl rfl rfl (fun q h => by cases h; rfl) rfl dX6_init_91 ?_
  refine aw_aload_n (i := 0) (q := 0) dX6_init_94 rfl rfl ?_
  refine aw_sipush (x := 601) dX6_init_95 rfl ?_
  refine aw_newI (n := 25) (z := 601) (ck := 24) (sk := 3691) SH_26 (Nat.le_of_ble_eq_true rfl) (Nat.le_of_ble_eq_true rfl) dX6_init_98 ?_
  refine aw_putRk (n := 26) (r := 26) 9 flX6_60 SH_1 (by decide) rfl rfl rfl (fun q h => by cases h; rfl) rfl dX6_init_100 ?_
  refine aw_aload_n (i := 0) (q := 0) dX6_init_103 rfl rfl ?_
  refine aw_bipush (x := 51) dX6_init_104 rfl ?_
  refine aw_newI (n := 26) (z := 51) (ck := 25) (sk := 4292) SH_27 (Nat.le_of_ble_eq_true rfl) (Nat.le_of_ble_eq_true rfl) dX6_init_106 ?_
  refine aw_putRk (n := 27) (r := 27) 10 flX6_63 SH_1 (by decide) rfl rfl rfl (fun q h => by cases h; rfl) rfl dX6_init_108 ?_
  refine aw_aload_n (i := 0) (q := 0) dX6_init_111 rfl rfl ?_
  refine aw_iconst dX6_init_112 ?_
  refine aw_putIk (n := 27) 11 flX6_66 SH_1 (by decide) rfl rfl rfl (by decide) dX6_init_113 ?_
  refine aw_aload_n (i := 0) (q := 0) dX6_init_116 rfl rfl ?_
  refine aw_iconst dX6_init_117 ?_
  refine aw_putIk (n := 27) 12 flX6_70 SH_1 (by decide) rfl rfl rfl (by decide) dX6_init_118 ?_
  refine aw_aload_n (i := 0) (q := 0) dX6_init_121 rfl rfl ?_
  refine aw_iconst dX6_init_122 ?_
  refine aw_putIk (n := 27) 13 flX6_73 SH_1 (by decide) rfl rfl rfl (by decide) dX6_init_123 ?_
  refine aw_aload_n (i := 0) (q := 0) dX6_init_126 rfl rfl ?_
  refine aw_iconst dX6_init_127 ?_
  refine aw_putIk (n := 27) 14 flX6_76 SH_1 (by decide) rfl rfl rfl (by decide) dX6_init_128 ?_
  refine aw_aload_n (i := 0) (q := 0) dX6_init_131 rfl rfl ?_
  refine aw_sipush (x := 2000) dX6_init_132 rfl ?_
  refine aw_putIk (n := 27) 15 flX6_79 SH_1 (by decide) rfl rfl rfl (by decide) dX6_init_135 ?_
  refine aw_aload_n (i := 0) (q := 0) dX6_init_138 rfl rfl ?_
  refine aw_iconst dX6_init_139 ?_
  refine aw_putIk (n := 27) 16 flX6_82 SH_1 (by decide) rfl rfl rfl (by decide) dX6_init_140 ?_
  refine aw_iconst dX6_init_143 ?_
  refine aw_istore_n (i := 1) (lv' := [(0, .ref 1), (1, iI 0)]) [1, 0] dX6_init_144 rfl (by decide) rfl ?_
  refine aw_iload_n (i := 1) (q := 1) dX6_init_145 rfl rfl ?_
  refine aw_bipush (x := 12) dX6_init_146 rfl ?_
  refine aw_icmp_ge (tgt := 170) dX6_init_148 (by decide) (by decide) (by decide) (fun c => absurd c (by decide)) (fun c => ?_)
  refine aw_aload_n (i := 0) (q := 0) dX6_init_151 rfl rfl ?_
  refine aw_getR (r := 2) flX6_11 SH_1 (by decide) rfl (by decide +kernel) dX6_init_152 ?_
  refine aw_iload_n (i := 1) (q := 1) dX6_init_155 rfl rfl ?_
  refine aw_new (n := 27) (ck := 26) (sk := 4343) SH_28 (rfl : vwCl[0]? = _) ckX6_9 ins_RX0 hdf_0 (Nat.le_of_ble_eq_true rfl) (Nat.le_of_ble_eq_true rfl) dX6_init_156 ?_
  refine aw_dup dX6_init_159 rfl ?_
  refine aw_cNi (n := 28) (a := 28) (ck := 27) (sk := 4355) clX6_15 i_28 (Nat.le_of_ble_eq_true rfl) (by decide) (by decide) (Nat.le_of_ble_eq_true rfl) (Nat.le_of_ble_eq_true rfl) dX6_init_160 ?_
  refine aw_aast (n := 28) (t := 0) (i := 0) (v := 28) SH_2 (by decide) (by decide) ⟨by decide, by decide⟩ SH_28 (by decide) dX6_init_163 ?_
  refine aw_iinc (i := 1) (q := 1) (x := 0) (lv' := [(0, .ref 1), (1, iI 1)]) [1, 0] dX6_init_164 rfl (by decide) rfl ?_
  refine aw_goto (tgt := 145) dX6_init_167 (by decide) ?_
  refine aw_iload_n (i := 1) (q := 1) dX6_init_145 rfl rfl ?_
  refine aw_bipush (x := 12) dX6_init_146 rfl ?_
  refine aw_icmp_ge (tgt := 170) dX6_init_148 (by decide) (by decide) (by decide) (fun c => absurd c (by decide)) (fun c => ?_)
  refine aw_aload_n (i := 0) (q := 0) dX6_init_151 rfl rfl ?_
  refine aw_getR (r := 2) flX6_11 SH_1 (by decide) rfl (by decide +kernel) dX6_init_152 ?_
  refine aw_iload_n (i := 1) (q := 1) dX6_init_155 rfl rfl ?_
  refine aw_new (n := 28) (ck := 27) (sk := 4355) SH_29 (rfl : vwCl[0]? = _) ckX6_9 ins_RX0 hdf_0 (Nat.le_of_ble_eq_true rfl) (Nat.le_of_ble_eq_true rfl) dX6_init_156 ?_
  refine aw_dup dX6_init_159 rfl ?_
  refine aw_cNi (n := 29) (a := 29) (ck := 28) (sk := 4367) clX6_15 i_29 (Nat.le_of_ble_eq_true rfl) (by decide) (by decide) (Nat.le_of_ble_eq_true rfl) (Nat.le_of_ble_eq_true rfl) dX6_init_160 ?_
  refine aw_aast (n := 29) (t := 0) (i := 1) (v := 29) SH_2 (by decide) (by decide) ⟨by decide, by decide⟩ SH_29 (by decide) dX6_init_163 ?_
  refine aw_iinc (i := 1) (q := 1) (x := 1) (lv' := [(0, .ref 1), (1, iI 2)]) [1, 0] dX6_init_164 rfl (by decide) rfl ?_
  refine aw_goto (tgt := 145) dX6_init_167 (by decide) ?_
  refine aw_iload_n (i := 1) (q := 1) dX6_init_145 rfl rfl ?_
  refine aw_bipush (x := 12) dX6_init_146 rfl ?_
  refine aw_icmp_ge (tgt := 170) dX6_init_148 (by decide) (by decide) (by decide) (fun c => absurd c (by decide)) (fun c => ?_)
  refine aw_aload_n (i := 0) (q := 0) dX6_init_151 rfl rfl ?_
  refine aw_getR (r := 2) flX6_11 SH_1 (by decide) rfl (by decide +kernel) dX6_init_152 ?_
  refine aw_iload_n (i := 1) (q := 1) dX6_init_155 rfl rfl ?_
  refine aw_new (n := 29) (ck := 28) (sk := 4367) SH_30 (rfl : vwCl[0]? = _) ckX6_9 ins_RX0 hdf_0 (Nat.le_of_ble_eq_true rfl) (Nat.le_of_ble_eq_true rfl) dX6_init_156 ?_
  refine aw_dup dX6_init_159 rfl ?_
  refine aw_cNi (n := 30) (a := 30) (ck := 29) (sk := 4379) clX6_15 i_30 (Nat.le_of_ble_eq_true rfl) (by decide) (by decide) (Nat.le_of_ble_eq_true rfl) (Nat.le_of_ble_eq_true rfl) dX6_init_160 ?_
  refine aw_aast (n := 30) (t := 0) (i := 2) (v := 30) SH_2 (by decide) (by decide) ⟨by decide, by decide⟩ SH_30 (by decide) dX6_init_163 ?_
  refine aw_iinc (i := 1) (q := 1) (x := 2) (lv' := [(0, .ref 1), (1, iI 3)]) [1, 0] dX6_init_164 rfl (by decide) rfl ?_
  refine aw_goto (tgt := 145) dX6_init_167 (by decide) ?_
  refine aw_iload_n (i := 1) (q := 1) dX6_init_145 rfl rfl ?_
  refine aw_bipush (x := 12) dX6_init_146 rfl ?_
  refine aw_icmp_ge (tgt := 170) dX6_init_148 (by decide) (by decide) (by decide) (fun c => absurd c (by decide)) (fun c => ?_)
  refine aw_aload_n (i := 0) (q := 0) dX6_init_151 rfl rfl ?_
  refine aw_getR (r := 2) flX6_11 SH_1 (by decide) rfl (by decide +kernel) dX6_init_152 ?_
  refine aw_iload_n (i := 1) (q := 1) dX6_init_155 rfl rfl ?_
  refine aw_new (n := 30) (ck := 29) (sk := 4379) SH_31 (rfl : vwCl[0]? = _) ckX6_9 ins_RX0 hdf_0 (Nat.le_of_ble_eq_true rfl) (Nat.le_of_ble_eq_true rfl) dX6_init_156 ?_
  refine aw_dup dX6_init_159 rfl ?_
  refine aw_cNi (n := 31) (a := 31) (ck := 30) (sk := 4391) clX6_15 i_31 (Nat.le_of_ble_eq_true rfl) (by decide) (by decide) (Nat.le_of_ble_eq_true rfl) (Nat.le_of_ble_eq_true rfl) dX6_init_160 ?_
  refine aw_aast (n := 31) (t := 0) (i := 3) (v := 31) SH_2 (by decide) (by decide) ⟨by decide, by decide⟩ SH_31 (by decide) dX6_init_163 ?_
  refine aw_iinc (i := 1) (q := 1) (x := 3) (lv' := [(0, .ref 1), (1, iI 4)]) [1, 0] dX6_init_164 rfl (by decide) rfl ?_
  refine aw_goto (tgt := 145) dX6_init_167 (by decide) ?_
  refine aw_iload_n (i := 1) (q := 1) dX6_init_145 rfl rfl ?_
  refine aw_bipush (x := 12) dX6_init_146 rfl ?_
  refine aw_icmp_ge (tgt := 170) dX6_init_148 (by decide) (by decide) (by decide) (fun c => absurd c (by decide)) (fun c => ?_)
  refine aw_aload_n (i := 0) (q := 0) dX6_init_151 rfl rfl ?_
  refine aw_getR (r := 2) flX6_11 SH_1 (by decide) rfl (by decide +kernel) dX6_init_152 ?_
  refine aw_iload_n (i := 1) (q := 1) dX6_init_155 rfl rfl ?_
  refine aw_new (n := 31) (ck := 30) (sk := 4391) SH_32 (rfl : vwCl[0]? = _) ckX6_9 ins_RX0 hdf_0 (Nat.le_of_ble_eq_true rfl) (Nat.le_of_ble_eq_true rfl) dX6_init_156 ?_
  refine aw_dup dX6_init_159 rfl ?_
  refine aw_cNi (n := 32) (a := 32) (ck := 31) (sk := 4403) clX6_15 i_32 (Nat.le_of_ble_eq_true rfl) (by decide) (by decide) (Nat.le_of_ble_eq_true rfl) (Nat.le_of_ble_eq_true rfl) dX6_init_160 ?_
  refine aw_aast (n := 32) (t := 0) (i := 4) (v := 32) SH_2 (by decide) (by decide) ⟨by decide, by decide⟩ SH_32 (by decide) dX6_init_163 ?_
  refine aw_iinc (i := 1) (q := 1) (x := 4) (lv' := [(0, .ref 1), (1, iI 5)]) [1, 0] dX6_init_164 rfl (by decide) rfl ?_
  refine aw_goto (tgt := 145) dX6_init_167 (by decide) ?_
  refine aw_iload_n (i := 1) (q := 1) dX6_init_145 rfl rfl ?_
  refine aw_bipush (x := 12) dX6_init_146 rfl ?_
  refine aw_icmp_ge (tgt := 170) dX6_init_148 (by decide) (by decide) (by decide) (fun c => absurd c (by decide)) (fun c => ?_)
  refine aw_aload_n (i := 0) (q := 0) dX6_init_151 rfl rfl ?_
  refine aw_getR (r := 2) flX6_11 SH_1 (by decide) rfl (by decide +kernel) dX6_init_152 ?_
  refine aw_iload_n (i := 1) (q := 1) dX6_init_155 rfl rfl ?_
  refine aw_new (n := 32) (ck := 31) (sk := 4403) SH_33 (rfl : vwCl[0]? = _) ckX6_9 ins_RX0 hdf_0 (Nat.le_of_ble_eq_true rfl) (Nat.le_of_ble_eq_true rfl) dX6_init_156 ?_
  refine aw_dup dX6_init_159 rfl ?_
  refine aw_cNi (n := 33) (a := 33) (ck := 32) (sk := 4415) clX6_15 i_33 (Nat.le_of_ble_eq_true rfl) (by decide) (by decide) (Nat.le_of_ble_eq_true rfl) (Nat.le_of_ble_eq_true rfl) dX6_init_160 ?_
  refine aw_aast (n := 33) (t := 0) (i := 5) (v := 33) SH_2 (by decide) (by decide) ⟨by decide, by decide⟩ SH_33 (by decide) dX6_init_163 ?_
  refine aw_iinc (i := 1) (q := 1) (x := 5) (lv' := [(0, .ref 1), (1, iI 6)]) [1, 0] dX6_init_164 rfl (by decide) rfl ?_
  refine aw_goto (tgt := 145) dX6_init_167 (by decide) ?_
  refine aw_iload_n (i := 1) (q := 1) dX6_init_145 rfl rfl ?_
  refine aw_bipush (x := 12) dX6_init_146 rfl ?_
  refine aw_icmp_ge (tgt := 170) dX6_init_148 (by decide) (by decide) (by decide) (fun c => absurd c (by decide)) (fun c => ?_)
  refine aw_aload_n (i := 0) (q := 0) dX6_init_151 rfl rfl ?_
  refine aw_getR (r := 2) flX6_11 SH_1 (by decide) rfl (by decide +kernel) dX6_init_152 ?_
  refine aw_iload_n (i := 1) (q := 1) dX6_init_155 rfl rfl ?_
  refine aw_new (n := 33) (ck := 32) (sk := 4415) SH_34 (rfl : vwCl[0]? = _) ckX6_9 ins_RX0 hdf_0 (Nat.le_of_ble_eq_true rfl) (Nat.le_of_ble_eq_true rfl) dX6_init_156 ?_
  refine aw_dup dX6_init_159 rfl ?_
  refine aw_cNi (n := 34) (a := 34) (ck := 33) (sk := 4427) clX6_15 i_34 (Nat.le_of_ble_eq_true rfl) (by decide) (by decide) (Nat.le_of_ble_eq_true rfl) (Nat.le_of_ble_eq_true rfl) dX6_init_160 ?_
  refine aw_aast (n := 34) (t := 0) (i := 6) (v := 34) SH_2 (by decide) (by decide) ⟨by decide, by decide⟩ SH_34 (by decide) dX6_init_163 ?_
  refine aw_iinc (i := 1) (q := 1) (x := 6) (lv' := [(0, .ref 1), (1, iI 7)]) [1, 0] dX6_init_164 rfl (by decide) rfl ?_
  refine aw_goto (tgt := 145) dX6_init_167 (by decide) ?_
  refine aw_iload_n (i := 1) (q := 1) dX6_init_145 rfl rfl ?_
  refine aw_bipush (x := 12) dX6_init_146 rfl ?_
  refine aw_icmp_ge (tgt := 170) dX6_init_148 (by decide) (by decide) (by decide) (fun c => absurd c (by decide)) (fun c => ?_)
  refine aw_aload_n (i := 0) (q := 0) dX6_init_151 rfl rfl ?_
  refine aw_getR (r := 2) flX6_11 SH_1 (by decide) rfl (by decide +kernel) dX6_init_152 ?_
  refine aw_iload_n (i := 1) (q := 1) dX6_init_155 rfl rfl ?_
  refine aw_new (n := 34) (ck := 33) (sk := 4427) SH_35 (rfl : vwCl[0]? = _) ckX6_9 ins_RX0 hdf_0 (Nat.le_of_ble_eq_true rfl) (Nat.le_of_ble_eq_true rfl) dX6_init_156 ?_
  refine aw_dup dX6_init_159 rfl ?_
  refine aw_cNi (n := 35) (a := 35) (ck := 34) (sk := 4439) clX6_15 i_35 (Nat.le_of_ble_eq_true rfl) (by decide) (by decide) (Nat.le_of_ble_eq_true rfl) (Nat.le_of_ble_eq_true rfl) dX6_init_160 ?_
  refine aw_aast (n := 35) (t := 0) (i := 7) (v := 35) SH_2 (by decide) (by decide) ⟨by decide, by decide⟩ SH_35 (by decide) dX6_init_163 ?_
  refine aw_iinc (i := 1) (q := 1) (x := 7) (lv' := [(0, .ref 1), (1, iI 8)]) [1, 0] dX6_init_164 rfl (by decide) rfl ?_
  refine aw_goto (tgt := 145) dX6_init_167 (by decide) ?_
  refine aw_iload_n (i := 1) (q := 1) dX6_init_145 rfl rfl ?_
  refine aw_bipush (x := 12) dX6_init_146 rfl ?_
  refine aw_icmp_ge (tgt := 170) dX6_init_148 (by decide) (by decide) (by decide) (fun c => absurd c (by decide)) (fun c => ?_)
  refine aw_aload_n (i := 0) (q := 0) dX6_init_151 rfl rfl ?_
  refine aw_getR (r := 2) flX6_11 SH_1 (by decide) rfl (by decide +kernel) dX6_init_152 ?_
  refine aw_iload_n (i := 1) (q := 1) dX6_init_155 rfl rfl ?_
  refine aw_new (n := 35) (ck := 34) (sk := 4439) SH_36 (rfl : vwCl[0]? = _) ckX6_9 ins_RX0 hdf_0 (Nat.le_of_ble_eq_true rfl) (Nat.le_of_ble_eq_true rfl) dX6_init_156 ?_
  refine aw_dup dX6_init_159 rfl ?_
  refine aw_cNi (n := 36) (a := 36) (ck := 35) (sk := 4451) clX6_15 i_36 (Nat.le_of_ble_eq_true rfl) (by decide) (by decide) (Nat.le_of_ble_eq_true rfl) (Nat.le_of_ble_eq_true rfl) dX6_init_160 ?_
  refine aw_aast (n := 36) (t := 0) (i := 8) (v := 36) SH_2 (by decide) (by decide) ⟨by decide, by decide⟩ SH_36 (by decide) dX6_init_163 ?_
  refine aw_iinc (i := 1) (q := 1) (x := 8) (lv' := [(0, .ref 1), (1, iI 9)]) [1, 0] dX6_init_164 rfl (by decide) rfl ?_
  refine aw_goto (tgt := 145) dX6_init_167 (by decide) ?_
  refine aw_iload_n (i := 1) (q := 1) dX6_init_145 rfl rfl ?_
  refine aw_bipush (x := 12) dX6_init_146 rfl ?_
  refine aw_icmp_ge (tgt := 170) dX6_init_148 (by decide) (by decide) (by decide) (fun c => absurd c (by decide)) (fun c => ?_)
  refine aw_aload_n (i := 0) (q := 0) dX6_init_151 rfl rfl ?_
  refine aw_getR (r := 2) flX6_11 SH_1 (by decide) rfl (by decide +kernel) dX6_init_152 ?_
  refine aw_iload_n (i := 1) (q := 1) dX6_init_155 rfl rfl ?_
  refine aw_new (n := 36) (ck := 35) (sk := 4451) SH_37 (rfl : vwCl[0]? = _) ckX6_9 ins_RX0 hdf_0 (Nat.le_of_ble_eq_true rfl) (Nat.le_of_ble_eq_true rfl) dX6_init_156 ?_
  refine aw_dup dX6_init_159 rfl ?_
  refine aw_cNi (n := 37) (a := 37) (ck := 36) (sk := 4463) clX6_15 i_37 (Nat.le_of_ble_eq_true rfl) (by decide) (by decide) (Nat.le_of_ble_eq_true rfl) (Nat.le_of_ble_eq_true rfl) dX6_init_160 ?_
  refine aw_aast (n := 37) (t := 0) (i := 9) (v := 37) SH_2 (by decide) (by decide) ⟨by decide, by decide⟩ SH_37 (by decide) dX6_init_163 ?_
  refine aw_iinc (i := 1) (q := 1) (x := 9) (lv' := [(0, .ref 1), (1, iI 10)]) [1, 0] dX6_init_164 rfl (by decide) rfl ?_
  refine aw_goto (tgt := 145) dX6_init_167 (by decide) ?_
  refine aw_iload_n (i := 1) (q := 1) dX6_init_145 rfl rfl ?_
  refine aw_bipush (x := 12) dX6_init_146 rfl ?_
  refine aw_icmp_ge (tgt := 170) dX6_init_148 (by decide) (by decide) (by decide) (fun c => absurd c (by decide)) (fun c => ?_)
  refine aw_aload_n (i := 0) (q := 0) dX6_init_151 rfl rfl ?_
  refine aw_getR (r := 2) flX6_11 SH_1 (by decide) rfl (by decide +kernel) dX6_init_152 ?_
  refine aw_iload_n (i := 1) (q := 1) dX6_init_155 rfl rfl ?_
  refine aw_new (n := 37) (ck := 36) (sk := 4463) SH_38 (rfl : vwCl[0]? = _) ckX6_9 ins_RX0 hdf_0 (Nat.le_of_ble_eq_true rfl) (Nat.le_of_ble_eq_true rfl) dX6_init_156 ?_
  refine aw_dup dX6_init_159 rfl ?_
  refine aw_cNi (n := 38) (a := 38) (ck := 37) (sk := 4475) clX6_15 i_38 (Nat.le_of_ble_eq_true rfl) (by decide) (by decide) (Nat.le_of_ble_eq_true rfl) (Nat.le_of_ble_eq_true rfl) dX6_init_160 ?_
  refine aw_aast (n := 38) (t := 0) (i := 10) (v := 38) SH_2 (by decide) (by decide) ⟨by decide, by decide⟩ SH_38 (by decide) dX6_init_163 ?_
  refine aw_iinc (i := 1) (q := 1) (x := 10) (lv' := [(0, .ref 1), (1, iI 11)]) [1, 0] dX6_init_164 rfl (by decide) rfl ?_
  refine aw_goto (tgt := 145) dX6_init_167 (by decide) ?_
  refine aw_iload_n (i := 1) (q := 1) dX6_init_145 rfl rfl ?_
  refine aw_bipush (x := 12) dX6_init_146 rfl ?_
  refine aw_icmp_ge (tgt := 170) dX6_init_148 (by decide) (by decide) (by decide) (fun c => absurd c (by decide)) (fun c => ?_)
  refine aw_aload_n (i := 0) (q := 0) dX6_init_151 rfl rfl ?_
  refine aw_getR (r := 2) flX6_11 SH_1 (by decide) rfl (by decide +kernel) dX6_init_152 ?_
  refine aw_iload_n (i := 1) (q := 1) dX6_init_155 rfl rfl ?_
  refine aw_new (n := 38) (ck := 37) (sk := 4475) SH_39 (rfl : vwCl[0]? = _) ckX6_9 ins_RX0 hdf_0 (Nat.le_of_ble_eq_true rfl) (Nat.le_of_ble_eq_true rfl) dX6_init_156 ?_
  refine aw_dup dX6_init_159 rfl ?_
  refine aw_cNi (n := 39) (a := 39) (ck := 38) (sk := 4487) clX6_15 i_39 (Nat.le_of_ble_eq_true rfl) (by decide) (by decide) (Nat.le_of_ble_eq_true rfl) (Nat.le_of_ble_eq_true rfl) dX6_init_160 ?_
  refine aw_aast (n := 39) (t := 0) (i := 11) (v := 39) SH_2 (by decide) (by decide) ⟨by decide, by decide⟩ SH_39 (by decide) dX6_init_163 ?_
  refine aw_iinc (i := 1) (q := 1) (x := 11) (lv' := [(0, .ref 1), (1, iI 12)]) [1, 0] dX6_init_164 rfl (by decide) rfl ?_
  refine aw_goto (tgt := 145) dX6_init_167 (by decide) ?_
  refine aw_iload_n (i := 1) (q := 1) dX6_init_145 rfl rfl ?_
  refine aw_bipush (x := 12) dX6_init_146 rfl ?_
  refine aw_icmp_ge (tgt := 170) dX6_init_148 (by decide) (by decide) (by decide) (fun c => ?_) (fun c => absurd c (by decide))
  refine aw_iconst dX6_init_170 ?_
  refine aw_istore_n (i := 1) (lv' := [(0, .ref 1), (1, iI 0)]) [1, 0] dX6_init_171 rfl (by decide) rfl ?_
  refine aw_iload_n (i := 1) (q := 1) dX6_init_172 rfl rfl ?_
  refine aw_iconst dX6_init_173 ?_
  refine aw_icmp_ge (tgt := 196) dX6_init_174 (by decide) (by decide) (by decide) (fun c => absurd c (by decide)) (fun c => ?_)
  refine aw_aload_n (i := 0) (q := 0) dX6_init_177 rfl rfl ?_
  refine aw_getR (r := 23) flX6_46 SH_1 (by decide) rfl (by decide +kernel) dX6_init_178 ?_
  refine aw_iload_n (i := 1) (q := 1) dX6_init_181 rfl rfl ?_
  refine aw_new (n := 39) (ck := 38) (sk := 4487) SH_40 (rfl : vwCl[2]? = _) ckX6_44 ins_RX2 hdf_2 (Nat.le_of_ble_eq_true rfl) (Nat.le_of_ble_eq_true rfl) dX6_init_182 ?_
  refine aw_dup dX6_init_185 rfl ?_
  refine aw_cNi (n := 40) (a := 40) (ck := 39) (sk := 4489) clX6_85 i_40 (Nat.le_of_ble_eq_true rfl) (by decide) (by decide) (Nat.le_of_ble_eq_true rfl) (Nat.le_of_ble_eq_true rfl) dX6_init_186 ?_
  refine aw_aast (n := 41) (t := 1) (i := 0) (v := 40) SH_23 (by decide) (by decide) ⟨by decide, by decide⟩ SH_40 (by decide) dX6_init_189 ?_
  refine aw_iinc (i := 1) (q := 1) (x := 0) (lv' := [(0, .ref 1), (1, iI 1)]) [1, 0] dX6_init_190 rfl (by decide) rfl ?_
  refine aw_goto (tgt := 172) dX6_init_193 (by decide) ?_
  refine aw_iload_n (i := 1) (q := 1) dX6_init_172 rfl rfl ?_
  refine aw_iconst dX6_init_173 ?_
  refine aw_icmp_ge (tgt := 196) dX6_init_174 (by decide) (by decide) (by decide) (fun c => absurd c (by decide)) (fun c => ?_)
  refine aw_aload_n (i := 0) (q := 0) dX6_init_177 rfl rfl ?_
  refine aw_getR (r := 23) flX6_46 SH_1 (by decide) rfl (by decide +kernel) dX6_init_178 ?_
  refine aw_iload_n (i := 1) (q := 1) dX6_init_181 rfl rfl ?_
  refine aw_new (n := 41) (ck := 40) (sk := 4589) SH_42 (rfl : vwCl[2]? = _) ckX6_44 ins_RX2 hdf_2 (Nat.le_of_ble_eq_true rfl) (Nat.le_of_ble_eq_true rfl) dX6_init_182 ?_
  refine aw_dup dX6_init_185 rfl ?_
  refine aw_cNi (n := 42) (a := 42) (ck := 41) (sk := 4591) clX6_85 i_42 (Nat.le_of_ble_eq_true rfl) (by decide) (by decide) (Nat.le_of_ble_eq_true rfl) (Nat.le_of_ble_eq_true rfl) dX6_init_186 ?_
  refine aw_aast (n := 43) (t := 1) (i := 1) (v := 42) SH_23 (by decide) (by decide) ⟨by decide, by decide⟩ SH_42 (by decide) dX6_init_189 ?_
  refine aw_iinc (i := 1) (q := 1) (x := 1) (lv' := [(0, .ref 1), (1, iI 2)]) [1, 0] dX6_init_190 rfl (by decide) rfl ?_
  refine aw_goto (tgt := 172) dX6_init_193 (by decide) ?_
  refine aw_iload_n (i := 1) (q := 1) dX6_init_172 rfl rfl ?_
  refine aw_iconst dX6_init_173 ?_
  refine aw_icmp_ge (tgt := 196) dX6_init_174 (by decide) (by decide) (by decide) (fun c => absurd c (by decide)) (fun c => ?_)
  refine aw_aload_n (i := 0) (q := 0) dX6_init_177 rfl rfl ?_
  refine aw_getR (r := 23) flX6_46 SH_1 (by decide) rfl (by decide +kernel) dX6_init_178 ?_
  refine aw_iload_n (i := 1) (q := 1) dX6_init_181 rfl rfl ?_
  refine aw_new (n := 43) (ck := 42) (sk := 4691) SH_44 (rfl : vwCl[2]? = _) ckX6_44 ins_RX2 hdf_2 (Nat.le_of_ble_eq_true rfl) (Nat.le_of_ble_eq_true rfl) dX6_init_182 ?_
  refine aw_dup dX6_init_185 rfl ?_
  refine aw_cNi (n := 44) (a := 44) (ck := 43) (sk := 4693) clX6_85 i_44 (Nat.le_of_ble_eq_true rfl) (by decide) (by decide) (Nat.le_of_ble_eq_true rfl) (Nat.le_of_ble_eq_true rfl) dX6_init_186 ?_
  refine aw_aast (n := 45) (t := 1) (i := 2) (v := 44) SH_23 (by decide) (by decide) ⟨by decide, by decide⟩ SH_44 (by decide) dX6_init_189 ?_
  refine aw_iinc (i := 1) (q := 1) (x := 2) (lv' := [(0, .ref 1), (1, iI 3)]) [1, 0] dX6_init_190 rfl (by decide) rfl ?_
  refine aw_goto (tgt := 172) dX6_init_193 (by decide) ?_
  refine aw_iload_n (i := 1) (q := 1) dX6_init_172 rfl rfl ?_
  refine aw_iconst dX6_init_173 ?_
  refine aw_icmp_ge (tgt := 196) dX6_init_174 (by decide) (by decide) (by decide) (fun c => absurd c (by decide)) (fun c => ?_)
  refine aw_aload_n (i := 0) (q := 0) dX6_init_177 rfl rfl ?_
  refine aw_getR (r := 23) flX6_46 SH_1 (by decide) rfl (by decide +kernel) dX6_init_178 ?_
  refine aw_iload_n (i := 1) (q := 1) dX6_init_181 rfl rfl ?_
  refine aw_new (n := 45) (ck := 44) (sk := 4793) SH_46 (rfl : vwCl[2]? = _) ckX6_44 ins_RX2 hdf_2 (Nat.le_of_ble_eq_true rfl) (Nat.le_of_ble_eq_true rfl) dX6_init_182 ?_
  refine aw_dup dX6_init_185 rfl ?_
  refine aw_cNi (n := 46) (a := 46) (ck := 45) (sk := 4795) clX6_85 i_46 (Nat.le_of_ble_eq_true rfl) (by decide) (by decide) (Nat.le_of_ble_eq_true rfl) (Nat.le_of_ble_eq_true rfl) dX6_init_186 ?_
  refine aw_aast (n := 47) (t := 1) (i := 3) (v := 46) SH_23 (by decide) (by decide) ⟨by decide, by decide⟩ SH_46 (by decide) dX6_init_189 ?_
  refine aw_iinc (i := 1) (q := 1) (x := 3) (lv' := [(0, .ref 1), (1, iI 4)]) [1, 0] dX6_init_190 rfl (by decide) rfl ?_
  refine aw_goto (tgt := 172) dX6_init_193 (by decide) ?_
  refine aw_iload_n (i := 1) (q := 1) dX6_init_172 rfl rfl ?_
  refine aw_iconst dX6_init_173 ?_
  refine aw_icmp_ge (tgt := 196) dX6_init_174 (by decide) (by decide) (by decide) (fun c => absurd c (by decide)) (fun c => ?_)
  refine aw_aload_n (i := 0) (q := 0) dX6_init_177 rfl rfl ?_
  refine aw_getR (r := 23) flX6_46 SH_1 (by decide) rfl (by decide +kernel) dX6_init_178 ?_
  refine aw_iload_n (i := 1) (q := 1) dX6_init_181 rfl rfl ?_
  refine aw_new (n := 47) (ck := 46) (sk := 4895) SH_48 (rfl : vwCl[2]? = _) ckX6_44 ins_RX2 hdf_2 (Nat.le_of_ble_eq_true rfl) (Nat.le_of_ble_eq_true rfl) dX6_init_182 ?_
  refine aw_dup dX6_init_185 rfl ?_
  refine aw_cNi (n := 48) (a := 48) (ck := 47) (sk := 4897) clX6_85 i_48 (Nat.le_of_ble_eq_true rfl) (by decide) (by decide) (Nat.le_of_ble_eq_true rfl) (Nat.le_of_ble_eq_true rfl) dX6_init_186 ?_
  refine aw_aast (n := 49) (t := 1) (i := 4) (v := 48) SH_23 (by decide) (by decide) ⟨by decide, by decide⟩ SH_48 (by decide) dX6_init_189 ?_
  refine aw_iinc (i := 1) (q := 1) (x := 4) (lv' := [(0, .ref 1), (1, iI 5)]) [1, 0] dX6_init_190 rfl (by decide) rfl ?_
  refine aw_goto (tgt := 172) dX6_init_193 (by decide) ?_
  refine aw_iload_n (i := 1) (q := 1) dX6_init_172 rfl rfl ?_
  refine aw_iconst dX6_init_173 ?_
  refine aw_icmp_ge (tgt := 196) dX6_init_174 (by decide) (by decide) (by decide) (fun c => ?_) (fun c => absurd c (by decide))
  refine aw_iconst dX6_init_196 ?_
  refine aw_istore_n (i := 1) (lv' := [(0, .ref 1), (1, iI 0)]) [1, 0] dX6_init_197 rfl (by decide) rfl ?_
  refine aw_iload_n (i := 1) (q := 1) dX6_init_198 rfl rfl ?_
  refine aw_bipush (x := 8) dX6_init_199 rfl ?_
  refine aw_icmp_ge (tgt := 223) dX6_init_201 (by decide) (by decide) (by decide) (fun c => absurd c (by decide)) (fun c => ?_)
  refine aw_aload_n (i := 0) (q := 0) dX6_init_204 rfl rfl ?_
  refine aw_getR (r := 24) flX6_52 SH_1 (by decide) rfl (by decide +kernel) dX6_init_205 ?_
  refine aw_iload_n (i := 1) (q := 1) dX6_init_208 rfl rfl ?_
  refine aw_new (n := 49) (ck := 48) (sk := 4997) SH_50 (rfl : vwCl[1]? = _) ckX6_50 ins_RX1 hdf_1 (Nat.le_of_ble_eq_true rfl) (Nat.le_of_ble_eq_true rfl) dX6_init_209 ?_
  refine aw_dup dX6_init_212 rfl ?_
  refine aw_cNi (n := 50) (a := 50) (ck := 49) (sk := 5003) clX6_86 i_50 (Nat.le_of_ble_eq_true rfl) (by decide) (by decide) (Nat.le_of_ble_eq_true rfl) (Nat.le_of_ble_eq_true rfl) dX6_init_213 ?_
  refine aw_aast (n := 50) (t := 2) (i := 0) (v := 50) SH_24 (by decide) (by decide) ⟨by decide, by decide⟩ SH_50 (by decide) dX6_init_216 ?_
  refine aw_iinc (i := 1) (q := 1) (x := 0) (lv' := [(0, .ref 1), (1, iI 1)]) [1, 0] dX6_init_217 rfl (by decide) rfl ?_
  refine aw_goto (tgt := 198) dX6_init_220 (by decide) ?_
  refine aw_iload_n (i := 1) (q := 1) dX6_init_198 rfl rfl ?_
  refine aw_bipush (x := 8) dX6_init_199 rfl ?_
  refine aw_icmp_ge (tgt := 223) dX6_init_201 (by decide) (by decide) (by decide) (fun c => absurd c (by decide)) (fun c => ?_)
  refine aw_aload_n (i := 0) (q := 0) dX6_init_204 rfl rfl ?_
  refine aw_getR (r := 24) flX6_52 SH_1 (by decide) rfl (by decide +kernel) dX6_init_205 ?_
  refine aw_iload_n (i := 1) (q := 1) dX6_init_208 rfl rfl ?_
  refine aw_new (n := 50) (ck := 49) (sk := 5003) SH_51 (rfl : vwCl[1]? = _) ckX6_50 ins_RX1 hdf_1 (Nat.le_of_ble_eq_true rfl) (Nat.le_of_ble_eq_true rfl) dX6_init_209 ?_
  refine aw_dup dX6_init_212 rfl ?_
  refine aw_cNi (n := 51) (a := 51) (ck := 50) (sk := 5009) clX6_86 i_51 (Nat.le_of_ble_eq_true rfl) (by decide) (by decide) (Nat.le_of_ble_eq_true rfl) (Nat.le_of_ble_eq_true rfl) dX6_init_213 ?_
  refine aw_aast (n := 51) (t := 2) (i := 1) (v := 51) SH_24 (by decide) (by decide) ⟨by decide, by decide⟩ SH_51 (by decide) dX6_init_216 ?_
  refine aw_iinc (i := 1) (q := 1) (x := 1) (lv' := [(0, .ref 1), (1, iI 2)]) [1, 0] dX6_init_217 rfl (by decide) rfl ?_
  refine aw_goto (tgt := 198) dX6_init_220 (by decide) ?_
  refine aw_iload_n (i := 1) (q := 1) dX6_init_198 rfl rfl ?_
  refine aw_bipush (x := 8) dX6_init_199 rfl ?_
  refine aw_icmp_ge (tgt := 223) dX6_init_201 (by decide) (by decide) (by decide) (fun c => absurd c (by decide)) (fun c => ?_)
  refine aw_aload_n (i := 0) (q := 0) dX6_init_204 rfl rfl ?_
  refine aw_getR (r := 24) flX6_52 SH_1 (by decide) rfl (by decide +kernel) dX6_init_205 ?_
  refine aw_iload_n (i := 1) (q := 1) dX6_init_208 rfl rfl ?_
  refine aw_new (n := 51) (ck := 50) (sk := 5009) SH_52 (rfl : vwCl[1]? = _) ckX6_50 ins_RX1 hdf_1 (Nat.le_of_ble_eq_true rfl) (Nat.le_of_ble_eq_true rfl) dX6_init_209 ?_
  refine aw_dup dX6_init_212 rfl ?_
  refine aw_cNi (n := 52) (a := 52) (ck := 51) (sk := 5015) clX6_86 i_52 (Nat.le_of_ble_eq_true rfl) (by decide) (by decide) (Nat.le_of_ble_eq_true rfl) (Nat.le_of_ble_eq_true rfl) dX6_init_213 ?_
  refine aw_aast (n := 52) (t := 2) (i := 2) (v := 52) SH_24 (by decide) (by decide) ⟨by decide, by decide⟩ SH_52 (by decide) dX6_init_216 ?_
  refine aw_iinc (i := 1) (q := 1) (x := 2) (lv' := [(0, .ref 1), (1, iI 3)]) [1, 0] dX6_init_217 rfl (by decide) rfl ?_
  refine aw_goto (tgt := 198) dX6_init_220 (by decide) ?_
  refine aw_iload_n (i := 1) (q := 1) dX6_init_198 rfl rfl ?_
  refine aw_bipush (x := 8) dX6_init_199 rfl ?_
  refine aw_icmp_ge (tgt := 223) dX6_init_201 (by decide) (by decide) (by decide) (fun c => absurd c (by decide)) (fun c => ?_)
  refine aw_aload_n (i := 0) (q := 0) dX6_init_204 rfl rfl ?_
  refine aw_getR (r := 24) flX6_52 SH_1 (by decide) rfl (by decide +kernel) dX6_init_205 ?_
  refine aw_iload_n (i := 1) (q := 1) dX6_init_208 rfl rfl ?_
  refine aw_new (n := 52) (ck := 51) (sk := 5015) SH_53 (rfl : vwCl[1]? = _) ckX6_50 ins_RX1 hdf_1 (Nat.le_of_ble_eq_true rfl) (Nat.le_of_ble_eq_true rfl) dX6_init_209 ?_
  refine aw_dup dX6_init_212 rfl ?_
  refine aw_cNi (n := 53) (a := 53) (ck := 52) (sk := 5021) clX6_86 i_53 (Nat.le_of_ble_eq_true rfl) (by decide) (by decide) (Nat.le_of_ble_eq_true rfl) (Nat.le_of_ble_eq_true rfl) dX6_init_213 ?_
  refine aw_aast (n := 53) (t := 2) (i := 3) (v := 53) SH_24 (by decide) (by decide) ⟨by decide, by decide⟩ SH_53 (by decide) dX6_init_216 ?_
  refine aw_iinc (i := 1) (q := 1) (x := 3) (lv' := [(0, .ref 1), (1, iI 4)]) [1, 0] dX6_init_217 rfl (by decide) rfl ?_
  refine aw_goto (tgt := 198) dX6_init_220 (by decide) ?_
  refine aw_iload_n (i := 1) (q := 1) dX6_init_198 rfl rfl ?_
  refine aw_bipush (x := 8) dX6_init_199 rfl ?_
  refine aw_icmp_ge (tgt := 223) dX6_init_201 (by decide) (by decide) (by decide) (fun c => absurd c (by decide)) (fun c => ?_)
  refine aw_aload_n (i := 0) (q := 0) dX6_init_204 rfl rfl ?_
  refine aw_getR (r := 24) flX6_52 SH_1 (by decide) rfl (by decide +kernel) dX6_init_205 ?_
  refine aw_iload_n (i := 1) (q := 1) dX6_init_208 rfl rfl ?_
  refine aw_new (n := 53) (ck := 52) (sk := 5021) SH_54 (rfl : vwCl[1]? = _) ckX6_50 ins_RX1 hdf_1 (Nat.le_of_ble_eq_true rfl) (Nat.le_of_ble_eq_true rfl) dX6_init_209 ?_
  refine aw_dup dX6_init_212 rfl ?_
  refine aw_cNi (n := 54) (a := 54) (ck := 53) (sk := 5027) clX6_86 i_54 (Nat.le_of_ble_eq_true rfl) (by decide) (by decide) (Nat.le_of_ble_eq_true rfl) (Nat.le_of_ble_eq_true rfl) dX6_init_213 ?_
  refine aw_aast (n := 54) (t := 2) (i := 4) (v := 54) SH_24 (by decide) (by decide) ⟨by decide, by decide⟩ SH_54 (by decide) dX6_init_216 ?_
  refine aw_iinc (i := 1) (q := 1) (x := 4) (lv' := [(0, .ref 1), (1, iI 5)]) [1, 0] dX6_init_217 rfl (by decide) rfl ?_
  refine aw_goto (tgt := 198) dX6_init_220 (by decide) ?_
  refine aw_iload_n (i := 1) (q := 1) dX6_init_198 rfl rfl ?_
  refine aw_bipush (x := 8) dX6_init_199 rfl ?_
  refine aw_icmp_ge (tgt := 223) dX6_init_201 (by decide) (by decide) (by decide) (fun c => absurd c (by decide)) (fun c => ?_)
  refine aw_aload_n (i := 0) (q := 0) dX6_init_204 rfl rfl ?_
  refine aw_getR (r := 24) flX6_52 SH_1 (by decide) rfl (by decide +kernel) dX6_init_205 ?_
  refine aw_iload_n (i := 1) (q := 1) dX6_init_208 rfl rfl ?_
  refine aw_new (n := 54) (ck := 53) (sk := 5027) SH_55 (rfl : vwCl[1]? = _) ckX6_50 ins_RX1 hdf_1 (Nat.le_of_ble_eq_true rfl) (Nat.le_of_ble_eq_true rfl) dX6_init_209 ?_
  refine aw_dup dX6_init_212 rfl ?_
  refine aw_cNi (n := 55) (a := 55) (ck := 54) (sk := 5033) clX6_86 i_55 (Nat.le_of_ble_eq_true rfl) (by decide) (by decide) (Nat.le_of_ble_eq_true rfl) (Nat.le_of_ble_eq_true rfl) dX6_init_213 ?_
  refine aw_aast (n := 55) (t := 2) (i := 5) (v := 55) SH_24 (by decide) (by decide) ⟨by decide, by decide⟩ SH_55 (by decide) dX6_init_216 ?_
  refine aw_iinc (i := 1) (q := 1) (x := 5) (lv' := [(0, .ref 1), (1, iI 6)]) [1, 0] dX6_init_217 rfl (by decide) rfl ?_
  refine aw_goto (tgt := 198) dX6_init_220 (by decide) ?_
  refine aw_iload_n (i := 1) (q := 1) dX6_init_198 rfl rfl ?_
  refine aw_bipush (x := 8) dX6_init_199 rfl ?_
  refine aw_icmp_ge (tgt := 223) dX6_init_201 (by decide) (by decide) (by decide) (fun c => absurd c (by decide)) (fun c => ?_)
  refine aw_aload_n (i := 0) (q := 0) dX6_init_204 rfl rfl ?_
  refine aw_getR (r := 24) flX6_52 SH_1 (by decide) rfl (by decide +kernel) dX6_init_205 ?_
  refine aw_iload_n (i := 1) (q := 1) dX6_init_208 rfl rfl ?_
  refine aw_new (n := 55) (ck := 54) (sk := 5033) SH_56 (rfl : vwCl[1]? = _) ckX6_50 ins_RX1 hdf_1 (Nat.le_of_ble_eq_true rfl) (Nat.le_of_ble_eq_true rfl) dX6_init_209 ?_
  refine aw_dup dX6_init_212 rfl ?_
  refine aw_cNi (n := 56) (a := 56) (ck := 55) (sk := 5039) clX6_86 i_56 (Nat.le_of_ble_eq_true rfl) (by decide) (by decide) (Nat.le_of_ble_eq_true rfl) (Nat.le_of_ble_eq_true rfl) dX6_init_213 ?_
  refine aw_aast (n := 56) (t := 2) (i := 6) (v := 56) SH_24 (by decide) (by decide) ⟨by decide, by decide⟩ SH_56 (by decide) dX6_init_216 ?_
  refine aw_iinc (i := 1) (q := 1) (x := 6) (lv' := [(0, .ref 1), (1, iI 7)]) [1, 0] dX6_init_217 rfl (by decide) rfl ?_
  refine aw_goto (tgt := 198) dX6_init_220 (by decide) ?_
  refine aw_iload_n (i := 1) (q := 1) dX6_init_198 rfl rfl ?_
  refine aw_bipush (x := 8) dX6_init_199 rfl ?_
  refine aw_icmp_ge (tgt := 223) dX6_init_201 (by decide) (by decide) (by decide) (fun c => absurd c (by decide)) (fun c => ?_)
  refine aw_aload_n (i := 0) (q := 0) dX6_init_204 rfl rfl ?_
  refine aw_getR (r := 24) flX6_52 SH_1 (by decide) rfl (by decide +kernel) dX6_init_205 ?_
  refine aw_iload_n (i := 1) (q := 1) dX6_init_208 rfl rfl ?_
  refine aw_new (n := 56) (ck := 55) (sk := 5039) SH_57 (rfl : vwCl[1]? = _) ckX6_50 ins_RX1 hdf_1 (Nat.le_of_ble_eq_true rfl) (Nat.le_of_ble_eq_true rfl) dX6_init_209 ?_
  refine aw_dup dX6_init_212 rfl ?_
  refine aw_cNi (n := 57) (a := 57) (ck := 56) (sk := 5045) clX6_86 i_57 (Nat.le_of_ble_eq_true rfl) (by decide) (by decide) (Nat.le_of_ble_eq_true rfl) (Nat.le_of_ble_eq_true rfl) dX6_init_213 ?_
  refine aw_aast (n := 57) (t := 2) (i := 7) (v := 57) SH_24 (by decide) (by decide) ⟨by decide, by decide⟩ SH_57 (by decide) dX6_init_216 ?_
  refine aw_iinc (i := 1) (q := 1) (x := 7) (lv' := [(0, .ref 1), (1, iI 8)]) [1, 0] dX6_init_217 rfl (by decide) rfl ?_
  refine aw_goto (tgt := 198) dX6_init_220 (by decide) ?_
  refine aw_iload_n (i := 1) (q := 1) dX6_init_198 rfl rfl ?_
  refine aw_bipush (x := 8) dX6_init_199 rfl ?_
  refine aw_icmp_ge (tgt := 223) dX6_init_201 (by decide) (by decide) (by decide) (fun c => ?_) (fun c => absurd c (by decide))
  exact aw_vret ⟨rfl, rfl, rfl, rfl⟩ (Nat.le_refl _) (Nat.le_refl _) dX6_init_223
theorem s_X7_init {mi : aM} {mr : aR} : SP yX7_init cX7_init 1 none 2 36 4894 58 [.ref 58] mi mr (fun v n' m' r' => v = none ∧ n' = 94 ∧ m' = (aup (aup (aup mi 58 30 (-1)) 58 7 3) 58 8 2000) ∧ r' = (aup (aup (aup (aup (aup (aup (aup (aup (aup (aup (aup (aup (aup (aup (aup (aup (aup (aup (aup (aup (aup (aup (aup (aup (aup (aup (aup (aup (aup (aup (aup (aup (aup (aup (aup (aup mr 58 1 (some 59)) 58 2 (some 60)) 58 3 (some 61)) 58 4 (some 62)) 58 5 (some 63)) 58 10 (some 64)) 58 11 (some 65)) 58 12 (some 66)) 58 14 (some 67)) 58 15 (some 68)) 58 16 (some 69)) 58 17 (some 70)) 58 19 (some 71)) 58 20 (some 72)) 58 21 (some 73)) 58 22 (some 74)) 58 31 (some 75)) 58 32 (some 76)) 58 33 (some 77)) 58 34 (some 78)) 58 35 (some 79)) 58 36 (some 80)) 58 37 (some 81)) 58 38 (some 82)) 58 39 (some 83)) 58 40 (some 84)) 58 41 (some 85)) 58 44 (some 86)) 58 45 (some 87)) 58 46 (some 88)) 58 47 (some 89)) 58 48 (some 90)) 58 49 (some 91)) 58 50 (some 92)) 58 51 (some 93)) 58 52 (some 94))) := by
  refine SP.of true rfl (fun _ => rfl) (by decide +kernel) (Nat.le_of_ble_eq_true rfl) (Or.inr (Or.inr ⟨rfl, fun _ _ _ _ h => by cases h.1⟩)) ?_
  show AW RX7 cX7_init 1 2 true 36 4894 none _ 58 0 [(0, .ref 58)] [] mi mr 0 0
  refine aw_aload_n (i := 0) (q := 0) dX7_init_0 rfl rfl ?_
  refine aw_obj (n := 58) (a := 58) obX7_7 (Nat.le_of_ble_eq_true rfl) (by decide) dX7_init_1 ?_
  refine aw_aload_n (i := 0) (q := 0) dX7_init_4 rfl rfl ?_
  refine aw_bipush (x := 12) dX7_init_5 rfl ?_
  refine aw_newI (n := 58) (z := 12) (ck := 0) (sk := 0) SH_59 (Nat.le_of_ble_eq_true rfl) (Nat.le_of_ble_eq_true rfl) dX7_init_7 ?_
  refine aw_putRk (n := 59) (r := 59) 1 flX7_13 SH_58 (by decide) rfl rfl rfl (fun q h => by cases h; rfl) rfl dX7_init_9 ?_
  refine aw_aload_n (i := 0) (q := 0) dX7_init_12 rfl rfl ?_
  refine aw_bipush (x := 12) dX7_init_13 rfl ?_
  refine aw_newI (n := 59) (z := 12) (ck := 1) (sk := 12) SH_60 (Nat.le_of_ble_eq_true rfl) (Nat.le_of_ble_eq_true rfl) dX7_init_15 ?_
  refine aw_putRk (n := 60) (r := 60) 2 flX7_17 SH_58 (by decide) rfl rfl rfl (fun q h => by cases h; rfl) rfl dX7_init_17 ?_
  refine aw_aload_n (i := 0) (q := 0) dX7_init_20 rfl rfl ?_
  refine aw_bipush (x := 12) dX7_init_21 rfl ?_
  refine aw_newI (n := 60) (z := 12) (ck := 2) (sk := 24) SH_61 (Nat.le_of_ble_eq_true rfl) (Nat.le_of_ble_eq_true rfl) dX7_init_23 ?_
  refine aw_putRk (n := 61) (r := 61) 3 flX7_20 SH_58 (by decide) rfl rfl rfl (fun q h => by cases h; rfl) rfl dX7_init_25 ?_
  refine aw_aload_n (i := 0) (q := 0) dX7_init_28 rfl rfl ?_
  refine aw_bipush (x := 12) dX7_init_29 rfl ?_
  refine aw_newI (n := 61) (z := 12) (ck := 3) (sk := 36) SH_62 (Nat.le_of_ble_eq_true rfl) (Nat.le_of_ble_eq_true rfl) dX7_init_31 ?_
  refine aw_putRk (n := 62) (r := 62) 4 flX7_23 SH_58 (by decide) rfl rfl rfl (fun q h => by cases h; rfl) rfl dX7_init_33 ?_
  refine aw_aload_n (i := 0) (q := 0) dX7_init_36 rfl rfl ?_
  refine aw_bipush (x := 12) dX7_init_37 rfl ?_
  refine aw_newI (n := 62) (z := 12) (ck := 4) (sk := 48) SH_63 (Nat.le_of_ble_eq_true rfl) (Nat.le_of_ble_eq_true rfl) dX7_init_39 ?_
  refine aw_putRk (n := 63) (r := 63) 5 flX7_26 SH_58 (by decide) rfl rfl rfl (fun q h => by cases h; rfl) rfl dX7_init_41 ?_
  refine aw_aload_n (i := 0) (q := 0) dX7_init_44 rfl rfl ?_
  refine aw_sipush (x := 200) dX7_init_45 rfl ?_
  refine aw_newI (n := 63) (z := 200) (ck := 5) (sk := 60) SH_64 (Nat.le_of_ble_eq_true rfl) (Nat.le_of_ble_eq_true rfl) dX7_init_48 ?_
  refine aw_putRk (n := 64) (r := 64) 10 flX7_29 SH_58 (by decide) rfl rfl rfl (fun q h => by cases h; rfl) rfl dX7_init_50 ?_
  refine aw_aload_n (i := 0) (q := 0) dX7_init_53 rfl rfl ?_
  refine aw_sipush (x := 200) dX7_init_54 rfl ?_
  refine aw_newI (n := 64) (z := 200) (ck := 6) (sk := 260) SH_65 (Nat.le_of_ble_eq_true rfl) (Nat.le_of_ble_eq_true rfl) dX7_init_57 ?_
  refine aw_putRk (n := 65) (r := 65) 11 flX7_32 SH_58 (by decide) rfl rfl rfl (fun q h => by cases h; rfl) rfl dX7_init_59 ?_
  refine aw_aload_n (i := 0) (q := 0) dX7_init_62 rfl rfl ?_
  refine aw_sipush (x := 200) dX7_init_63 rfl ?_
  refine aw_newZ (n := 65) (z := 200) (ck := 7) (sk := 460) SH_66 (Nat.le_of_ble_eq_true rfl) (Nat.le_of_ble_eq_true rfl) dX7_init_66 ?_
  refine aw_putRk (n := 66) (r := 66) 12 flX7_35 SH_58 (by decide) rfl rfl rfl (fun q h => by cases h; rfl) rfl dX7_init_68 ?_
  refine aw_aload_n (i := 0) (q := 0) dX7_init_71 rfl rfl ?_
  refine aw_sipush (x := 300) dX7_init_72 rfl ?_
  refine aw_newI (n := 66) (z := 300) (ck := 8) (sk := 660) SH_67 (Nat.le_of_ble_eq_true rfl) (Nat.le_of_ble_eq_true rfl) dX7_init_75 ?_
  refine aw_putRk (n := 67) (r := 67) 14 flX7_39 SH_58 (by decide) rfl rfl rfl (fun q h => by cases h; rfl) rfl dX7_init_77 ?_
  refine aw_aload_n (i := 0) (q := 0) dX7_init_80 rfl rfl ?_
  refine aw_sipush (x := 300) dX7_init_81 rfl ?_
  refine aw_newI (n := 67) (z := 300) (ck := 9) (sk := 960) SH_68 (Nat.le_of_ble_eq_true rfl) (Nat.le_of_ble_eq_true rfl) dX7_init_84 ?_
  refine aw_putRk (n := 68) (r := 68) 15 flX7_42 SH_58 (by decide) rfl rfl rfl (fun q h => by cases h; rfl) rfl dX7_init_86 ?_
  refine aw_aload_n (i := 0) (q := 0) dX7_init_89 rfl rfl ?_
  refine aw_sipush (x := 300) dX7_init_90 rfl ?_
  refine aw_newI (n := 68) (z := 300) (ck := 10) (sk := 1260) SH_69 (Nat.le_of_ble_eq_true rfl) (Nat.le_of_ble_eq_true rfl) dX7_init_93 ?_
  refine aw_putRk (n := 69) (r := 69) 16 flX7_45 SH_58 (by decide) rfl rfl rfl (fun q h => by cases h; rfl) rfl dX7_init_95 ?_
  refine aw_aload_n (i := 0) (q := 0) dX7_init_98 rfl rfl ?_
  refine aw_bipush (x := 52) dX7_init_99 rfl ?_
  refine aw_newI (n := 69) (z := 52) (ck := 11) (sk := 1560) SH_70 (Nat.le_of_ble_eq_true rfl) (Nat.le_of_ble_eq_true rfl) dX7_init_101 ?_
  refine aw_putRk (n := 70) (r := 70) 17 flX7_48 SH_58 (by decide) rfl rfl rfl (fun q h => by cases h; rfl) rfl dX7_init_103 ?_
  refine aw_aload_n (i := 0) (q := 0) dX7_init_106 rfl rfl ?_
  refine aw_sipush (x := 300) dX7_init_107 rfl ?_
  refine aw_newI (n := 70) (z := 300) (ck := 12) (sk := 1612) SH_71 (Nat.le_of_ble_eq_true rfl) (Nat.le_of_ble_eq_true rfl) dX7_init_110 ?_
  refine aw_putRk (n := 71) (r := 71) 19 flX7_51 SH_58 (by decide) rfl rfl rfl (fun q h => by cases h; rfl) rfl dX7_init_112 ?_
  refine aw_aload_n (i := 0) (q := 0) dX7_init_115 rfl rfl ?_
  refine aw_sipush (x := 500) dX7_init_116 rfl ?_
  refine aw_newI (n := 71) (z := 500) (ck := 13) (sk := 1912) SH_72 (Nat.le_of_ble_eq_true rfl) (Nat.le_of_ble_eq_true rfl) dX7_init_119 ?_
  refine aw_putRk (n := 72) (r := 72) 20 flX7_54 SH_58 (by decide) rfl rfl rfl (fun q h => by cases h; rfl) rfl dX7_init_121 ?_
  refine aw_aload_n (i := 0) (q := 0) dX7_init_124 rfl rfl ?_
  refine aw_iconst dX7_init_125 ?_
  refine aw_newI (n := 72) (z := 5) (ck := 14) (sk := 2412) SH_73 (Nat.le_of_ble_eq_true rfl) (Nat.le_of_ble_eq_true rfl) dX7_init_126 ?_
  refine aw_putRk (n := 73) (r := 73) 21 flX7_57 SH_58 (by decide) rfl rfl rfl (fun q h => by cases h; rfl) rfl dX7_init_128 ?_
  refine aw_aload_n (i := 0) (q := 0) dX7_init_131 rfl rfl ?_
  refine aw_bipush (x := 100) dX7_init_132 rfl ?_
  refine aw_newI (n := 73) (z := 100) (ck := 15) (sk := 2417) SH_74 (Nat.le_of_ble_eq_true rfl) (Nat.le_of_ble_eq_true rfl) dX7_init_134 ?_
  refine aw_putRk (n := 74) (r := 74) 22 flX7_60 SH_58 (by decide) rfl rfl rfl (fun q h => by cases h; rfl) rfl dX7_init_136 ?_
  refine aw_aload_n (i := 0) (q := 0) dX7_init_139 rfl rfl ?_
  refine aw_iconst dX7_init_140 ?_
  refine aw_putIk (n := 74) 30 flX7_63 SH_58 (by decide) rfl rfl rfl (by decide) dX7_init_141 ?_
  refine aw_aload_n (i := 0) (q := 0) dX7_init_144 rfl rfl ?_
  refine aw_sipush (x := 300) dX7_init_145 rfl ?_
  refine aw_newI (n := 74) (z := 300) (ck := 16) (sk := 2517) SH_75 (Nat.le_of_ble_eq_true rfl) (Nat.le_of_ble_eq_true rfl) dX7_init_148 ?_
  refine aw_putRk (n := 75) (r := 75) 31 flX7_66 SH_58 (by decide) rfl rfl rfl (fun q h => by cases h; rfl) rfl dX7_init_150 ?_
  refine aw_aload_n (i := 0) (q := 0) dX7_init_153 rfl rfl ?_
  refine aw_sipush (x := 300) dX7_init_154 rfl ?_
  refine aw_newI (n := 75) (z := 300) (ck := 17) (sk := 2817) SH_76 (Nat.le_of_ble_eq_true rfl) (Nat.le_of_ble_eq_true rfl) dX7_init_157 ?_
  refine aw_putRk (n := 76) (r := 76) 32 flX7_69 SH_58 (by decide) rfl rfl rfl (fun q h => by cases h; rfl) rfl dX7_init_159 ?_
  refine aw_aload_n (i := 0) (q := 0) dX7_init_162 rfl rfl ?_
  refine aw_sipush (x := 300) dX7_init_163 rfl ?_
  refine aw_newI (n := 76) (z := 300) (ck := 18) (sk := 3117) SH_77 (Nat.le_of_ble_eq_true rfl) (Nat.le_of_ble_eq_true rfl) dX7_init_166 ?_
  refine aw_putRk (n := 77) (r := 77) 33 flX7_72 SH_58 (by decide) rfl rfl rfl (fun q h => by cases h; rfl) rfl dX7_init_168 ?_
  refine aw_aload_n (i := 0) (q := 0) dX7_init_171 rfl rfl ?_
  refine aw_bipush (x := 12) dX7_init_172 rfl ?_
  refine aw_newI (n := 77) (z := 12) (ck := 19) (sk := 3417) SH_78 (Nat.le_of_ble_eq_true rfl) (Nat.le_of_ble_eq_true rfl) dX7_init_174 ?_
  refine aw_putRk (n := 78) (r := 78) 34 flX7_75 SH_58 (by decide) rfl rfl rfl (fun q h => by cases h; rfl) rfl dX7_init_176 ?_
  refine aw_aload_n (i := 0) (q := 0) dX7_init_179 rfl rfl ?_
  refine aw_bipush (x := 12) dX7_init_180 rfl ?_
  refine aw_newZ (n := 78) (z := 12) (ck := 20) (sk := 3429) SH_79 (Nat.le_of_ble_eq_true rfl) (Nat.le_of_ble_eq_true rfl) dX7_init_182 ?_
  refine aw_putRk (n := 79) (r := 79) 35 flX7_78 SH_58 (by decide) rfl rfl rfl (fun q h => by cases h; rfl) rfl dX7_init_184 ?_
  refine aw_aload_n (i := 0) (q := 0) dX7_init_187 rfl rfl ?_
  refine aw_bipush (x := 8) dX7_init_188 rfl ?_
  refine aw_newI (n := 79) (z := 8) (ck := 21) (sk := 3441) SH_80 (Nat.le_of_ble_eq_true rfl) (Nat.le_of_ble_eq_true rfl) dX7_init_190 ?_
  refine aw_putRk (n := 80) (r := 80) 36 flX7_81 SH_58 (by decide) rfl rfl rfl (fun q h => by cases h; rfl) rfl dX7_init_192 ?_
  refine aw_aload_n (i := 0) (q := 0) dX7_init_195 rfl rfl ?_
  refine aw_bipush (x := 8) dX7_init_196 rfl ?_
  refine aw_newI (n := 80) (z := 8) (ck := 22) (sk := 3449) SH_81 (Nat.le_of_ble_eq_true rfl) (Nat.le_of_ble_eq_true rfl) dX7_init_198 ?_
  refine aw_putRk (n := 81) (r := 81) 37 flX7_84 SH_58 (by decide) rfl rfl rfl (fun q h => by cases h; rfl) rfl dX7_init_200 ?_
  refine aw_aload_n (i := 0) (q := 0) dX7_init_203 rfl rfl ?_
  refine aw_bipush (x := 8) dX7_init_204 rfl ?_
  refine aw_newI (n := 81) (z := 8) (ck := 23) (sk := 3457) SH_82 (Nat.le_of_ble_eq_true rfl) (Nat.le_of_ble_eq_true rfl) dX7_init_206 ?_
  refine aw_putRk (n := 82) (r := 82) 38 flX7_87 SH_58 (by decide) rfl rfl rfl (fun q h => by cases h; rfl) rfl dX7_init_208 ?_
  refine aw_aload_n (i := 0) (q := 0) dX7_init_211 rfl rfl ?_
  refine aw_bipush (x := 8) dX7_init_212 rfl ?_
  refine aw_newI (n := 82) (z := 8) (ck := 24) (sk := 3465) SH_83 (Nat.le_of_ble_eq_true rfl) (Nat.le_of_ble_eq_true rfl) dX7_init_214 ?_
  refine aw_putRk (n := 83) (r := 83) 39 flX7_90 SH_58 (by decide) rfl rfl rfl (fun q h => by cases h; rfl) rfl dX7_init_216 ?_
  refine aw_aload_n (i := 0) (q := 0) dX7_init_219 rfl rfl ?_
  refine aw_bipush (x := 8) dX7_init_220 rfl ?_
  refine aw_newI (n := 83) (z := 8) (ck := 25) (sk := 3473) SH_84 (Nat.le_of_ble_eq_true rfl) (Nat.le_of_ble_eq_true rfl) dX7_init_222 ?_
  refine aw_putRk (n := 84) (r := 84) 40 flX7_93 SH_58 (by decide) rfl rfl rfl (fun q h => by cases h; rfl) rfl dX7_init_224 ?_
  refine aw_aload_n (i := 0) (q := 0) dX7_init_227 rfl rfl ?_
  refine aw_bipush (x := 8) dX7_init_228 rfl ?_
  refine aw_newI (n := 84) (z := 8) (ck := 26) (sk := 3481) SH_85 (Nat.le_of_ble_eq_true rfl) (Nat.le_of_ble_eq_true rfl) dX7_init_230 ?_
  refine aw_putRk (n := 85) (r := 85) 41 flX7_96 SH_58 (by decide) rfl rfl rfl (fun q h => by cases h; rfl) rfl dX7_init_232 ?_
  refine aw_aload_n (i := 0) (q := 0) dX7_init_235 rfl rfl ?_
  refine aw_bipush (x := 12) dX7_init_236 rfl ?_
  refine aw_newZ (n := 85) (z := 12) (ck := 27) (sk := 3489) SH_86 (Nat.le_of_ble_eq_true rfl) (Nat.le_of_ble_eq_true rfl) dX7_init_238 ?_
  refine aw_putRk (n := 86) (r := 86) 44 flX7_99 SH_58 (by decide) rfl rfl rfl (fun q h => by cases h; rfl) rfl dX7_init_240 ?_
  refine aw_aload_n (i := 0) (q := 0) dX7_init_243 rfl rfl ?_
  refine aw_bipush (x := 12) dX7_init_244 rfl ?_
  refine aw_newZ (n := 86) (z := 12) (ck := 28) (sk := 3501) SH_87 (Nat.le_of_ble_eq_true rfl) (Nat.le_of_ble_eq_true rfl) dX7_init_246 ?_
  refine aw_putRk (n := 87) (r := 87) 45 flX7_102 SH_58 (by decide) rfl rfl rfl (fun q h => by cases h; rfl) rfl dX7_init_248 ?_
  refine aw_aload_n (i := 0) (q := 0) dX7_init_251 rfl rfl ?_
  refine aw_bipush (x := 12) dX7_init_252 rfl ?_
  refine aw_newZ (n := 87) (z := 12) (ck := 29) (sk := 3513) SH_88 (Nat.le_of_ble_eq_true rfl) (Nat.le_of_ble_eq_true rfl) dX7_init_254 ?_
  refine aw_putRk (n := 88) (r := 88) 46 flX7_105 SH_58 (by decide) rfl rfl rfl (fun q h => by cases h; rfl) rfl dX7_init_256 ?_
  refine aw_aload_n (i := 0) (q := 0) dX7_init_259 rfl rfl ?_
  refine aw_bipush (x := 12) dX7_init_260 rfl ?_
  refine aw_newI (n := 88) (z := 12) (ck := 30) (sk := 3525) SH_89 (Nat.le_of_ble_eq_true rfl) (Nat.le_of_ble_eq_true rfl) dX7_init_262 ?_
  refine aw_putRk (n := 89) (r := 89) 47 flX7_108 SH_58 (by decide) rfl rfl rfl (fun q h => by cases h; rfl) rfl dX7_init_264 ?_
  refine aw_aload_n (i := 0) (q := 0) dX7_init_267 rfl rfl ?_
  refine aw_bipush (x := 12) dX7_init_268 rfl ?_
  refine aw_newI (n := 89) (z := 12) (ck := 31) (sk := 3537) SH_90 (Nat.le_of_ble_eq_true rfl) (Nat.le_of_ble_eq_true rfl) dX7_init_270 ?_
  refine aw_putRk (n := 90) (r := 90) 48 flX7_111 SH_58 (by decide) rfl rfl rfl (fun q h => by cases h; rfl) rfl dX7_init_272 ?_
  refine aw_aload_n (i := 0) (q := 0) dX7_init_275 rfl rfl ?_
  refine aw_bipush (x := 12) dX7_init_276 rfl ?_
  refine aw_newI (n := 90) (z := 12) (ck := 32) (sk := 3549) SH_91 (Nat.le_of_ble_eq_true rfl) (Nat.le_of_ble_eq_true rfl) dX7_init_278 ?_
  refine aw_putRk (n := 91) (r := 91) 49 flX7_114 SH_58 (by decide) rfl rfl rfl (fun q h => by cases h; rfl) rfl dX7_init_280 ?_
  refine aw_aload_n (i := 0) (q := 0) dX7_init_283 rfl rfl ?_
  refine aw_bipush (x := 12) dX7_init_284 rfl ?_
  refine aw_newI (n := 91) (z := 12) (ck := 33) (sk := 3561) SH_92 (Nat.le_of_ble_eq_true rfl) (Nat.le_of_ble_eq_true rfl) dX7_init_286 ?_
  refine aw_putRk (n := 92) (r := 92) 50 flX7_117 SH_58 (by decide) rfl rfl rfl (fun q h => by cases h; rfl) rfl dX7_init_288 ?_
  refine aw_aload_n (i := 0) (q := 0) dX7_init_291 rfl rfl ?_
  refine aw_sipush (x := 720) dX7_init_292 rfl ?_
  refine aw_newI (n := 92) (z := 720) (ck := 34) (sk := 3573) SH_93 (Nat.le_of_ble_eq_true rfl) (Nat.le_of_ble_eq_true rfl) dX7_init_295 ?_
  refine aw_putRk (n := 93) (r := 93) 51 flX7_120 SH_58 (by decide) rfl rfl rfl (fun q h => by cases h; rfl) rfl dX7_init_297 ?_
  refine aw_aload_n (i := 0) (q := 0) dX7_init_300 rfl rfl ?_
  refine aw_sipush (x := 601) dX7_init_301 rfl ?_
  refine aw_newI (n := 93) (z := 601) (ck := 35) (sk := 4293) SH_94 (Nat.le_of_ble_eq_true rfl) (Nat.le_of_ble_eq_true rfl) dX7_init_304 ?_
  refine aw_putRk (n := 94) (r := 94) 52 flX7_123 SH_58 (by decide) rfl rfl rfl (fun q h => by cases h; rfl) rfl dX7_init_306 ?_
  refine aw_aload_n (i := 0) (q := 0) dX7_init_309 rfl rfl ?_
  refine aw_iconst dX7_init_310 ?_
  refine aw_putIk (n := 94) 7 flX7_126 SH_58 (by decide) rfl rfl rfl (by decide) dX7_init_311 ?_
  refine aw_aload_n (i := 0) (q := 0) dX7_init_314 rfl rfl ?_
  refine aw_sipush (x := 2000) dX7_init_315 rfl ?_
  refine aw_putIk (n := 94) 8 flX7_129 SH_58 (by decide) rfl rfl rfl (by decide) dX7_init_318 ?_
  exact aw_vret ⟨rfl, rfl, rfl, rfl⟩ (Nat.le_refl _) (Nat.le_refl _) dX7_init_321
def mC1 : aM := (aup (aup (aup mC0 58 30 (-1)) 58 7 3) 58 8 2000)
def rC1 : aR := (aup (aup (aup (aup (aup (aup (aup (aup (aup (aup (aup (aup (aup (aup (aup (aup (aup (aup (aup (aup (aup (aup (aup (aup (aup (aup (aup (aup (aup (aup (aup (aup (aup (aup (aup (aup rC0 58 1 (some 59)) 58 2 (some 60)) 58 3 (some 61)) 58 4 (some 62)) 58 5 (some 63)) 58 10 (some 64)) 58 11 (some 65)) 58 12 (some 66)) 58 14 (some 67)) 58 15 (some 68)) 58 16 (some 69)) 58 17 (some 70)) 58 19 (some 71)) 58 20 (some 72)) 58 21 (some 73)) 58 22 (some 74)) 58 31 (some 75)) 58 32 (some 76)) 58 33 (some 77)) 58 34 (some 78)) 58 35 (some 79)) 58 36 (some 80)) 58 37 (some 81)) 58 38 (some 82)) 58 39 (some 83)) 58 40 (some 84)) 58 41 (some 85)) 58 44 (some 86)) 58 45 (some 87)) 58 46 (some 88)) 58 47 (some 89)) 58 48 (some 90)) 58 49 (some 91)) 58 50 (some 92)) 58 51 (some 93)) 58 52 (some 94))
theorem Rok_1 : Rok rC1 := by
  refine ⟨by decide +kernel, fun i h0 h1 => ?_, fun i h0 h1 => ?_⟩
  · have key : ∀ j : Nat, j < 12 → rC1 2 (j : Int) = some (28 + j) := by decide +kernel
    have := key i.toNat (by omega)
    rw [Int.toNat_of_nonneg h0] at this
    exact this
  · have key : ∀ j : Nat, j < 5 → rC1 23 (j : Int) = some (40 + 2 * j) := by decide +kernel
    have := key i.toNat (by omega)
    rw [Int.toNat_of_nonneg h0] at this
    exact this
theorem enI_1 : enI rC1 (fun j => 50 + j.toNat) := by
  refine ⟨fun j h0 h1 => ?_, fun i j i0 i1 j0 j1 e => by have e9 : 50 + i.toNat = 50 + j.toNat := e; omega⟩
  have key : ∀ j : Nat, j < 8 → rC1 24 (j : Int) = some (50 + j) := by decide +kernel
  have := key j.toNat (by omega)
  rw [Int.toNat_of_nonneg h0] at this
  exact ⟨this, by show 50 ≤ 50 + j.toNat ∧ 50 + j.toNat ≤ 57; omega⟩
