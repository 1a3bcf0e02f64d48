-- part 63: the reader of the model: readsItem, readsItems (printed by wip/whole/gen/p63.py)
theorem m_let {mr : aR} (hR : Rok mr) {mi : aM} {p : Int} {o : List Int} {k : rSt} {D : Nat} (hD : 4 ≤ D) (hE : 0 ≤ mi 58 24 ∧ mi 58 24 ≤ 300) (hw : wfQ (mi 58 24) (p, o, k)) (hq : RQm mi p o) (h27 : mi 58 27 = 0) (hs : sgM mi p = 45 ∨ (97 ≤ sgM mi p ∧ sgM mi p ≤ 108)) : ∀ (n : Nat) (m : aM) (g z : Int) (f : Nat), (∀ (x : Nat) (j : Int), (x ≠ 58 ∨ j ≠ 25) → m x j = mi x j) → m 58 25 = z → leP (sgM mi) f z = itP (sgM mi) p → leS (sgM mi) f z g = itS (sgM mi) p → (0 ≤ g ∧ g < 4096) → (0 ≤ z ∧ z ≤ mi 58 24) → (mi 58 24 - z < f) → mi 58 24 - z < n → AWm RX7 cX7_readsItem 6 (D + 1) (Pv mr (fun m => rdI mi (p, o, k) m)) 60 [(0, .ref 58), (1, iI ((k.length : Int))), (2, iI p), (3, iI g)] [] m mr := by
  intro n
  induction n with
  | zero => intro m g z f hm h7 hPP hSS hg h2 hf h3; omega
  | succ n ih =>
    intro m g z f hm h7 hPP hSS hg h2 hf h3
    have hfr : frT mi m := fun x j _ b => hm x j (by omega)
    obtain ⟨f9, rfl⟩ : ∃ f9, f = f9 + 1 := ⟨f - 1, by omega⟩
    refine aw_aload_n (i := 0) (q := 0) dX7_readsItem_60 rfl rfl ?_
    refine aw_cVp (As := []) (st := []) clX7_238 (s_X7_isLetter (p := z) hR (by rw [hfr 58 24 (by decide) (by omega)]; exact hE) h7 (by omega)) SH_58 rfl (by decide) rfl rfl (Nat.le_of_ble_eq_true rfl) (by omega) (by decide) (Nat.le_refl _) (Nat.le_refl _) dX7_readsItem_61 (fun v61 hv61 => ?_)
    rw [sgM_fr hfr] at hv61
    refine aw_if_eq (tgt := 92) dX7_readsItem_64 (by decide) (by first | assumption | omega) (fun c64 => ?_) (fun c64 => ?_)
    · have hnl : ¬ (97 ≤ sgM mi z ∧ sgM mi z ≤ 108) := by omega
      rw [leP_n hnl] at hPP
      rw [leS_n hnl] at hSS
      rw [hSS]
      exact m_rs2 hR hD hE hw hq h27 hs hm hPP h7
    · refine aw_iload_n (i := 3) (q := 3) dX7_readsItem_67 rfl rfl ?_
      refine aw_iconst dX7_readsItem_68 ?_
      refine aw_aload_n (i := 0) (q := 0) dX7_readsItem_69 rfl rfl ?_
      refine aw_cVp (As := []) (st := [iI 1, iI g]) clX7_212 (s_X7_here (p := z) hR (by rw [hfr 58 24 (by decide) (by omega)]; exact hE) h7 (by omega)) SH_58 rfl (by decide) rfl rfl (Nat.le_of_ble_eq_true rfl) (by omega) (by decide) (Nat.le_refl _) (Nat.le_refl _) dX7_readsItem_70 (fun v70 hv70 => ?_)
      obtain ⟨hv70, hv70a, hv70b⟩ := hv70
      rw [sgM_fr hfr] at hv70
      refine aw_bipush (x := 97) dX7_readsItem_73 rfl ?_
      refine aw_isub dX7_readsItem_75 ?_
      have hpw := pow_rng (b := v70 - 97) (by omega)
      refine aw_ishl (z := ((2 ^ (v70 - 97).toNat : Nat) : Int)) dX7_readsItem_76 (bt_shl (by omega)) ?_
      refine aw_ior (z := (((g).toNat ||| (((2 ^ (v70 - 97).toNat : Nat) : Int)).toNat : Nat) : Int)) dX7_readsItem_77 (bt_or (by omega) (by omega)) ?_
      refine aw_istore_n (i := 3) (lv' := [(0, .ref 58), (1, iI ((k.length : Int))), (2, iI p), (3, iI ((((g).toNat ||| (((2 ^ (v70 - 97).toNat : Nat) : Int)).toNat : Nat) : Int)))]) [1, 2, 3, 0] dX7_readsItem_78 rfl (by decide) rfl ?_
      refine aw_aload_n (i := 0) (q := 0) dX7_readsItem_79 rfl rfl ?_
      refine aw_dup dX7_readsItem_80 rfl ?_
      refine aw_getIk (x := z) 25 flX7_206 SH_58 (by decide) rfl rfl h7 dX7_readsItem_81 (fun r81 => ?_)
      refine aw_iconst dX7_readsItem_84 ?_
      refine aw_iadd dX7_readsItem_85 ?_
      refine aw_putIk 25 flX7_206 SH_58 (by decide) rfl rfl rfl (by first | assumption | omega) dX7_readsItem_86 ?_
      refine aw_goto (tgt := 60) dX7_readsItem_89 (by decide) ?_
      have hlt : 97 ≤ sgM mi z ∧ sgM mi z ≤ 108 := by omega
      have hz9 := sgM_lt (m := mi) (p := z) (by omega)
      rw [leP_y hlt] at hPP
      rw [leS_y hlt, ← hv70] at hSS
      exact ih _ _ (z + 1) f9 (fun x j a => by (have e1 : aup m 58 25 (z + 1) x j = m x j := by rcases a with a | a; (exact aup_a a); (exact aup_k a)); rw [e1]; exact hm x j a) (aup_eq _ _ _ _) hPP hSS (or_rng hg hpw) (by omega) (by omega) (by omega)
def GrC (D kl : Nat) : Prop := ∀ (mr : aR), Rok mr → ∀ (mi : aM) (p : Int) (o : List Int) (k : rSt), (0 ≤ mi 58 24 ∧ mi 58 24 ≤ 300) → wfQ (mi 58 24) (p, o, k) → RQm mi p o → mi 58 27 = 0 → k.length = kl → ∀ dp : Int, dp = (k.length : Int) → sgM mi p = 40 → SPg yX7_readsGroup cX7_readsGroup 7 none D [.ref 58, iI dp] mi mr (Pv mr (fun m => rdI mi (p, o, k) m))
def ItmC (D kl : Nat) : Prop := ∀ (mr : aR), Rok mr → ∀ (mi : aM) (p : Int) (o : List Int) (k : rSt), (0 ≤ mi 58 24 ∧ mi 58 24 ≤ 300) → wfQ (mi 58 24) (p, o, k) → RQm mi p o → mi 58 27 = 0 → k.length = kl → ∀ dp : Int, dp = (k.length : Int) → p < mi 58 24 → sgM mi p ≠ 32 → (sgM mi p = 41 → k = []) → SPg yX7_readsItem cX7_readsItem 6 none D [.ref 58, iI dp] mi mr (Pv mr (fun m => rdI mi (p, o, k) m))
def ItsC (D kl : Nat) : Prop := ∀ (mr : aR), Rok mr → ∀ (mi : aM) (p : Int) (o : List Int) (k : rSt), (0 ≤ mi 58 24 ∧ mi 58 24 ≤ 300) → wfQ (mi 58 24) (p, o, k) → RQm mi p o → mi 58 27 = 0 → k.length = kl → ∀ dp : Int, dp = (k.length : Int) → SPg yX7_readsItems cX7_readsItems 2 none D [.ref 58, iI dp] mi mr (Pv mr (fun m => rdL mi (p, o, k) m))
theorem grp3  : GrC 4 3 := by
  intro mr hR mi p o k hE hw hq h27 hkl dp hdp hs
  subst hdp
  refine SPg.void rfl (by decide +kernel) (Nat.le_of_ble_eq_true rfl) ?_
  show AWm RX7 cX7_readsGroup 7 4 (Pv mr (fun m => rdI mi (p, o, k) m)) 0 [(0, .ref 58), (1, iI ((k.length : Int)))] [] mi mr
  have h7 : mi 58 25 = p := hq.1
  have h26 : mi 58 26 = (o.length : Int) := hq.2.1
  have hk3 : k.length ≤ 3 := hw.2.2.2.1
  have ho : o.length ≤ 100 := hw.2.2.1
  have hp0 : 0 ≤ p := hw.1
  have hpl := sgM_lt (m := mi) (p := p) (by omega)
  refine aw_aload_n (i := 0) (q := 0) dX7_readsGroup_0 rfl rfl ?_
  refine aw_getIk (x := p) 25 flX7_206 SH_58 (by decide) rfl rfl h7 dX7_readsGroup_1 (fun r1 => ?_)
  refine aw_istore_n (i := 2) (lv' := [(0, .ref 58), (1, iI ((k.length : Int))), (2, iI p)]) [1, 2, 0] dX7_readsGroup_4 rfl (by decide) rfl ?_
  refine aw_aload_n (i := 0) (q := 0) dX7_readsGroup_5 rfl rfl ?_
  refine aw_getIk (x := (o.length : Int)) 26 flX7_244 SH_58 (by decide) rfl rfl h26 dX7_readsGroup_6 (fun r6 => ?_)
  refine aw_istore_n (i := 3) (lv' := [(0, .ref 58), (1, iI ((k.length : Int))), (2, iI p), (3, iI ((o.length : Int)))]) [1, 2, 3, 0] dX7_readsGroup_9 rfl (by decide) rfl ?_
  refine aw_iload_n (i := 1) (q := 1) dX7_readsGroup_10 rfl rfl ?_
  refine aw_iconst dX7_readsGroup_11 ?_
  refine aw_icmp_ne (tgt := 25) dX7_readsGroup_12 (by decide) (by first | assumption | omega) (by decide) (fun c12 => ?_) (fun c12 => ?_)
  · exfalso; omega
  · refine aw_aload_n (i := 0) (q := 0) dX7_readsGroup_15 rfl rfl ?_
    refine aw_iconst dX7_readsGroup_16 ?_
    refine aw_aload_n (i := 0) (q := 0) dX7_readsGroup_17 rfl rfl ?_
    refine aw_getIk (x := p) 25 flX7_206 SH_58 (by decide) rfl rfl h7 dX7_readsGroup_18 (fun r18 => ?_)
    refine aw_cVv (As := [iI 3, iI p]) (st := []) clX7_227 (s_fails0 hR (by decide) (by omega) h27) SH_58 rfl (by decide) rfl rfl (Nat.le_of_ble_eq_true rfl) (by decide) (by decide) (Nat.le_refl _) (Nat.le_refl _) dX7_readsGroup_21 (fun m9 hm9 => ?_)
    subst hm9
    exact aw_vret ⟨rfl, rfl, rfl, ⟨(frT_k (k := 28) (v := p) (by decide) (frT_k (k := 27) (v := 3) (by decide) (frT_rfl mi))), Or.inl ⟨by rw [aup_k (by decide), aup_eq]; decide, [], by rw [aup_k (by decide), aup_eq, aup_eq]; exact Fin9_er (by show p < mi 58 24; omega) (by decide) (rs_open3 hs (by omega))⟩⟩⟩ (Nat.le_refl _) (Nat.le_refl _) dX7_readsGroup_24
theorem item_of {D kl : Nat} (hD : 4 ≤ D) (hG : GrC D kl) : ItmC (D + 1) kl := by
  intro mr hR mi p o k hE hw hq h27 hkl dp hdp hpE h32 h41
  subst hdp
  refine SPg.void rfl (by decide +kernel) (Nat.le_of_ble_eq_true rfl) ?_
  show AWm RX7 cX7_readsItem 6 (D + 1) (Pv mr (fun m => rdI mi (p, o, k) m)) 0 [(0, .ref 58), (1, iI ((k.length : Int)))] [] mi mr
  have h7 : mi 58 25 = p := hq.1
  have h26 : mi 58 26 = (o.length : Int) := hq.2.1
  have hk3 : k.length ≤ 3 := hw.2.2.2.1
  have ho : o.length ≤ 100 := hw.2.2.1
  have hp0 : 0 ≤ p := hw.1
  refine aw_aload_n (i := 0) (q := 0) dX7_readsItem_0 rfl rfl ?_
  refine aw_getIk (x := p) 25 flX7_206 SH_58 (by decide) rfl rfl h7 dX7_readsItem_1 (fun r1 => ?_)
  refine aw_istore_n (i := 2) (lv' := [(0, .ref 58), (1, iI ((k.length : Int))), (2, iI p)]) [1, 2, 0] dX7_readsItem_4 rfl (by decide) rfl ?_
  refine aw_aload_n (i := 0) (q := 0) dX7_readsItem_5 rfl rfl ?_
  refine aw_cVp (As := []) (st := []) clX7_212 (s_X7_here (p := p) hR hE h7 (by omega)) SH_58 rfl (by decide) rfl rfl (Nat.le_of_ble_eq_true rfl) (by omega) (by decide) (Nat.le_refl _) (Nat.le_refl _) dX7_readsItem_6 (fun v6 hv6 => ?_)
  obtain ⟨hv6, hv6a, hv6b⟩ := hv6
  refine aw_bipush (x := 40) dX7_readsItem_9 rfl ?_
  refine aw_icmp_ne (tgt := 20) dX7_readsItem_11 (by decide) (by first | assumption | omega) (by decide) (fun c11 => ?_) (fun c11 => ?_)
  · refine aw_iconst dX7_readsItem_20 ?_
    refine aw_istore_n (i := 3) (lv' := [(0, .ref 58), (1, iI ((k.length : Int))), (2, iI p), (3, iI 0)]) [1, 2, 3, 0] dX7_readsItem_21 rfl (by decide) rfl ?_
    refine aw_aload_n (i := 0) (q := 0) dX7_readsItem_22 rfl rfl ?_
    refine aw_cVp (As := []) (st := []) clX7_212 (s_X7_here (p := p) hR hE h7 (by omega)) SH_58 rfl (by decide) rfl rfl (Nat.le_of_ble_eq_true rfl) (by omega) (by decide) (Nat.le_refl _) (Nat.le_refl _) dX7_readsItem_23 (fun v23 hv23 => ?_)
    obtain ⟨hv23, hv23a, hv23b⟩ := hv23
    refine aw_bipush (x := 45) dX7_readsItem_26 rfl ?_
    refine aw_icmp_ne (tgt := 44) dX7_readsItem_28 (by decide) (by first | assumption | omega) (by decide) (fun c28 => ?_) (fun c28 => ?_)
    · refine aw_aload_n (i := 0) (q := 0) dX7_readsItem_44 rfl rfl ?_
      refine aw_cVp (As := []) (st := []) clX7_238 (s_X7_isLetter (p := p) hR hE h7 (by omega)) SH_58 rfl (by decide) rfl rfl (Nat.le_of_ble_eq_true rfl) (by omega) (by decide) (Nat.le_refl _) (Nat.le_refl _) dX7_readsItem_45 (fun v45 hv45 => ?_)
      refine aw_if_ne (tgt := 60) dX7_readsItem_48 (by decide) (by first | assumption | omega) (fun c48 => ?_) (fun c48 => ?_)
      · have hn45 : ¬ sgM mi p = 45 := by omega
        exact m_let hR hD hE hw hq h27 (by omega) 400 mi 0 p 301 (fun _ _ _ => rfl) h7 (by unfold itP; rw [if_neg hn45]) (by unfold itS; rw [if_neg hn45]) (by decide) (by omega) (by omega) (by omega)
      · refine aw_aload_n (i := 0) (q := 0) dX7_readsItem_51 rfl rfl ?_
        refine aw_iconst dX7_readsItem_52 ?_
        refine aw_aload_n (i := 0) (q := 0) dX7_readsItem_53 rfl rfl ?_
        refine aw_getIk (x := p) 25 flX7_206 SH_58 (by decide) rfl rfl h7 dX7_readsItem_54 (fun r54 => ?_)
        refine aw_cVv (As := [iI 1, iI p]) (st := []) clX7_227 (s_fails0 hR (by decide) (by omega) h27) SH_58 rfl (by decide) rfl rfl (Nat.le_of_ble_eq_true rfl) (by omega) (by decide) (Nat.le_refl _) (Nat.le_refl _) dX7_readsItem_57 (fun m9 hm9 => ?_)
        subst hm9
        refine aw_aload_n (i := 0) (q := 0) dX7_readsItem_60 rfl rfl ?_
        refine aw_cVp (As := []) (st := []) clX7_238 (s_X7_isLetter (p := p) hR (by rw [(frT_k (k := 28) (v := p) (by decide) (frT_k (k := 27) (v := 1) (by decide) (frT_rfl mi))) 58 24 (by decide) (by omega)]; exact hE) (by rw [aup_k (by decide), aup_k (by decide)]; exact h7) (by omega)) SH_58 rfl (by decide) rfl rfl (Nat.le_of_ble_eq_true rfl) (by omega) (by decide) (Nat.le_refl _) (Nat.le_refl _) dX7_readsItem_61 (fun v61 hv61 => ?_)
        rw [sgM_fr (frT_k (k := 28) (v := p) (by decide) (frT_k (k := 27) (v := 1) (by decide) (frT_rfl mi)))] at hv61
        refine aw_if_eq (tgt := 92) dX7_readsItem_64 (by decide) (by first | assumption | omega) (fun c64 => ?_) (fun c64 => ?_)
        · refine aw_aload_n (i := 0) (q := 0) dX7_readsItem_92 rfl rfl ?_
          refine aw_getIk (x := 1) 27 flX7_200 SH_58 (by decide) rfl rfl (by (rw [aup_k (by decide), aup_eq]) <;> rfl) dX7_readsItem_93 (fun r93 => ?_)
          refine aw_if_ne (tgt := 113) dX7_readsItem_96 (by decide) (by decide) (fun c96 => ?_) (fun c96 => ?_)
          · refine aw_iconst dX7_readsItem_113 ?_
            refine aw_istore (i := 4) (lv' := [(0, .ref 58), (1, iI ((k.length : Int))), (2, iI p), (3, iI 0), (4, iI 1)]) [1, 2, 3, 4, 0] dX7_readsItem_114 (by decide) rfl ?_
            refine aw_aload_n (i := 0) (q := 0) dX7_readsItem_116 rfl rfl ?_
            refine aw_getIk (x := 1) 27 flX7_200 SH_58 (by decide) rfl rfl (by (rw [aup_k (by decide), aup_eq]) <;> rfl) dX7_readsItem_117 (fun r117 => ?_)
            refine aw_if_ne (tgt := 141) dX7_readsItem_120 (by decide) (by decide) (fun c120 => ?_) (fun c120 => ?_)
            · refine aw_iconst dX7_readsItem_141 ?_
              refine aw_istore (i := 5) (lv' := [(0, .ref 58), (1, iI ((k.length : Int))), (2, iI p), (3, iI 0), (4, iI 1), (5, iI 0)]) [1, 2, 3, 4, 5, 0] dX7_readsItem_142 (by decide) rfl ?_
              refine aw_iload (i := 5) (q := 5) dX7_readsItem_144 rfl ?_
              refine aw_iload (i := 4) (q := 4) dX7_readsItem_146 rfl ?_
              refine aw_icmp_ge (tgt := 193) dX7_readsItem_148 (by decide) (by decide) (by decide) (fun c148 => ?_) (fun c148 => ?_)
              · exact absurd c148 (by decide)
              · refine aw_aload_n (i := 0) (q := 0) dX7_readsItem_151 rfl rfl ?_
                refine aw_getIk (x := 1) 27 flX7_200 SH_58 (by decide) rfl rfl (by (rw [aup_k (by decide), aup_eq]) <;> rfl) dX7_readsItem_152 (fun r152 => ?_)
                refine aw_if_ne (tgt := 193) dX7_readsItem_155 (by decide) (by decide) (fun c155 => ?_) (fun c155 => ?_)
                · have herr : rStep (sgM mi) (p, o, k) = (1, p, (p, o, k)) := by by_cases e41 : sgM mi p = 41; (have ek := h41 e41; subst ek; exact rs_close0 e41); (exact rs_bad (by omega) (by omega) e41 (by omega))
                  exact aw_vret ⟨rfl, rfl, rfl, ⟨(frT_k (k := 28) (v := p) (by decide) (frT_k (k := 27) (v := 1) (by decide) (frT_rfl mi))), Or.inl ⟨by rw [aup_k (by decide), aup_eq]; decide, [], by rw [aup_k (by decide), aup_eq, aup_eq]; exact Fin9_er (by show p < mi 58 24; omega) (by decide) herr⟩⟩⟩ (Nat.le_refl _) (Nat.le_refl _) dX7_readsItem_193
                · exact absurd c155 (by decide)
            · exact absurd c120 (by decide)
          · exact absurd c96 (by decide)
        · exfalso; omega
    · refine aw_aload_n (i := 0) (q := 0) dX7_readsItem_31 rfl rfl ?_
      refine aw_dup dX7_readsItem_32 rfl ?_
      refine aw_getIk (x := p) 25 flX7_206 SH_58 (by decide) rfl rfl h7 dX7_readsItem_33 (fun r33 => ?_)
      refine aw_iconst dX7_readsItem_36 ?_
      refine aw_iadd dX7_readsItem_37 ?_
      refine aw_putIk 25 flX7_206 SH_58 (by decide) rfl rfl rfl (by first | assumption | omega) dX7_readsItem_38 ?_
      refine aw_goto (tgt := 92) dX7_readsItem_41 (by decide) ?_
      have h45 : sgM mi p = 45 := by omega
      have e9 := m_rs2 hR (k := k) hD hE hw hq h27 (Or.inl h45) (m := aup mi 58 25 (p + 1)) (fun x j a => by rcases a with a | a; (exact aup_a a); (exact aup_k a)) (P := p + 1) (by unfold itP; rw [if_pos h45]) (aup_eq _ _ _ _)
      rw [show itS (sgM mi) p = 0 by (unfold itS; exact if_pos h45)] at e9
      exact e9
  · refine aw_aload_n (i := 0) (q := 0) dX7_readsItem_14 rfl rfl ?_
    refine aw_iload_n (i := 1) (q := 1) dX7_readsItem_15 rfl rfl ?_
    refine aw_cVv (As := [iI ((k.length : Int))]) (st := []) clX7_235 (hG mr hR mi p o k hE hw hq h27 hkl _ rfl (by omega)) SH_58 rfl (by decide) rfl rfl (Nat.le_of_ble_eq_true rfl) (by omega) (by decide) (Nat.le_refl _) (Nat.le_refl _) dX7_readsItem_16 (fun m9 hm9 => ?_)
    exact aw_vret ⟨rfl, rfl, rfl, hm9⟩ (Nat.le_refl _) (Nat.le_refl _) dX7_readsItem_19
theorem m_items {mr : aR} (hR : Rok mr) {mi : aM} {p : Int} {o : List Int} {k : rSt} {D kl : Nat} (hD : 4 ≤ D) (hG : ItmC D kl) (hE : 0 ≤ mi 58 24 ∧ mi 58 24 ≤ 300) (hkl : k.length = kl) (hk3 : k.length ≤ 3) : ∀ (n : Nat) (m : aM) (z : Int) (a : List Int), frT mi m → RQm m z a → wfQ (mi 58 24) (z, a, k) → Rch (sgM mi) (mi 58 24) (p, o, k) (z, a, k) → m 58 27 = 0 → mi 58 24 - z < n → AWm RX7 cX7_readsItems 2 (D + 1) (Pv mr (fun m => rdL mi (p, o, k) m)) 7 [(0, .ref 58), (1, iI ((k.length : Int)))] [] m mr := by
  intro n
  induction n with
  | zero => intro m z a hfr hqm hwz hrc h4 h3; have h9 : z ≤ mi 58 24 := hwz.2.1; omega
  | succ n ih =>
    intro m z a hfr hqm hwz hrc h4 h3
    have h7 : m 58 25 = z := hqm.1
    have h24 : m 58 24 = mi 58 24 := hfr _ _ (by decide) (by omega)
    have hz0 : 0 ≤ z ∧ z ≤ mi 58 24 := ⟨hwz.1, hwz.2.1⟩
    refine aw_aload_n (i := 0) (q := 0) dX7_readsItems_7 rfl rfl ?_
    refine aw_cVp (As := []) (st := []) clX7_212 (s_X7_here (p := z) hR (by rw [hfr 58 24 (by decide) (by omega)]; exact hE) h7 (by omega)) SH_58 rfl (by decide) rfl rfl (Nat.le_of_ble_eq_true rfl) (by omega) (by decide) (Nat.le_refl _) (Nat.le_refl _) dX7_readsItems_8 (fun v8 hv8 => ?_)
    obtain ⟨hv8, hv8a, hv8b⟩ := hv8
    rw [sgM_fr hfr] at hv8
    refine aw_bipush (x := 32) dX7_readsItems_11 rfl ?_
    refine aw_icmp_ne (tgt := 29) dX7_readsItems_13 (by decide) (by first | assumption | omega) (by decide) (fun c13 => ?_) (fun c13 => ?_)
    · refine aw_aload_n (i := 0) (q := 0) dX7_readsItems_29 rfl rfl ?_
      refine aw_getIk (x := z) 25 flX7_206 SH_58 (by decide) rfl rfl h7 dX7_readsItems_30 (fun r30 => ?_)
      refine aw_aload_n (i := 0) (q := 0) dX7_readsItems_33 rfl rfl ?_
      refine aw_getIk (x := mi 58 24) 24 flX7_209 SH_58 (by decide) rfl rfl h24 dX7_readsItems_34 (fun r34 => ?_)
      refine aw_icmp_ne (tgt := 54) dX7_readsItems_37 (by decide) (by first | assumption | omega) (by first | assumption | omega) (fun c37 => ?_) (fun c37 => ?_)
      · refine aw_iload_n (i := 1) (q := 1) dX7_readsItems_54 rfl rfl ?_
        refine aw_if_le (tgt := 68) dX7_readsItems_55 (by decide) (by first | assumption | omega) (fun c55 => ?_) (fun c55 => ?_)
        · refine aw_aload_n (i := 0) (q := 0) dX7_readsItems_68 rfl rfl ?_
          refine aw_iload_n (i := 1) (q := 1) dX7_readsItems_69 rfl rfl ?_
          refine aw_cVv (As := [iI ((k.length : Int))]) (st := []) clX7_232 (hG mr hR m z a k (by rw [h24]; exact hE) (by rw [h24]; exact hwz) hqm h4 hkl _ rfl (by rw [h24]; omega) (by rw [sgM_fr hfr]; omega) (by rw [sgM_fr hfr]; intro e41; first | (exfalso; omega) | (exact List.eq_nil_of_length_eq_zero (by omega)))) SH_58 rfl (by decide) rfl rfl (Nat.le_of_ble_eq_true rfl) (by omega) (by decide) (Nat.le_refl _) (Nat.le_refl _) dX7_readsItems_70 (fun m1 hm1 => ?_)
          unfold rdI at hm1
          rw [sgM_fr hfr, h24] at hm1
          obtain ⟨f1, hcs⟩ := hm1
          rcases hcs with ⟨k1, o8, k2⟩ | ⟨k1, p1, a1, k2, k3, k4⟩
          · refine aw_goto (tgt := 0) dX7_readsItems_73 (by decide) ?_
            refine aw_aload_n (i := 0) (q := 0) dX7_readsItems_0 rfl rfl ?_
            refine aw_getIk (x := m1 58 27) 27 flX7_200 SH_58 (by decide) rfl rfl rfl dX7_readsItems_1 (fun r1 => ?_)
            refine aw_if_ne (tgt := 76) dX7_readsItems_4 (by decide) (by first | assumption | omega) (fun c4 => ?_) (fun c4 => ?_)
            · exact aw_vret ⟨rfl, rfl, rfl, ⟨frT_tr hfr f1, Or.inl ⟨k1, o8, Fin9_tr hrc k2⟩⟩⟩ (Nat.le_refl _) (Nat.le_refl _) dX7_readsItems_76
            · exact absurd (by assumption) k1
          · refine aw_goto (tgt := 0) dX7_readsItems_73 (by decide) ?_
            refine aw_aload_n (i := 0) (q := 0) dX7_readsItems_0 rfl rfl ?_
            refine aw_getIk (x := 0) 27 flX7_200 SH_58 (by decide) rfl rfl k1 dX7_readsItems_1 (fun r1 => ?_)
            refine aw_if_ne (tgt := 76) dX7_readsItems_4 (by decide) (by decide) (fun c4 => ?_) (fun c4 => ?_)
            · exact absurd c4 (by decide)
            · obtain ⟨kk, hkk⟩ := k3
              exact ih m1 p1 a1 (frT_tr hfr f1) k2 (wf_rch (X := fun j => mi 71 j) hE.2 kk _ _ hwz hkk) (Rch_tr hrc ⟨kk, hkk⟩) k1 (by have k4 : z < p1 := k4; omega)
        · have hk9 : ([] : rSt).length < k.length := by show 0 < k.length; omega
          refine aw_aload_n (i := 0) (q := 0) dX7_readsItems_58 rfl rfl ?_
          refine aw_cVp (As := []) (st := []) clX7_212 (s_X7_here (p := z) hR (by rw [hfr 58 24 (by decide) (by omega)]; exact hE) h7 (by omega)) SH_58 rfl (by decide) rfl rfl (Nat.le_of_ble_eq_true rfl) (by omega) (by decide) (Nat.le_refl _) (Nat.le_refl _) dX7_readsItems_59 (fun v59 hv59 => ?_)
          obtain ⟨hv59, hv59a, hv59b⟩ := hv59
          rw [sgM_fr hfr] at hv59
          refine aw_bipush (x := 41) dX7_readsItems_62 rfl ?_
          refine aw_icmp_ne (tgt := 68) dX7_readsItems_64 (by decide) (by first | assumption | omega) (by decide) (fun c64 => ?_) (fun c64 => ?_)
          · refine aw_aload_n (i := 0) (q := 0) dX7_readsItems_68 rfl rfl ?_
            refine aw_iload_n (i := 1) (q := 1) dX7_readsItems_69 rfl rfl ?_
            refine aw_cVv (As := [iI ((k.length : Int))]) (st := []) clX7_232 (hG mr hR m z a k (by rw [h24]; exact hE) (by rw [h24]; exact hwz) hqm h4 hkl _ rfl (by rw [h24]; omega) (by rw [sgM_fr hfr]; omega) (by rw [sgM_fr hfr]; intro e41; first | (exfalso; omega) | (exact List.eq_nil_of_length_eq_zero (by omega)))) SH_58 rfl (by decide) rfl rfl (Nat.le_of_ble_eq_true rfl) (by omega) (by decide) (Nat.le_refl _) (Nat.le_refl _) dX7_readsItems_70 (fun m1 hm1 => ?_)
            unfold rdI at hm1
            rw [sgM_fr hfr, h24] at hm1
            obtain ⟨f1, hcs⟩ := hm1
            rcases hcs with ⟨k1, o8, k2⟩ | ⟨k1, p1, a1, k2, k3, k4⟩
            · refine aw_goto (tgt := 0) dX7_readsItems_73 (by decide) ?_
              refine aw_aload_n (i := 0) (q := 0) dX7_readsItems_0 rfl rfl ?_
              refine aw_getIk (x := m1 58 27) 27 flX7_200 SH_58 (by decide) rfl rfl rfl dX7_readsItems_1 (fun r1 => ?_)
              refine aw_if_ne (tgt := 76) dX7_readsItems_4 (by decide) (by first | assumption | omega) (fun c4 => ?_) (fun c4 => ?_)
              · exact aw_vret ⟨rfl, rfl, rfl, ⟨frT_tr hfr f1, Or.inl ⟨k1, o8, Fin9_tr hrc k2⟩⟩⟩ (Nat.le_refl _) (Nat.le_refl _) dX7_readsItems_76
              · exact absurd (by assumption) k1
            · refine aw_goto (tgt := 0) dX7_readsItems_73 (by decide) ?_
              refine aw_aload_n (i := 0) (q := 0) dX7_readsItems_0 rfl rfl ?_
              refine aw_getIk (x := 0) 27 flX7_200 SH_58 (by decide) rfl rfl k1 dX7_readsItems_1 (fun r1 => ?_)
              refine aw_if_ne (tgt := 76) dX7_readsItems_4 (by decide) (by decide) (fun c4 => ?_) (fun c4 => ?_)
              · exact absurd c4 (by decide)
              · obtain ⟨kk, hkk⟩ := k3
                exact ih m1 p1 a1 (frT_tr hfr f1) k2 (wf_rch (X := fun j => mi 71 j) hE.2 kk _ _ hwz hkk) (Rch_tr hrc ⟨kk, hkk⟩) k1 (by have k4 : z < p1 := k4; omega)
          · exact aw_vret ⟨rfl, rfl, rfl, ⟨hfr, Or.inr ⟨h4, z, a, hqm, hrc, Or.inr ⟨(fun e => by have e8 : k = [] := e; rw [e8] at hk9; exact absurd hk9 (by decide)), by omega, by omega⟩⟩⟩⟩ (Nat.le_refl _) (Nat.le_refl _) dX7_readsItems_67
      · refine aw_iload_n (i := 1) (q := 1) dX7_readsItems_40 rfl rfl ?_
        refine aw_if_le (tgt := 53) dX7_readsItems_41 (by decide) (by first | assumption | omega) (fun c41 => ?_) (fun c41 => ?_)
        · exact aw_vret ⟨rfl, rfl, rfl, ⟨hfr, Or.inr ⟨h4, z, a, hqm, hrc, Or.inl ⟨(show k = [] from List.eq_nil_of_length_eq_zero (by omega)), by omega⟩⟩⟩⟩ (Nat.le_refl _) (Nat.le_refl _) dX7_readsItems_53
        · have hk9 : ([] : rSt).length < k.length := by show 0 < k.length; omega
          refine aw_aload_n (i := 0) (q := 0) dX7_readsItems_44 rfl rfl ?_
          refine aw_iconst dX7_readsItems_45 ?_
          refine aw_aload_n (i := 0) (q := 0) dX7_readsItems_46 rfl rfl ?_
          refine aw_getIk (x := z) 25 flX7_206 SH_58 (by decide) rfl rfl h7 dX7_readsItems_47 (fun r47 => ?_)
          refine aw_cVv (As := [iI 1, iI z]) (st := []) clX7_227 (s_fails0 hR (by decide) (by omega) h4) SH_58 rfl (by decide) rfl rfl (Nat.le_of_ble_eq_true rfl) (by omega) (by decide) (Nat.le_refl _) (Nat.le_refl _) dX7_readsItems_50 (fun m9 hm9 => ?_)
          subst hm9
          exact aw_vret ⟨rfl, rfl, rfl, ⟨(frT_k (k := 28) (v := z) (by decide) (frT_k (k := 27) (v := 1) (by decide) hfr)), Or.inl ⟨by rw [aup_k (by decide), aup_eq]; decide, [], by rw [aup_k (by decide), aup_eq, aup_eq]; exact ⟨_, hrc, Or.inr ⟨by show mi 58 24 ≤ z; omega, Or.inl ⟨(fun e => by have e8 : k = [] := e; rw [e8] at hk9; exact absurd hk9 (by decide)), rfl, by omega⟩⟩, fun e => absurd e (by decide)⟩⟩⟩⟩ (Nat.le_refl _) (Nat.le_refl _) dX7_readsItems_53
    · have hz9 := sgM_lt (m := mi) (p := z) (by omega)
      refine aw_aload_n (i := 0) (q := 0) dX7_readsItems_16 rfl rfl ?_
      refine aw_dup dX7_readsItems_17 rfl ?_
      refine aw_getIk (x := z) 25 flX7_206 SH_58 (by decide) rfl rfl h7 dX7_readsItems_18 (fun r18 => ?_)
      refine aw_iconst dX7_readsItems_21 ?_
      refine aw_iadd dX7_readsItems_22 ?_
      refine aw_putIk 25 flX7_206 SH_58 (by decide) rfl rfl rfl (by first | assumption | omega) dX7_readsItems_23 ?_
      refine aw_goto (tgt := 7) dX7_readsItems_26 (by decide) ?_
      have hok : okS (sgM mi) (mi 58 24) (z, a, k) (z + 1, a, k) := ⟨by show z < mi 58 24; omega, rs_sp (by omega)⟩
      exact ih _ (z + 1) a (frT_k (by decide) hfr) ⟨aup_eq _ _ _ _, by rw [aup_k (by decide)]; exact hqm.2.1, AR_congr hqm.2.2 (fun j => aup_a (by decide))⟩ (wf_step (X := fun j => mi 71 j) hE.2 hwz hok).1 (Rch_ok hrc hok) (by rw [aup_k (by decide)]; exact h4) (by omega)
theorem items_of {D kl : Nat} (hD : 4 ≤ D) (hG : ItmC D kl) : ItsC (D + 1) kl := by
  intro mr hR mi p o k hE hw hq h27 hkl dp hdp
  subst hdp
  refine SPg.void rfl (by decide +kernel) (Nat.le_of_ble_eq_true rfl) ?_
  show AWm RX7 cX7_readsItems 2 (D + 1) (Pv mr (fun m => rdL mi (p, o, k) m)) 0 [(0, .ref 58), (1, iI ((k.length : Int)))] [] mi mr
  refine aw_aload_n (i := 0) (q := 0) dX7_readsItems_0 rfl rfl ?_
  refine aw_getIk (x := 0) 27 flX7_200 SH_58 (by decide) rfl rfl h27 dX7_readsItems_1 (fun r1 => ?_)
  refine aw_if_ne (tgt := 76) dX7_readsItems_4 (by decide) (by decide) (fun c4 => ?_) (fun c4 => ?_)
  · exact absurd c4 (by decide)
  · exact m_items hR hD hG hE hkl hw.2.2.2.1 302 mi p o (frT_rfl mi) hq hw (Rch_refl _ _ _) h27 (by have h9 : 0 ≤ p := hw.1; omega)
