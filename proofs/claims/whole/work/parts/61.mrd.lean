-- part 61: the reader of the model (printed by wip/whole/gen/p61.py)
def sgM (m : aM) : Int → Int := sgF (fun j => m 71 j) (m 58 24)
def frT (mi m : aM) : Prop := ∀ (x : Nat) (j : Int), x ≠ 74 → (x ≠ 58 ∨ (j ≠ 25 ∧ j ≠ 26 ∧ j ≠ 27 ∧ j ≠ 28)) → m x j = mi x j
theorem frT_rfl (mi : aM) : frT mi mi := fun _ _ _ _ => rfl
theorem frT_k {mi m : aM} {k v : Int} (hk : k = 25 ∨ k = 26 ∨ k = 27 ∨ k = 28) (h : frT mi m) : frT mi (aup m 58 k v) := fun x j a b => by
  have e : aup m 58 k v x j = m x j := by rcases b with b | b; (exact aup_a b); (exact aup_k (by omega))
  rw [e]; exact h x j a b
theorem frT_a {mi m : aM} {k v : Int} (h : frT mi m) : frT mi (aup m 74 k v) := fun x j a b => by rw [aup_a a]; exact h x j a b
theorem frT_tr {a b c : aM} (h : frT a b) (h2 : frT b c) : frT a c := fun x j p q => (h2 x j p q).trans (h x j p q)
theorem sgM_fr {mi m : aM} (h : frT mi m) : sgM m = sgM mi := by
  unfold sgM
  rw [h 58 24 (by decide) (by omega)]
  congr 1
  funext j
  exact h 71 j (by decide) (by omega)
theorem sgM_lt {m : aM} {p : Int} (h : 0 ≤ sgM m p) : 0 ≤ p ∧ p < m 58 24 := sgF_lt (X := fun j => m 71 j) h
theorem sgM_out {m : aM} {p : Int} (h : p < 0 ∨ m 58 24 ≤ p) : sgM m p = -1 := sgF_out h
def RQm (m : aM) (p : Int) (o : List Int) : Prop := m 58 25 = p ∧ m 58 26 = (o.length : Int) ∧ AR m 74 o
theorem RQm_push {m : aM} {P v : Int} {L : List Int} (h : RQm m P L) : RQm (aup (aup m 74 (m 58 26) v) 58 26 (m 58 26 + 1)) P (L ++ [v]) := by
  obtain ⟨h1, h2, h3⟩ := h
  refine ⟨?_, ?_, ?_⟩
  · rw [aup_k (by decide), aup_a (by decide)]; exact h1
  · rw [aup_eq, h2, List.length_append, List.length_singleton]; omega
  · refine AR_snoc h3 (fun j hj => ?_) ?_
    · rw [aup_a (by decide), aup_k (by rw [h2]; exact hj)]
    · rw [aup_a (by decide), h2, aup_eq]
/-- an item was read, or not -/
def rdI (mi : aM) (q : rQ) (m : aM) : Prop := frT mi m ∧ ((m 58 27 ≠ 0 ∧ ∃ o', Fin9 (sgM mi) (mi 58 24) q (m 58 27) (m 58 28) o') ∨ (m 58 27 = 0 ∧ ∃ (p' : Int) (o' : List Int), RQm m p' o' ∧ Rch (sgM mi) (mi 58 24) q (p', o', q.2.2) ∧ q.1 < p'))
/-- items were read up to the end, or to the bracket of their group -/
def rdL (mi : aM) (q : rQ) (m : aM) : Prop := frT mi m ∧ ((m 58 27 ≠ 0 ∧ ∃ o', Fin9 (sgM mi) (mi 58 24) q (m 58 27) (m 58 28) o') ∨ (m 58 27 = 0 ∧ ∃ (p' : Int) (o' : List Int), RQm m p' o' ∧ Rch (sgM mi) (mi 58 24) q (p', o', q.2.2) ∧ ((q.2.2 = [] ∧ p' = mi 58 24) ∨ (q.2.2 ≠ [] ∧ p' < mi 58 24 ∧ sgM mi p' = 41))))
def nuM (mi m : aM) (p r : Int) : Prop := (¬ (48 ≤ sgM mi p ∧ sgM mi p ≤ 57) ∧ r = 1 ∧ m = aup (aup mi 58 27 1) 58 28 p) ∨ ((48 ≤ sgM mi p ∧ sgM mi p ≤ 57) ∧ r = nuV (sgM mi) p ∧ m 58 25 = nuP (sgM mi) p ∧ (∀ (x : Nat) (j : Int), (x ≠ 58 ∨ (j ≠ 25 ∧ j ≠ 27 ∧ j ≠ 28)) → m x j = mi x j) ∧ ((1 ≤ r ∧ r ≤ 20 ∧ m 58 27 = 0 ∧ m 58 28 = mi 58 28) ∨ ((r < 1 ∨ 20 < r) ∧ m 58 27 = 2 ∧ m 58 28 = p)))
theorem s_X7_here {mr : aR} (hR : Rok mr) {mi : aM} {p : Int} (hE : 0 ≤ mi 58 24 ∧ mi 58 24 ≤ 300) (hp : mi 58 25 = p) (h0 : 0 ≤ p) : SPg yX7_here cX7_here 1 (some .int) 1 [.ref 58] mi mr (Pp mi mr (fun r => r = sgM mi p ∧ -2147483648 ≤ r ∧ r ≤ 2147483647)) := by
  refine SPg.pure rfl (by decide +kernel) (Nat.le_of_ble_eq_true rfl) ?_
  show AWm RX7 cX7_here 1 1 _ 0 [(0, .ref 58)] [] mi mr
  refine aw_aload_n (i := 0) (q := 0) dX7_here_0 rfl rfl ?_
  refine aw_getIk (x := p) 25 flX7_206 SH_58 (by decide) rfl rfl hp dX7_here_1 (fun r1 => ?_)
  refine aw_aload_n (i := 0) (q := 0) dX7_here_4 rfl rfl ?_
  refine aw_getIk (x := mi 58 24) 24 flX7_209 SH_58 (by decide) rfl rfl rfl dX7_here_5 (fun r5 => ?_)
  refine aw_icmp_ge (tgt := 23) dX7_here_8 (by decide) (by first | assumption | omega) (by first | assumption | omega) (fun c8 => ?_) (fun c8 => ?_)
  · refine aw_iconst dX7_here_23 ?_
    exact aw_iret ⟨_, rfl, rfl, rfl, rfl, ⟨(sgM_out (by omega)).symm, by omega, by omega⟩⟩ (Nat.le_refl _) (Nat.le_refl _) dX7_here_24
  · refine aw_aload_n (i := 0) (q := 0) dX7_here_11 rfl rfl ?_
    refine aw_getR (r := 71) flX7_51 SH_58 (by decide) rfl (rk_58_19 hR) dX7_here_12 ?_
    refine aw_aload_n (i := 0) (q := 0) dX7_here_15 rfl rfl ?_
    refine aw_getIk (x := p) 25 flX7_206 SH_58 (by decide) rfl rfl hp dX7_here_16 (fun r16 => ?_)
    refine aw_ialdv (x := mi 71 p) SH_71 (by decide) ⟨by omega, by omega⟩ rfl dX7_here_19 (fun r19 => ?_)
    refine aw_goto (tgt := 24) dX7_here_20 (by decide) ?_
    exact aw_iret ⟨_, rfl, rfl, rfl, rfl, ⟨(sgF_in (X := fun j => mi 71 j) (E := mi 58 24) ⟨by omega, by omega⟩).symm, r19.1, r19.2⟩⟩ (Nat.le_refl _) (Nat.le_refl _) dX7_here_24
theorem s_X7_isDigit {mr : aR} (hR : Rok mr) {mi : aM} {p : Int} (hE : 0 ≤ mi 58 24 ∧ mi 58 24 ≤ 300) (hp : mi 58 25 = p) (h0 : 0 ≤ p) : SPg yX7_isDigit cX7_isDigit 1 (some .boolean) 2 [.ref 58] mi mr (Pp mi mr (fun r => (r = 1 ∧ 48 ≤ sgM mi p ∧ sgM mi p ≤ 57) ∨ (r = 0 ∧ (sgM mi p < 48 ∨ 57 < sgM mi p)))) := by
  refine SPg.boolp rfl (by decide +kernel) (Nat.le_of_ble_eq_true rfl) (fun r h => by omega) ?_
  show AWm RX7 cX7_isDigit 1 2 _ 0 [(0, .ref 58)] [] mi mr
  refine aw_aload_n (i := 0) (q := 0) dX7_isDigit_0 rfl rfl ?_
  refine aw_cVp (As := []) (st := []) clX7_212 (s_X7_here (p := p) hR hE hp (by omega)) SH_58 rfl (by decide) rfl rfl (Nat.le_of_ble_eq_true rfl) (by decide) (by decide) (Nat.le_refl _) (Nat.le_refl _) dX7_isDigit_1 (fun v1 hv1 => ?_)
  obtain ⟨hv1, hv1a, hv1b⟩ := hv1
  refine aw_i2l dX7_isDigit_4 (by first | assumption | omega) ?_
  refine aw_ldc2 (x := 48) coX7_215 rfl dX7_isDigit_5 ?_
  refine aw_ldc2 (x := 57) coX7_217 rfl dX7_isDigit_8 ?_
  refine aw_cSp (As := [lL v1, lL 48, lL 57]) (st := []) clX7_135 (s_X7_isIn hR (by omega) (by omega) (by omega)) rfl rfl (Nat.le_of_ble_eq_true rfl) (by decide) (by decide) (Nat.le_refl _) (Nat.le_refl _) dX7_isDigit_11 (fun v11 hv11 => ?_)
  exact aw_iret ⟨_, rfl, rfl, rfl, rfl, (by omega)⟩ (Nat.le_refl _) (Nat.le_refl _) dX7_isDigit_14
theorem s_X7_isLetter {mr : aR} (hR : Rok mr) {mi : aM} {p : Int} (hE : 0 ≤ mi 58 24 ∧ mi 58 24 ≤ 300) (hp : mi 58 25 = p) (h0 : 0 ≤ p) : SPg yX7_isLetter cX7_isLetter 1 (some .boolean) 2 [.ref 58] mi mr (Pp mi mr (fun r => (r = 1 ∧ 97 ≤ sgM mi p ∧ sgM mi p ≤ 108) ∨ (r = 0 ∧ (sgM mi p < 97 ∨ 108 < sgM mi p)))) := by
  refine SPg.boolp rfl (by decide +kernel) (Nat.le_of_ble_eq_true rfl) (fun r h => by omega) ?_
  show AWm RX7 cX7_isLetter 1 2 _ 0 [(0, .ref 58)] [] mi mr
  refine aw_aload_n (i := 0) (q := 0) dX7_isLetter_0 rfl rfl ?_
  refine aw_cVp (As := []) (st := []) clX7_212 (s_X7_here (p := p) hR hE hp (by omega)) SH_58 rfl (by decide) rfl rfl (Nat.le_of_ble_eq_true rfl) (by decide) (by decide) (Nat.le_refl _) (Nat.le_refl _) dX7_isLetter_1 (fun v1 hv1 => ?_)
  obtain ⟨hv1, hv1a, hv1b⟩ := hv1
  refine aw_i2l dX7_isLetter_4 (by first | assumption | omega) ?_
  refine aw_ldc2 (x := 97) coX7_219 rfl dX7_isLetter_5 ?_
  refine aw_ldc2 (x := 108) coX7_221 rfl dX7_isLetter_8 ?_
  refine aw_cSp (As := [lL v1, lL 97, lL 108]) (st := []) clX7_135 (s_X7_isIn hR (by omega) (by omega) (by omega)) rfl rfl (Nat.le_of_ble_eq_true rfl) (by decide) (by decide) (Nat.le_refl _) (Nat.le_refl _) dX7_isLetter_11 (fun v11 hv11 => ?_)
  exact aw_iret ⟨_, rfl, rfl, rfl, rfl, (by omega)⟩ (Nat.le_refl _) (Nat.le_refl _) dX7_isLetter_14
theorem s_fails0 {mr : aR} (hR : Rok mr) {mi : aM} {c t : Int} (h_c : -2147483648 ≤ c ∧ c ≤ 2147483647) (h_t : -2147483648 ≤ t ∧ t ≤ 2147483647) (h27 : mi 58 27 = 0) : SPg yX7_fails cX7_fails 3 none 1 [.ref 58, iI c, iI t] mi mr (Pv mr (fun m => m = aup (aup mi 58 27 c) 58 28 t)) := by
  refine SPg.void rfl (by decide +kernel) (Nat.le_of_ble_eq_true rfl) ?_
  show AWm RX7 cX7_fails 3 1 _ 0 [(0, .ref 58), (1, iI c), (2, iI t)] [] mi mr
  refine aw_aload_n (i := 0) (q := 0) dX7_fails_0 rfl rfl ?_
  refine aw_getIk (x := mi 58 27) 27 flX7_200 SH_58 (by decide) rfl rfl rfl dX7_fails_1 (fun r1 => ?_)
  refine aw_if_eq (tgt := 8) dX7_fails_4 (by decide) (by first | assumption | omega) (fun c4 => ?_) (fun c4 => ?_)
  · refine aw_aload_n (i := 0) (q := 0) dX7_fails_8 rfl rfl ?_
    refine aw_iload_n (i := 1) (q := 1) dX7_fails_9 rfl rfl ?_
    refine aw_putIk 27 flX7_200 SH_58 (by decide) rfl rfl rfl (by first | assumption | omega) dX7_fails_10 ?_
    refine aw_aload_n (i := 0) (q := 0) dX7_fails_13 rfl rfl ?_
    refine aw_iload_n (i := 2) (q := 2) dX7_fails_14 rfl rfl ?_
    refine aw_putIk 28 flX7_203 SH_58 (by decide) rfl rfl rfl (by first | assumption | omega) dX7_fails_15 ?_
    exact aw_vret ⟨rfl, rfl, rfl, rfl⟩ (Nat.le_refl _) (Nat.le_refl _) dX7_fails_18
  · exact aw_vret ⟨rfl, rfl, rfl, (by exfalso; omega)⟩ (Nat.le_refl _) (Nat.le_refl _) dX7_fails_7
theorem s_failsN {mr : aR} (hR : Rok mr) {mi : aM} {c t : Int} (h_c : -2147483648 ≤ c ∧ c ≤ 2147483647) (h_t : -2147483648 ≤ t ∧ t ≤ 2147483647) (h27 : mi 58 27 ≠ 0) : SPg yX7_fails cX7_fails 3 none 1 [.ref 58, iI c, iI t] mi mr (Pv mr (fun m => m = mi)) := by
  refine SPg.void rfl (by decide +kernel) (Nat.le_of_ble_eq_true rfl) ?_
  show AWm RX7 cX7_fails 3 1 _ 0 [(0, .ref 58), (1, iI c), (2, iI t)] [] mi mr
  refine aw_aload_n (i := 0) (q := 0) dX7_fails_0 rfl rfl ?_
  refine aw_getIk (x := mi 58 27) 27 flX7_200 SH_58 (by decide) rfl rfl rfl dX7_fails_1 (fun r1 => ?_)
  refine aw_if_eq (tgt := 8) dX7_fails_4 (by decide) (by first | assumption | omega) (fun c4 => ?_) (fun c4 => ?_)
  · refine aw_aload_n (i := 0) (q := 0) dX7_fails_8 rfl rfl ?_
    refine aw_iload_n (i := 1) (q := 1) dX7_fails_9 rfl rfl ?_
    refine aw_putIk 27 flX7_200 SH_58 (by decide) rfl rfl rfl (by first | assumption | omega) dX7_fails_10 ?_
    refine aw_aload_n (i := 0) (q := 0) dX7_fails_13 rfl rfl ?_
    refine aw_iload_n (i := 2) (q := 2) dX7_fails_14 rfl rfl ?_
    refine aw_putIk 28 flX7_203 SH_58 (by decide) rfl rfl rfl (by first | assumption | omega) dX7_fails_15 ?_
    exact aw_vret ⟨rfl, rfl, rfl, (by exfalso; omega)⟩ (Nat.le_refl _) (Nat.le_refl _) dX7_fails_18
  · exact aw_vret ⟨rfl, rfl, rfl, rfl⟩ (Nat.le_refl _) (Nat.le_refl _) dX7_fails_7
theorem l_mnum {mr : aR} (hR : Rok mr) {mi : aM} {p : Int} (hE : 0 ≤ mi 58 24 ∧ mi 58 24 ≤ 300) (h27 : mi 58 27 = 0) (hd : 48 ≤ sgM mi p ∧ sgM mi p ≤ 57) : ∀ (n : Nat) (m : aM) (g z : Int), (∀ (x : Nat) (j : Int), (x ≠ 58 ∨ j ≠ 25) → m x j = mi x j) → m 58 25 = z → (p ≤ z ∧ z ≤ p + 2) → ((z = p ∧ g = 0) ∨ (z = p + 1 ∧ g = sgM mi p - 48) ∨ (z = p + 2 ∧ g = 10 * (sgM mi p - 48) + (sgM mi (p + 1) - 48) ∧ 48 ≤ sgM mi (p + 1) ∧ sgM mi (p + 1) ≤ 57)) → p + 2 - z < n → AWm RX7 cX7_number 4 3 (Pi mr (fun r m => nuM mi m p r)) 27 [(0, .ref 58), (1, iI p), (2, iI g), (3, iI (z - p))] [] m mr := by
  intro n
  induction n with
  | zero => intro m g z hm h7 h2 hI h3; omega
  | succ n ih =>
    intro m g z hm h7 h2 hI h3
    have hfr : frT mi m := fun x j _ b => hm x j (by omega)
    have hpl := sgM_lt (m := mi) (p := p) (by omega)
    refine aw_iload_n (i := 3) (q := 3) dX7_number_27 rfl rfl ?_
    refine aw_iconst dX7_number_28 ?_
    refine aw_icmp_ge (tgt := 68) dX7_number_29 (by decide) (by first | assumption | omega) (by decide) (fun c29 => ?_) (fun c29 => ?_)
    · have hN : g = nuV (sgM mi) p ∧ z = nuP (sgM mi) p := by
        unfold nuV nuP
        rcases hI with ⟨q1, q2⟩ | ⟨q1, q2⟩ | ⟨q1, q2, q3⟩
        · exfalso; first | omega | (rw [q1] at hv33; omega)
        · first | omega | (rw [q1] at hv33; rw [if_neg (by omega), if_neg (by omega)]; exact ⟨q2, q1⟩)
        · rw [if_pos q3, if_pos q3]; exact ⟨q2, q1⟩
      have hgr := nuV_rng (s := sgM mi) (p := p) hd
      rw [← hN.1] at hgr
      refine aw_iload_n (i := 2) (q := 2) dX7_number_68 rfl rfl ?_
      refine aw_i2l dX7_number_69 (by first | assumption | omega) ?_
      refine aw_lconst (x := 1) dX7_number_70 rfl ?_
      refine aw_ldc2 (x := 20) coX7_230 rfl dX7_number_71 ?_
      refine aw_cSp (As := [lL g, lL 1, lL 20]) (st := []) clX7_135 (s_X7_isIn hR (by omega) (by omega) (by omega)) rfl rfl (Nat.le_of_ble_eq_true rfl) (by decide) (by decide) (Nat.le_refl _) (Nat.le_refl _) dX7_number_74 (fun v74 hv74 => ?_)
      refine aw_if_ne (tgt := 86) dX7_number_77 (by decide) (by first | assumption | omega) (fun c77 => ?_) (fun c77 => ?_)
      · refine aw_iload_n (i := 2) (q := 2) dX7_number_86 rfl rfl ?_
        exact aw_iret ⟨_, rfl, rfl, rfl, (Or.inr ⟨hd, hN.1, by rw [h7]; exact hN.2, fun x j a => hm x j (by omega), Or.inl ⟨by omega, by omega, (hm _ _ (by omega)).trans h27, hm _ _ (by omega)⟩⟩ : nuM mi _ p g)⟩ (Nat.le_refl _) (Nat.le_refl _) dX7_number_87
      · refine aw_aload_n (i := 0) (q := 0) dX7_number_80 rfl rfl ?_
        refine aw_iconst dX7_number_81 ?_
        refine aw_iload_n (i := 1) (q := 1) dX7_number_82 rfl rfl ?_
        refine aw_cVv (As := [iI 2, iI p]) (st := []) clX7_227 (s_fails0 hR (by decide) (by omega) ((hm _ _ (by omega)).trans h27)) SH_58 rfl (by decide) rfl rfl (Nat.le_of_ble_eq_true rfl) (by decide) (by decide) (Nat.le_refl _) (Nat.le_refl _) dX7_number_83 (fun m9 hm9 => ?_)
        subst hm9
        refine aw_iload_n (i := 2) (q := 2) dX7_number_86 rfl rfl ?_
        exact aw_iret ⟨_, rfl, rfl, rfl, (Or.inr ⟨hd, hN.1, by rw [aup_k (by decide), aup_k (by decide), h7]; exact hN.2, fun x j a => by (have e1 : aup (aup m 58 27 2) 58 28 p x j = m x j := by rcases a with a | a; (rw [aup_a a, aup_a a]); (rw [aup_k a.2.2, aup_k a.2.1])); rw [e1]; exact hm x j (by omega), Or.inr ⟨by omega, by rw [aup_k (by decide), aup_eq], aup_eq _ _ _ _⟩⟩ : nuM mi _ p g)⟩ (Nat.le_refl _) (Nat.le_refl _) dX7_number_87
    · refine aw_aload_n (i := 0) (q := 0) dX7_number_32 rfl rfl ?_
      refine aw_cVp (As := []) (st := []) clX7_223 (s_X7_isDigit (p := z) hR (by rw [hfr 58 24 (by decide) (by omega)]; exact hE) h7 (by omega)) SH_58 rfl (by decide) rfl rfl (Nat.le_of_ble_eq_true rfl) (by decide) (by decide) (Nat.le_refl _) (Nat.le_refl _) dX7_number_33 (fun v33 hv33 => ?_)
      rw [sgM_fr hfr] at hv33
      refine aw_if_eq (tgt := 68) dX7_number_36 (by decide) (by first | assumption | omega) (fun c36 => ?_) (fun c36 => ?_)
      · have hN : g = nuV (sgM mi) p ∧ z = nuP (sgM mi) p := by
          unfold nuV nuP
          rcases hI with ⟨q1, q2⟩ | ⟨q1, q2⟩ | ⟨q1, q2, q3⟩
          · exfalso; first | omega | (rw [q1] at hv33; omega)
          · first | omega | (rw [q1] at hv33; rw [if_neg (by omega), if_neg (by omega)]; exact ⟨q2, q1⟩)
          · rw [if_pos q3, if_pos q3]; exact ⟨q2, q1⟩
        have hgr := nuV_rng (s := sgM mi) (p := p) hd
        rw [← hN.1] at hgr
        refine aw_iload_n (i := 2) (q := 2) dX7_number_68 rfl rfl ?_
        refine aw_i2l dX7_number_69 (by first | assumption | omega) ?_
        refine aw_lconst (x := 1) dX7_number_70 rfl ?_
        refine aw_ldc2 (x := 20) coX7_230 rfl dX7_number_71 ?_
        refine aw_cSp (As := [lL g, lL 1, lL 20]) (st := []) clX7_135 (s_X7_isIn hR (by omega) (by omega) (by omega)) rfl rfl (Nat.le_of_ble_eq_true rfl) (by decide) (by decide) (Nat.le_refl _) (Nat.le_refl _) dX7_number_74 (fun v74 hv74 => ?_)
        refine aw_if_ne (tgt := 86) dX7_number_77 (by decide) (by first | assumption | omega) (fun c77 => ?_) (fun c77 => ?_)
        · refine aw_iload_n (i := 2) (q := 2) dX7_number_86 rfl rfl ?_
          exact aw_iret ⟨_, rfl, rfl, rfl, (Or.inr ⟨hd, hN.1, by rw [h7]; exact hN.2, fun x j a => hm x j (by omega), Or.inl ⟨by omega, by omega, (hm _ _ (by omega)).trans h27, hm _ _ (by omega)⟩⟩ : nuM mi _ p g)⟩ (Nat.le_refl _) (Nat.le_refl _) dX7_number_87
        · refine aw_aload_n (i := 0) (q := 0) dX7_number_80 rfl rfl ?_
          refine aw_iconst dX7_number_81 ?_
          refine aw_iload_n (i := 1) (q := 1) dX7_number_82 rfl rfl ?_
          refine aw_cVv (As := [iI 2, iI p]) (st := []) clX7_227 (s_fails0 hR (by decide) (by omega) ((hm _ _ (by omega)).trans h27)) SH_58 rfl (by decide) rfl rfl (Nat.le_of_ble_eq_true rfl) (by decide) (by decide) (Nat.le_refl _) (Nat.le_refl _) dX7_number_83 (fun m9 hm9 => ?_)
          subst hm9
          refine aw_iload_n (i := 2) (q := 2) dX7_number_86 rfl rfl ?_
          exact aw_iret ⟨_, rfl, rfl, rfl, (Or.inr ⟨hd, hN.1, by rw [aup_k (by decide), aup_k (by decide), h7]; exact hN.2, fun x j a => by (have e1 : aup (aup m 58 27 2) 58 28 p x j = m x j := by rcases a with a | a; (rw [aup_a a, aup_a a]); (rw [aup_k a.2.2, aup_k a.2.1])); rw [e1]; exact hm x j (by omega), Or.inr ⟨by omega, by rw [aup_k (by decide), aup_eq], aup_eq _ _ _ _⟩⟩ : nuM mi _ p g)⟩ (Nat.le_refl _) (Nat.le_refl _) dX7_number_87
      · refine aw_bipush (x := 10) dX7_number_39 rfl ?_
        refine aw_iload_n (i := 2) (q := 2) dX7_number_41 rfl rfl ?_
        refine aw_imul dX7_number_42 ?_
        refine aw_aload_n (i := 0) (q := 0) dX7_number_43 rfl rfl ?_
        refine aw_cVp (As := []) (st := [iI (10 * g)]) clX7_212 (s_X7_here (p := z) hR (by rw [hfr 58 24 (by decide) (by omega)]; exact hE) h7 (by omega)) SH_58 rfl (by decide) rfl rfl (Nat.le_of_ble_eq_true rfl) (by decide) (by decide) (Nat.le_refl _) (Nat.le_refl _) dX7_number_44 (fun v44 hv44 => ?_)
        obtain ⟨hv44, hv44a, hv44b⟩ := hv44
        rw [sgM_fr hfr] at hv44
        refine aw_iadd dX7_number_47 ?_
        refine aw_bipush (x := 48) dX7_number_48 rfl ?_
        refine aw_isub dX7_number_50 ?_
        refine aw_istore_n (i := 2) (lv' := [(0, .ref 58), (1, iI p), (2, iI (((10 * g) + v44) - 48)), (3, iI (z - p))]) [1, 2, 0, 3] dX7_number_51 rfl (by decide) rfl ?_
        refine aw_aload_n (i := 0) (q := 0) dX7_number_52 rfl rfl ?_
        refine aw_dup dX7_number_53 rfl ?_
        refine aw_getIk (x := z) 25 flX7_206 SH_58 (by decide) rfl rfl h7 dX7_number_54 (fun r54 => ?_)
        refine aw_iconst dX7_number_57 ?_
        refine aw_iadd dX7_number_58 ?_
        refine aw_putIk 25 flX7_206 SH_58 (by decide) rfl rfl rfl (by first | assumption | omega) dX7_number_59 ?_
        refine aw_iinc (i := 3) (q := 3) (x := z - p) (lv' := [(0, .ref 58), (1, iI p), (2, iI (((10 * g) + v44) - 48)), (3, iI ((z - p) + 1))]) [1, 2, 3, 0] dX7_number_62 rfl (by decide) rfl ?_
        refine aw_goto (tgt := 27) dX7_number_65 (by decide) ?_
        rw [show z - p + 1 = z + 1 - p by omega]
        exact ih _ _ (z + 1) (fun x j a => by (have e1 : aup m 58 25 (z + 1) x j = m x j := by rcases a with a | a; (exact aup_a a); (exact aup_k a)); rw [e1]; exact hm x j a) (aup_eq _ _ _ _) (by omega) (by rcases hI with ⟨q1, q2⟩ | ⟨q1, q2⟩ | ⟨q1, q2, q3⟩; (refine Or.inr (Or.inl ⟨by omega, ?_⟩); rw [hv44, q1, q2]; omega); (refine Or.inr (Or.inr ⟨by omega, ?_, ?_⟩); (rw [hv44, q1, q2]; omega); (rw [← q1]; omega)); (omega)) (by omega)
theorem s_X7_number {mr : aR} (hR : Rok mr) {mi : aM} {p : Int} (hE : 0 ≤ mi 58 24 ∧ mi 58 24 ≤ 300) (hp : mi 58 25 = p) (h0 : 0 ≤ p) (h27 : mi 58 27 = 0) : SPg yX7_number cX7_number 4 (some .int) 3 [.ref 58] mi mr (Pi mr (fun r m => nuM mi m p r)) := by
  refine SPg.int rfl (by decide +kernel) (Nat.le_of_ble_eq_true rfl) ?_
  show AWm RX7 cX7_number 4 3 _ 0 [(0, .ref 58)] [] mi mr
  refine aw_aload_n (i := 0) (q := 0) dX7_number_0 rfl rfl ?_
  refine aw_cVp (As := []) (st := []) clX7_223 (s_X7_isDigit (p := p) hR hE hp (by omega)) SH_58 rfl (by decide) rfl rfl (Nat.le_of_ble_eq_true rfl) (by decide) (by decide) (Nat.le_refl _) (Nat.le_refl _) dX7_number_1 (fun v1 hv1 => ?_)
  refine aw_if_ne (tgt := 18) dX7_number_4 (by decide) (by first | assumption | omega) (fun c4 => ?_) (fun c4 => ?_)
  · refine aw_aload_n (i := 0) (q := 0) dX7_number_18 rfl rfl ?_
    refine aw_getIk (x := p) 25 flX7_206 SH_58 (by decide) rfl rfl hp dX7_number_19 (fun r19 => ?_)
    refine aw_istore_n (i := 1) (lv' := [(0, .ref 58), (1, iI p)]) [1, 0] dX7_number_22 rfl (by decide) rfl ?_
    refine aw_iconst dX7_number_23 ?_
    refine aw_istore_n (i := 2) (lv' := [(0, .ref 58), (1, iI p), (2, iI 0)]) [1, 2, 0] dX7_number_24 rfl (by decide) rfl ?_
    refine aw_iconst dX7_number_25 ?_
    refine aw_istore_n (i := 3) (lv' := [(0, .ref 58), (1, iI p), (2, iI 0), (3, iI 0)]) [1, 2, 3, 0] dX7_number_26 rfl (by decide) rfl ?_
    have e9 := l_mnum hR hE h27 (p := p) (by omega) 3 mi 0 p (fun _ _ _ => rfl) hp (by omega) (Or.inl ⟨rfl, rfl⟩) (by omega); rw [show p - p = 0 by omega] at e9; exact e9
  · refine aw_aload_n (i := 0) (q := 0) dX7_number_7 rfl rfl ?_
    refine aw_iconst dX7_number_8 ?_
    refine aw_aload_n (i := 0) (q := 0) dX7_number_9 rfl rfl ?_
    refine aw_getIk (x := p) 25 flX7_206 SH_58 (by decide) rfl rfl hp dX7_number_10 (fun r10 => ?_)
    refine aw_cVv (As := [iI 1, iI p]) (st := []) clX7_227 (s_fails0 hR (by decide) (by omega) h27) SH_58 rfl (by decide) rfl rfl (Nat.le_of_ble_eq_true rfl) (by decide) (by decide) (Nat.le_refl _) (Nat.le_refl _) dX7_number_13 (fun m9 hm9 => ?_)
    subst hm9
    refine aw_iconst dX7_number_16 ?_
    exact aw_iret ⟨_, rfl, rfl, rfl, (Or.inl ⟨by omega, rfl, rfl⟩)⟩ (Nat.le_refl _) (Nat.le_refl _) dX7_number_17
