-- part 58: the reader of the class: signs, numbers, steps (printed by wip/whole/gen/p58.py)
def sgC (m : aM) : Int → Int := sgF (fun j => m 19 j) (m 18 6)
def frR (mi m : aM) : Prop := (∀ (x : Nat) (j : Int), x ≠ 18 → x ≠ 20 → x ≠ 21 → x ≠ 22 → m x j = mi x j) ∧ m 18 1 = mi 18 1 ∧ m 18 6 = mi 18 6
theorem frR_rfl (mi : aM) : frR mi mi := ⟨fun _ _ _ _ _ _ => rfl, rfl, rfl⟩
theorem frR_k {mi m : aM} {k v : Int} (h1 : (1 : Int) ≠ k) (h6 : (6 : Int) ≠ k) (h : frR mi m) : frR mi (aup m 18 k v) := ⟨fun x j a b c d => by rw [aup_a a]; exact h.1 x j a b c d, by rw [aup_k h1]; exact h.2.1, by rw [aup_k h6]; exact h.2.2⟩
theorem frR_a {mi m : aM} {a : Nat} {k v : Int} (ha : a = 20 ∨ a = 21 ∨ a = 22) (h : frR mi m) : frR mi (aup m a k v) := ⟨fun x j a b c d => by rw [aup_a (by omega)]; exact h.1 x j a b c d, by rw [aup_a (by omega)]; exact h.2.1, by rw [aup_a (by omega)]; exact h.2.2⟩
theorem frR_tr {a b c : aM} (h : frR a b) (h2 : frR b c) : frR a c := ⟨fun x j p q r s => (h2.1 x j p q r s).trans (h.1 x j p q r s), h2.2.1.trans h.2.1, h2.2.2.trans h.2.2⟩
theorem frR_7 {mi m : aM} (h : ∀ (x : Nat) (j : Int), (x ≠ 18 ∨ j ≠ 7) → m x j = mi x j) : frR mi m := ⟨fun x j a _ _ _ => h x j (Or.inl a), h _ _ (Or.inr (by decide)), h _ _ (Or.inr (by decide))⟩
theorem sgC_fr {mi m : aM} (h : frR mi m) : sgC m = sgC mi := by
  unfold sgC
  rw [h.2.2]
  congr 1
  funext j
  exact h.1 19 j (by decide) (by decide) (by decide) (by decide)
theorem sgC_lt {m : aM} {p : Int} (h : 0 ≤ sgC m p) : 0 ≤ p ∧ p < m 18 6 := sgF_lt (X := fun j => m 19 j) h
theorem sgC_out {m : aM} {p : Int} (h : p < 0 ∨ m 18 6 ≤ p) : sgC m p = -1 := sgF_out h
def SV (m : aM) : rSt → Prop
  | [] => True
  | g :: r => m 21 (r.length : Nat) = g.1 ∧ m 22 (r.length : Nat) = (g.2 : Int) ∧ SV m r
theorem SV_congr {m m' : aM} : ∀ (k : rSt), (∀ j : Nat, j < k.length → m' 21 j = m 21 j ∧ m' 22 j = m 22 j) → SV m k → SV m' k
  | [], _, _ => trivial
  | g :: r, h, ⟨h1, h2, h3⟩ => by
    have e := h r.length (by rw [List.length_cons]; omega)
    exact ⟨e.1.trans h1, e.2.trans h2, SV_congr r (fun j hj => h j (by rw [List.length_cons]; omega)) h3⟩
/-- the reader's cells hold a state -/
def RQc (m : aM) (q : rQ) : Prop := m 18 7 = q.1 ∧ m 18 3 = (q.2.1.length : Int) ∧ AR m 20 q.2.1 ∧ m 18 8 = (q.2.2.length : Int) ∧ SV m q.2.2
theorem RQ_push {m : aM} {P v : Int} {L : List Int} {k : rSt} (h : RQc m (P, L, k)) : RQc (aup (aup m 20 (m 18 3) v) 18 3 (m 18 3 + 1)) (P, L ++ [v], k) := by
  obtain ⟨h1, h2, h3, h4, h5⟩ := h
  have h2 : m 18 3 = (L.length : Int) := h2
  refine ⟨?_, ?_, ?_, ?_, ?_⟩
  · rw [aup_k (by decide), aup_a (by decide)]; exact h1
  · rw [aup_eq, h2]; show _ = ((L ++ [v]).length : Int); rw [List.length_append, List.length_singleton]; omega
  · refine AR_snoc h3 (fun j hj => ?_) ?_
    · rw [aup_a (by decide), aup_k (by rw [h2]; exact hj)]
    · rw [aup_a (by decide), h2, aup_eq]
  · rw [aup_k (by decide), aup_a (by decide)]; exact h4
  · refine SV_congr k (fun j _ => ?_) h5
    rw [aup_a (by decide), aup_a (by decide), aup_a (by decide), aup_a (by decide)]
    exact ⟨rfl, rfl⟩
/-- what a method that reads one thing does -/
def stR (mi : aM) (q : rQ) (m : aM) : Prop := frR mi m ∧ ∃ (e ep : Int) (q' : rQ), rStep (sgC mi) q = (e, ep, q') ∧ ((e = 0 ∧ ep = -1 ∧ RQc m q' ∧ m 18 4 = 0 ∧ m 18 5 = mi 18 5) ∨ (e ≠ 0 ∧ m 18 4 = e ∧ m 18 5 = ep))
/-- a number was read at p -/
def nuO (mi m : aM) (p r : Int) : Prop := r = nuV (sgC mi) p ∧ m 18 7 = nuP (sgC mi) p ∧ (∀ (x : Nat) (j : Int), (x ≠ 18 ∨ (j ≠ 4 ∧ j ≠ 5 ∧ j ≠ 7)) → m x j = mi x j) ∧ ((1 ≤ r ∧ r ≤ 20 ∧ m 18 4 = mi 18 4 ∧ m 18 5 = mi 18 5) ∨ ((r < 1 ∨ 20 < r) ∧ m 18 4 = 2 ∧ m 18 5 = p))
theorem s_X3_signAt {mr : aR} (hR : Rok mr) {mi : aM} {t : Int} (hE : 0 ≤ mi 18 6 ∧ mi 18 6 ≤ 300) (h_t : -2147483648 ≤ t ∧ t ≤ 2147483647) : SPg yX3_signAt cX3_signAt 2 (some .int) 1 [.ref 18, iI t] mi mr (Pp mi mr (fun r => r = sgC mi t ∧ -2147483648 ≤ r ∧ r ≤ 2147483647)) := by
  refine SPg.pure rfl (by decide +kernel) (Nat.le_of_ble_eq_true rfl) ?_
  show AWm RX3 cX3_signAt 2 1 _ 0 [(0, .ref 18), (1, iI t)] [] mi mr
  refine aw_iload_n (i := 1) (q := 1) dX3_signAt_0 rfl rfl ?_
  refine aw_if_lt (tgt := 21) dX3_signAt_1 (by decide) (by first | assumption | omega) (fun c1 => ?_) (fun c1 => ?_)
  · refine aw_iconst dX3_signAt_21 ?_
    exact aw_iret ⟨_, rfl, rfl, rfl, rfl, ⟨(sgC_out (by omega)).symm, by omega, by omega⟩⟩ (Nat.le_refl _) (Nat.le_refl _) dX3_signAt_22
  · refine aw_iload_n (i := 1) (q := 1) dX3_signAt_4 rfl rfl ?_
    refine aw_aload_n (i := 0) (q := 0) dX3_signAt_5 rfl rfl ?_
    refine aw_getIk (x := mi 18 6) 6 flX3_31 SH_18 (by decide) rfl rfl rfl dX3_signAt_6 (fun r6 => ?_)
    refine aw_icmp_ge (tgt := 21) dX3_signAt_9 (by decide) (by first | assumption | omega) (by first | assumption | omega) (fun c9 => ?_) (fun c9 => ?_)
    · refine aw_iconst dX3_signAt_21 ?_
      exact aw_iret ⟨_, rfl, rfl, rfl, rfl, ⟨(sgC_out (by omega)).symm, by omega, by omega⟩⟩ (Nat.le_refl _) (Nat.le_refl _) dX3_signAt_22
    · refine aw_aload_n (i := 0) (q := 0) dX3_signAt_12 rfl rfl ?_
      refine aw_getR (r := 19) flX3_9 SH_18 (by decide) rfl (rk_18_0 hR) dX3_signAt_13 ?_
      refine aw_iload_n (i := 1) (q := 1) dX3_signAt_16 rfl rfl ?_
      refine aw_ialdv (x := mi 19 t) SH_19 (by decide) ⟨by omega, by omega⟩ rfl dX3_signAt_17 (fun r17 => ?_)
      refine aw_goto (tgt := 22) dX3_signAt_18 (by decide) ?_
      exact aw_iret ⟨_, rfl, rfl, rfl, rfl, ⟨(sgF_in (X := fun j => mi 19 j) (E := mi 18 6) ⟨by omega, by omega⟩).symm, r17.1, r17.2⟩⟩ (Nat.le_refl _) (Nat.le_refl _) dX3_signAt_22
theorem s_X3_isLetter {mr : aR} (hR : Rok mr) {mi : aM} {c : Int} (h_c : -2147483648 ≤ c ∧ c ≤ 2147483647) : SPg yX3_isLetter cX3_isLetter 1 (some .boolean) 1 [iI c] mi mr (Pp mi mr (fun r => (r = 1 ∧ 97 ≤ c ∧ c ≤ 108) ∨ (r = 0 ∧ (c < 97 ∨ 108 < c)))) := by
  refine SPg.boolp rfl (by decide +kernel) (Nat.le_of_ble_eq_true rfl) (fun r h => by omega) ?_
  show AWm RX3 cX3_isLetter 1 1 _ 0 [(0, iI c)] [] mi mr
  refine aw_iload_n (i := 0) (q := 0) dX3_isLetter_0 rfl rfl ?_
  refine aw_bipush (x := 97) dX3_isLetter_1 rfl ?_
  refine aw_icmp_lt (tgt := 16) dX3_isLetter_3 (by decide) (by first | assumption | omega) (by decide) (fun c3 => ?_) (fun c3 => ?_)
  · refine aw_iconst dX3_isLetter_16 ?_
    exact aw_iret ⟨_, rfl, rfl, rfl, rfl, (by omega)⟩ (Nat.le_refl _) (Nat.le_refl _) dX3_isLetter_17
  · refine aw_iload_n (i := 0) (q := 0) dX3_isLetter_6 rfl rfl ?_
    refine aw_bipush (x := 108) dX3_isLetter_7 rfl ?_
    refine aw_icmp_gt (tgt := 16) dX3_isLetter_9 (by decide) (by first | assumption | omega) (by decide) (fun c9 => ?_) (fun c9 => ?_)
    · refine aw_iconst dX3_isLetter_16 ?_
      exact aw_iret ⟨_, rfl, rfl, rfl, rfl, (by omega)⟩ (Nat.le_refl _) (Nat.le_refl _) dX3_isLetter_17
    · refine aw_iconst dX3_isLetter_12 ?_
      refine aw_goto (tgt := 17) dX3_isLetter_13 (by decide) ?_
      exact aw_iret ⟨_, rfl, rfl, rfl, rfl, (by omega)⟩ (Nat.le_refl _) (Nat.le_refl _) dX3_isLetter_17
theorem s_X3_isDigit {mr : aR} (hR : Rok mr) {mi : aM} {c : Int} (h_c : -2147483648 ≤ c ∧ c ≤ 2147483647) : SPg yX3_isDigit cX3_isDigit 1 (some .boolean) 1 [iI c] mi mr (Pp mi mr (fun r => (r = 1 ∧ 48 ≤ c ∧ c ≤ 57) ∨ (r = 0 ∧ (c < 48 ∨ 57 < c)))) := by
  refine SPg.boolp rfl (by decide +kernel) (Nat.le_of_ble_eq_true rfl) (fun r h => by omega) ?_
  show AWm RX3 cX3_isDigit 1 1 _ 0 [(0, iI c)] [] mi mr
  refine aw_iload_n (i := 0) (q := 0) dX3_isDigit_0 rfl rfl ?_
  refine aw_bipush (x := 48) dX3_isDigit_1 rfl ?_
  refine aw_icmp_lt (tgt := 16) dX3_isDigit_3 (by decide) (by first | assumption | omega) (by decide) (fun c3 => ?_) (fun c3 => ?_)
  · refine aw_iconst dX3_isDigit_16 ?_
    exact aw_iret ⟨_, rfl, rfl, rfl, rfl, (by omega)⟩ (Nat.le_refl _) (Nat.le_refl _) dX3_isDigit_17
  · refine aw_iload_n (i := 0) (q := 0) dX3_isDigit_6 rfl rfl ?_
    refine aw_bipush (x := 57) dX3_isDigit_7 rfl ?_
    refine aw_icmp_gt (tgt := 16) dX3_isDigit_9 (by decide) (by first | assumption | omega) (by decide) (fun c9 => ?_) (fun c9 => ?_)
    · refine aw_iconst dX3_isDigit_16 ?_
      exact aw_iret ⟨_, rfl, rfl, rfl, rfl, (by omega)⟩ (Nat.le_refl _) (Nat.le_refl _) dX3_isDigit_17
    · refine aw_iconst dX3_isDigit_12 ?_
      refine aw_goto (tgt := 17) dX3_isDigit_13 (by decide) ?_
      exact aw_iret ⟨_, rfl, rfl, rfl, rfl, (by omega)⟩ (Nat.le_refl _) (Nat.le_refl _) dX3_isDigit_17
theorem s_X3_fail {mr : aR} (hR : Rok mr) {mi : aM} {c t : Int} (h_c : -2147483648 ≤ c ∧ c ≤ 2147483647) (h_t : -2147483648 ≤ t ∧ t ≤ 2147483647) : SPg yX3_fail cX3_fail 3 none 1 [.ref 18, iI c, iI t] mi mr (Pv mr (fun m => m = aup (aup mi 18 4 c) 18 5 t)) := by
  refine SPg.void rfl (by decide +kernel) (Nat.le_of_ble_eq_true rfl) ?_
  show AWm RX3 cX3_fail 3 1 _ 0 [(0, .ref 18), (1, iI c), (2, iI t)] [] mi mr
  refine aw_aload_n (i := 0) (q := 0) dX3_fail_0 rfl rfl ?_
  refine aw_iload_n (i := 1) (q := 1) dX3_fail_1 rfl rfl ?_
  refine aw_putIk 4 flX3_25 SH_18 (by decide) rfl rfl rfl (by first | assumption | omega) dX3_fail_2 ?_
  refine aw_aload_n (i := 0) (q := 0) dX3_fail_5 rfl rfl ?_
  refine aw_iload_n (i := 2) (q := 2) dX3_fail_6 rfl rfl ?_
  refine aw_putIk 5 flX3_28 SH_18 (by decide) rfl rfl rfl (by first | assumption | omega) dX3_fail_7 ?_
  exact aw_vret ⟨rfl, rfl, rfl, rfl⟩ (Nat.le_refl _) (Nat.le_refl _) dX3_fail_10
theorem l_num {mr : aR} (hR : Rok mr) {mi : aM} {p : Int} (hE : 0 ≤ mi 18 6 ∧ mi 18 6 ≤ 300) (hd : 48 ≤ sgC mi p ∧ sgC mi p ≤ 57) : ∀ (n : Nat) (m : aM) (g z : Int), (∀ (x : Nat) (j : Int), (x ≠ 18 ∨ j ≠ 7) → m x j = mi x j) → m 18 7 = z → ((z = p ∧ g = 0) ∨ (z = p + 1 ∧ g = sgC mi p - 48) ∨ (z = p + 2 ∧ g = 10 * (sgC mi p - 48) + (sgC mi (p + 1) - 48) ∧ 48 ≤ sgC mi (p + 1) ∧ sgC mi (p + 1) ≤ 57)) → (p ≤ z ∧ z ≤ p + 2) → p + 2 - z < n → AWm RX3 cX3_readNumber 3 2 (Pi mr (fun r m => nuO mi m p r)) 7 [(0, .ref 18), (1, iI p), (2, iI g)] [] m mr := by
  intro n
  induction n with
  | zero => intro m g z hm h7 hI h2 h3; omega
  | succ n ih =>
    intro m g z hm h7 hI h2 h3
    have hfr := frR_7 hm
    have hpl := sgC_lt (m := mi) (p := p) (by omega)
    refine aw_aload_n (i := 0) (q := 0) dX3_readNumber_7 rfl rfl ?_
    refine aw_getIk (x := z) 7 flX3_34 SH_18 (by decide) rfl rfl h7 dX3_readNumber_8 (fun r8 => ?_)
    refine aw_iload_n (i := 1) (q := 1) dX3_readNumber_11 rfl rfl ?_
    refine aw_iconst dX3_readNumber_12 ?_
    refine aw_iadd dX3_readNumber_13 ?_
    refine aw_icmp_ge (tgt := 61) dX3_readNumber_14 (by decide) (by first | assumption | omega) (by first | assumption | omega) (fun c14 => ?_) (fun c14 => ?_)
    · have hN : g = nuV (sgC mi) p ∧ z = nuP (sgC mi) p := by
        unfold nuV nuP
        rcases hI with ⟨q1, q2⟩ | ⟨q1, q2⟩ | ⟨q1, q2, q3⟩
        · exfalso; first | omega | (rw [q1] at hv22; omega)
        · first | omega | (rw [q1] at hv22; rw [if_neg (by omega), if_neg (by omega)]; exact ⟨q2, q1⟩)
        · rw [if_pos q3, if_pos q3]; exact ⟨q2, q1⟩
      have hgr := nuV_rng (s := sgC mi) (p := p) hd
      rw [← hN.1] at hgr
      refine aw_iload_n (i := 2) (q := 2) dX3_readNumber_61 rfl rfl ?_
      refine aw_iconst dX3_readNumber_62 ?_
      refine aw_icmp_lt (tgt := 72) dX3_readNumber_63 (by decide) (by first | assumption | omega) (by decide) (fun c63 => ?_) (fun c63 => ?_)
      · refine aw_aload_n (i := 0) (q := 0) dX3_readNumber_72 rfl rfl ?_
        refine aw_iconst dX3_readNumber_73 ?_
        refine aw_iload_n (i := 1) (q := 1) dX3_readNumber_74 rfl rfl ?_
        refine aw_cVv (As := [iI 2, iI p]) (st := []) clX3_55 (s_X3_fail hR (by decide) (by omega)) SH_18 rfl (by decide) rfl rfl (Nat.le_of_ble_eq_true rfl) (by decide) (by decide) (Nat.le_refl _) (Nat.le_refl _) dX3_readNumber_75 (fun m9 hm9 => ?_)
        subst hm9
        refine aw_iload_n (i := 2) (q := 2) dX3_readNumber_78 rfl rfl ?_
        exact aw_iret ⟨_, rfl, rfl, rfl, ⟨hN.1, by rw [aup_k (by decide), aup_k (by decide), h7]; exact hN.2, fun x j a => by (have e1 : aup (aup m 18 4 2) 18 5 p x j = m x j := by rcases a with a | a; (rw [aup_a a, aup_a a]); (rw [aup_k a.2.1, aup_k a.1])); rw [e1]; exact hm x j (by omega), Or.inr ⟨by omega, by rw [aup_k (by decide), aup_eq], aup_eq _ _ _ _⟩⟩⟩ (Nat.le_refl _) (Nat.le_refl _) dX3_readNumber_79
      · refine aw_iload_n (i := 2) (q := 2) dX3_readNumber_66 rfl rfl ?_
        refine aw_bipush (x := 20) dX3_readNumber_67 rfl ?_
        refine aw_icmp_le (tgt := 78) dX3_readNumber_69 (by decide) (by first | assumption | omega) (by decide) (fun c69 => ?_) (fun c69 => ?_)
        · refine aw_iload_n (i := 2) (q := 2) dX3_readNumber_78 rfl rfl ?_
          exact aw_iret ⟨_, rfl, rfl, rfl, ⟨hN.1, by rw [h7]; exact hN.2, fun x j a => hm x j (by omega), Or.inl ⟨by omega, by omega, hm _ _ (by omega), hm _ _ (by omega)⟩⟩⟩ (Nat.le_refl _) (Nat.le_refl _) dX3_readNumber_79
        · refine aw_aload_n (i := 0) (q := 0) dX3_readNumber_72 rfl rfl ?_
          refine aw_iconst dX3_readNumber_73 ?_
          refine aw_iload_n (i := 1) (q := 1) dX3_readNumber_74 rfl rfl ?_
          refine aw_cVv (As := [iI 2, iI p]) (st := []) clX3_55 (s_X3_fail hR (by decide) (by omega)) SH_18 rfl (by decide) rfl rfl (Nat.le_of_ble_eq_true rfl) (by decide) (by decide) (Nat.le_refl _) (Nat.le_refl _) dX3_readNumber_75 (fun m9 hm9 => ?_)
          subst hm9
          refine aw_iload_n (i := 2) (q := 2) dX3_readNumber_78 rfl rfl ?_
          exact aw_iret ⟨_, rfl, rfl, rfl, ⟨hN.1, by rw [aup_k (by decide), aup_k (by decide), h7]; exact hN.2, fun x j a => by (have e1 : aup (aup m 18 4 2) 18 5 p x j = m x j := by rcases a with a | a; (rw [aup_a a, aup_a a]); (rw [aup_k a.2.1, aup_k a.1])); rw [e1]; exact hm x j (by omega), Or.inr ⟨by omega, by rw [aup_k (by decide), aup_eq], aup_eq _ _ _ _⟩⟩⟩ (Nat.le_refl _) (Nat.le_refl _) dX3_readNumber_79
    · refine aw_aload_n (i := 0) (q := 0) dX3_readNumber_17 rfl rfl ?_
      refine aw_aload_n (i := 0) (q := 0) dX3_readNumber_18 rfl rfl ?_
      refine aw_getIk (x := z) 7 flX3_34 SH_18 (by decide) rfl rfl h7 dX3_readNumber_19 (fun r19 => ?_)
      refine aw_cVp (As := [iI z]) (st := []) clX3_59 (s_X3_signAt hR (by rw [hfr.2.2]; exact hE) (by omega)) SH_18 rfl (by decide) rfl rfl (Nat.le_of_ble_eq_true rfl) (by decide) (by decide) (Nat.le_refl _) (Nat.le_refl _) dX3_readNumber_22 (fun v22 hv22 => ?_)
      obtain ⟨hv22, hv22a, hv22b⟩ := hv22
      rw [sgC_fr hfr] at hv22
      refine aw_cSp (As := [iI v22]) (st := []) clX3_76 (s_X3_isDigit hR (by omega)) rfl rfl (Nat.le_of_ble_eq_true rfl) (by decide) (by decide) (Nat.le_refl _) (Nat.le_refl _) dX3_readNumber_25 (fun v25 hv25 => ?_)
      refine aw_if_eq (tgt := 61) dX3_readNumber_28 (by decide) (by first | assumption | omega) (fun c28 => ?_) (fun c28 => ?_)
      · have hN : g = nuV (sgC mi) p ∧ z = nuP (sgC mi) p := by
          unfold nuV nuP
          rcases hI with ⟨q1, q2⟩ | ⟨q1, q2⟩ | ⟨q1, q2, q3⟩
          · exfalso; first | omega | (rw [q1] at hv22; omega)
          · first | omega | (rw [q1] at hv22; rw [if_neg (by omega), if_neg (by omega)]; exact ⟨q2, q1⟩)
          · rw [if_pos q3, if_pos q3]; exact ⟨q2, q1⟩
        have hgr := nuV_rng (s := sgC mi) (p := p) hd
        rw [← hN.1] at hgr
        refine aw_iload_n (i := 2) (q := 2) dX3_readNumber_61 rfl rfl ?_
        refine aw_iconst dX3_readNumber_62 ?_
        refine aw_icmp_lt (tgt := 72) dX3_readNumber_63 (by decide) (by first | assumption | omega) (by decide) (fun c63 => ?_) (fun c63 => ?_)
        · refine aw_aload_n (i := 0) (q := 0) dX3_readNumber_72 rfl rfl ?_
          refine aw_iconst dX3_readNumber_73 ?_
          refine aw_iload_n (i := 1) (q := 1) dX3_readNumber_74 rfl rfl ?_
          refine aw_cVv (As := [iI 2, iI p]) (st := []) clX3_55 (s_X3_fail hR (by decide) (by omega)) SH_18 rfl (by decide) rfl rfl (Nat.le_of_ble_eq_true rfl) (by decide) (by decide) (Nat.le_refl _) (Nat.le_refl _) dX3_readNumber_75 (fun m9 hm9 => ?_)
          subst hm9
          refine aw_iload_n (i := 2) (q := 2) dX3_readNumber_78 rfl rfl ?_
          exact aw_iret ⟨_, rfl, rfl, rfl, ⟨hN.1, by rw [aup_k (by decide), aup_k (by decide), h7]; exact hN.2, fun x j a => by (have e1 : aup (aup m 18 4 2) 18 5 p x j = m x j := by rcases a with a | a; (rw [aup_a a, aup_a a]); (rw [aup_k a.2.1, aup_k a.1])); rw [e1]; exact hm x j (by omega), Or.inr ⟨by omega, by rw [aup_k (by decide), aup_eq], aup_eq _ _ _ _⟩⟩⟩ (Nat.le_refl _) (Nat.le_refl _) dX3_readNumber_79
        · refine aw_iload_n (i := 2) (q := 2) dX3_readNumber_66 rfl rfl ?_
          refine aw_bipush (x := 20) dX3_readNumber_67 rfl ?_
          refine aw_icmp_le (tgt := 78) dX3_readNumber_69 (by decide) (by first | assumption | omega) (by decide) (fun c69 => ?_) (fun c69 => ?_)
          · refine aw_iload_n (i := 2) (q := 2) dX3_readNumber_78 rfl rfl ?_
            exact aw_iret ⟨_, rfl, rfl, rfl, ⟨hN.1, by rw [h7]; exact hN.2, fun x j a => hm x j (by omega), Or.inl ⟨by omega, by omega, hm _ _ (by omega), hm _ _ (by omega)⟩⟩⟩ (Nat.le_refl _) (Nat.le_refl _) dX3_readNumber_79
          · refine aw_aload_n (i := 0) (q := 0) dX3_readNumber_72 rfl rfl ?_
            refine aw_iconst dX3_readNumber_73 ?_
            refine aw_iload_n (i := 1) (q := 1) dX3_readNumber_74 rfl rfl ?_
            refine aw_cVv (As := [iI 2, iI p]) (st := []) clX3_55 (s_X3_fail hR (by decide) (by omega)) SH_18 rfl (by decide) rfl rfl (Nat.le_of_ble_eq_true rfl) (by decide) (by decide) (Nat.le_refl _) (Nat.le_refl _) dX3_readNumber_75 (fun m9 hm9 => ?_)
            subst hm9
            refine aw_iload_n (i := 2) (q := 2) dX3_readNumber_78 rfl rfl ?_
            exact aw_iret ⟨_, rfl, rfl, rfl, ⟨hN.1, by rw [aup_k (by decide), aup_k (by decide), h7]; exact hN.2, fun x j a => by (have e1 : aup (aup m 18 4 2) 18 5 p x j = m x j := by rcases a with a | a; (rw [aup_a a, aup_a a]); (rw [aup_k a.2.1, aup_k a.1])); rw [e1]; exact hm x j (by omega), Or.inr ⟨by omega, by rw [aup_k (by decide), aup_eq], aup_eq _ _ _ _⟩⟩⟩ (Nat.le_refl _) (Nat.le_refl _) dX3_readNumber_79
      · refine aw_iload_n (i := 2) (q := 2) dX3_readNumber_31 rfl rfl ?_
        refine aw_bipush (x := 10) dX3_readNumber_32 rfl ?_
        refine aw_imul dX3_readNumber_34 ?_
        refine aw_aload_n (i := 0) (q := 0) dX3_readNumber_35 rfl rfl ?_
        refine aw_aload_n (i := 0) (q := 0) dX3_readNumber_36 rfl rfl ?_
        refine aw_getIk (x := z) 7 flX3_34 SH_18 (by decide) rfl rfl h7 dX3_readNumber_37 (fun r37 => ?_)
        refine aw_cVp (As := [iI z]) (st := [iI (g * 10)]) clX3_59 (s_X3_signAt hR (by rw [hfr.2.2]; exact hE) (by omega)) SH_18 rfl (by decide) rfl rfl (Nat.le_of_ble_eq_true rfl) (by decide) (by decide) (Nat.le_refl _) (Nat.le_refl _) dX3_readNumber_40 (fun v40 hv40 => ?_)
        obtain ⟨hv40, hv40a, hv40b⟩ := hv40
        rw [sgC_fr hfr] at hv40
        refine aw_iadd dX3_readNumber_43 ?_
        refine aw_bipush (x := 48) dX3_readNumber_44 rfl ?_
        refine aw_isub dX3_readNumber_46 ?_
        refine aw_istore_n (i := 2) (lv' := [(0, .ref 18), (1, iI p), (2, iI (((g * 10) + v40) - 48))]) [1, 2, 0] dX3_readNumber_47 rfl (by decide) rfl ?_
        refine aw_aload_n (i := 0) (q := 0) dX3_readNumber_48 rfl rfl ?_
        refine aw_dup dX3_readNumber_49 rfl ?_
        refine aw_getIk (x := z) 7 flX3_34 SH_18 (by decide) rfl rfl h7 dX3_readNumber_50 (fun r50 => ?_)
        refine aw_iconst dX3_readNumber_53 ?_
        refine aw_iadd dX3_readNumber_54 ?_
        refine aw_putIk 7 flX3_34 SH_18 (by decide) rfl rfl rfl (by first | assumption | omega) dX3_readNumber_55 ?_
        refine aw_goto (tgt := 7) dX3_readNumber_58 (by decide) ?_
        exact ih _ _ (z + 1) (fun x j a => by (have e1 : aup m 18 7 (z + 1) x j = m x j := by rcases a with a | a; (exact aup_a a); (exact aup_k a)); rw [e1]; exact hm x j a) (aup_eq _ _ _ _) (by rcases hI with ⟨q1, q2⟩ | ⟨q1, q2⟩ | ⟨q1, q2, q3⟩; (refine Or.inr (Or.inl ⟨by omega, ?_⟩); rw [hv40, q1, q2]; omega); (refine Or.inr (Or.inr ⟨by omega, ?_, ?_⟩); (rw [hv40, q1, q2]; omega); (rw [← q1, ← hv22]; omega)); (omega)) (by omega) (by omega)
theorem s_X3_readNumber {mr : aR} (hR : Rok mr) {mi : aM} {p : Int} (hE : 0 ≤ mi 18 6 ∧ mi 18 6 ≤ 300) (hd : 48 ≤ sgC mi p ∧ sgC mi p ≤ 57) (hp : mi 18 7 = p) : SPg yX3_readNumber cX3_readNumber 3 (some .int) 2 [.ref 18] mi mr (Pi mr (fun r m => nuO mi m p r)) := by
  refine SPg.int rfl (by decide +kernel) (Nat.le_of_ble_eq_true rfl) ?_
  show AWm RX3 cX3_readNumber 3 2 _ 0 [(0, .ref 18)] [] mi mr
  refine aw_aload_n (i := 0) (q := 0) dX3_readNumber_0 rfl rfl ?_
  refine aw_getIk (x := p) 7 flX3_34 SH_18 (by decide) rfl rfl hp dX3_readNumber_1 (fun r1 => ?_)
  refine aw_istore_n (i := 1) (lv' := [(0, .ref 18), (1, iI p)]) [1, 0] dX3_readNumber_4 rfl (by decide) rfl ?_
  refine aw_iconst dX3_readNumber_5 ?_
  refine aw_istore_n (i := 2) (lv' := [(0, .ref 18), (1, iI p), (2, iI 0)]) [1, 2, 0] dX3_readNumber_6 rfl (by decide) rfl ?_
  exact l_num hR hE hd 3 mi 0 p (fun _ _ _ => rfl) hp (Or.inl ⟨rfl, rfl⟩) (by omega) (by omega)
theorem l_push {mr : aR} (hR : Rok mr) {mi : aM} {p0 : Int} {o : List Int} {k : rSt} (hE : 0 ≤ mi 18 6 ∧ mi 18 6 ≤ 300) (hw : wfQ (mi 18 6) (p0, o, k)) (hq : RQc mi (p0, o, k)) (h4 : mi 18 4 = 0) (hs : sgC mi p0 = 45 ∨ (97 ≤ sgC mi p0 ∧ sgC mi p0 ≤ 108)) {N : Int} (hN : N = itN (sgC mi) (itP (sgC mi) p0)) (hno : ¬ ((48 ≤ sgC mi (itP (sgC mi) p0) ∧ sgC mi (itP (sgC mi) p0) ≤ 57) ∧ (nuV (sgC mi) (itP (sgC mi) p0) < 1 ∨ 20 < nuV (sgC mi) (itP (sgC mi) p0)))) (hl : (o.length : Int) + N ≤ 100) (hNr : 1 ≤ N ∧ N ≤ 20) : ∀ (n : Nat) (m : aM) (z : Int), (frR mi m ∧ RQc m (itE (sgC mi) (itP (sgC mi) p0), o ++ spr (itS (sgC mi) p0) z.toNat, k) ∧ m 18 4 = 0 ∧ m 18 5 = mi 18 5) → (0 ≤ z ∧ z ≤ N) → N - z < n → AWm RX3 cX3_readStep 5 3 (Pv mr (fun m => stR mi (p0, o, k) m)) 137 [(0, .ref 18), (1, iI p0), (2, iI ((itS (sgC mi) p0))), (3, iI N), (4, iI z)] [] m mr := by
  intro n
  induction n with
  | zero => intro m z hI h2 h3; omega
  | succ n ih =>
    intro m z hI h2 h3
    have h9 := hI.2.1.2.1
    rw [show ((itE (sgC mi) (itP (sgC mi) p0), o ++ spr (itS (sgC mi) p0) z.toNat, k) : rQ).2.1 = o ++ spr (itS (sgC mi) p0) z.toNat from rfl, List.length_append, spr_len] at h9
    have hSr := itS_rng (s := sgC mi) (p := p0)
    refine aw_iload (i := 4) (q := 4) dX3_readStep_137 rfl ?_
    refine aw_iload_n (i := 3) (q := 3) dX3_readStep_139 rfl rfl ?_
    refine aw_icmp_ge (tgt := 185) dX3_readStep_140 (by decide) (by first | assumption | omega) (by first | assumption | omega) (fun c140 => ?_) (fun c140 => ?_)
    · exact aw_vret ⟨rfl, rfl, rfl, ⟨hI.1, 0, -1, _, rs_it hs hno (by rw [← hN]; omega), Or.inl ⟨rfl, rfl, by rw [← hN, show N.toNat = z.toNat by omega]; exact hI.2.1, hI.2.2.1, hI.2.2.2⟩⟩⟩ (Nat.le_refl _) (Nat.le_refl _) dX3_readStep_185
    · refine aw_aload_n (i := 0) (q := 0) dX3_readStep_143 rfl rfl ?_
      refine aw_getIk (x := 0) 4 flX3_25 SH_18 (by decide) rfl rfl hI.2.2.1 dX3_readStep_144 (fun r144 => ?_)
      refine aw_if_ne (tgt := 185) dX3_readStep_147 (by decide) (by decide) (fun c147 => ?_) (fun c147 => ?_)
      · exact absurd c147 (by decide)
      · refine aw_aload_n (i := 0) (q := 0) dX3_readStep_150 rfl rfl ?_
        refine aw_getR (r := 20) flX3_19 SH_18 (by decide) rfl (rk_18_2 hR) dX3_readStep_151 ?_
        refine aw_aload_n (i := 0) (q := 0) dX3_readStep_154 rfl rfl ?_
        refine aw_getIk (x := m 18 3) 3 flX3_22 SH_18 (by decide) rfl rfl rfl dX3_readStep_155 (fun r155 => ?_)
        refine aw_iload (i := 4) (q := 4) dX3_readStep_158 rfl ?_
        refine aw_if_ne (tgt := 167) dX3_readStep_160 (by decide) (by first | assumption | omega) (fun c160 => ?_) (fun c160 => ?_)
        · refine aw_iconst dX3_readStep_167 ?_
          refine aw_iast SH_20 (by decide) ⟨by omega, by omega⟩ (by decide) dX3_readStep_168 ?_
          refine aw_aload_n (i := 0) (q := 0) dX3_readStep_169 rfl rfl ?_
          refine aw_dup dX3_readStep_170 rfl ?_
          refine aw_getIk (x := m 18 3) 3 flX3_22 SH_18 (by decide) rfl rfl (by (rw [aup_a (by decide)]) <;> rfl) dX3_readStep_171 (fun r171 => ?_)
          refine aw_iconst dX3_readStep_174 ?_
          refine aw_iadd dX3_readStep_175 ?_
          refine aw_putIk 3 flX3_22 SH_18 (by decide) rfl rfl rfl (by first | assumption | omega) dX3_readStep_176 ?_
          refine aw_iinc (i := 4) (q := 4) (x := z) (lv' := [(0, .ref 18), (1, iI p0), (2, iI ((itS (sgC mi) p0))), (3, iI N), (4, iI (z + 1))]) [1, 2, 3, 4, 0] dX3_readStep_179 rfl (by decide) rfl ?_
          refine aw_goto (tgt := 137) dX3_readStep_182 (by decide) ?_
          exact ih _ (z + 1) ⟨frR_k (by decide) (by decide) (frR_a (by decide) hI.1), by rw [show (z + 1).toNat = z.toNat + 1 by omega, spr_snoc, ← List.append_assoc, if_neg (by omega)]; exact RQ_push hI.2.1, by rw [aup_k (by decide), aup_a (by decide)]; exact hI.2.2.1, by rw [aup_k (by decide), aup_a (by decide)]; exact hI.2.2.2⟩ (by omega) (by omega)
        · refine aw_iload_n (i := 2) (q := 2) dX3_readStep_163 rfl rfl ?_
          refine aw_goto (tgt := 168) dX3_readStep_164 (by decide) ?_
          refine aw_iast SH_20 (by decide) ⟨by omega, by omega⟩ (by first | assumption | omega) dX3_readStep_168 ?_
          refine aw_aload_n (i := 0) (q := 0) dX3_readStep_169 rfl rfl ?_
          refine aw_dup dX3_readStep_170 rfl ?_
          refine aw_getIk (x := m 18 3) 3 flX3_22 SH_18 (by decide) rfl rfl (by (rw [aup_a (by decide)]) <;> rfl) dX3_readStep_171 (fun r171 => ?_)
          refine aw_iconst dX3_readStep_174 ?_
          refine aw_iadd dX3_readStep_175 ?_
          refine aw_putIk 3 flX3_22 SH_18 (by decide) rfl rfl rfl (by first | assumption | omega) dX3_readStep_176 ?_
          refine aw_iinc (i := 4) (q := 4) (x := z) (lv' := [(0, .ref 18), (1, iI p0), (2, iI ((itS (sgC mi) p0))), (3, iI N), (4, iI (z + 1))]) [1, 2, 3, 4, 0] dX3_readStep_179 rfl (by decide) rfl ?_
          refine aw_goto (tgt := 137) dX3_readStep_182 (by decide) ?_
          exact ih _ (z + 1) ⟨frR_k (by decide) (by decide) (frR_a (by decide) hI.1), by rw [show (z + 1).toNat = z.toNat + 1 by omega, spr_snoc, ← List.append_assoc, if_pos (by omega)]; exact RQ_push hI.2.1, by rw [aup_k (by decide), aup_a (by decide)]; exact hI.2.2.1, by rw [aup_k (by decide), aup_a (by decide)]; exact hI.2.2.2⟩ (by omega) (by omega)
theorem l_rs3 {mr : aR} (hR : Rok mr) {mi : aM} {p0 : Int} {o : List Int} {k : rSt} (hE : 0 ≤ mi 18 6 ∧ mi 18 6 ≤ 300) (hw : wfQ (mi 18 6) (p0, o, k)) (hq : RQc mi (p0, o, k)) (h4 : mi 18 4 = 0) (hs : sgC mi p0 = 45 ∨ (97 ≤ sgC mi p0 ∧ sgC mi p0 ≤ 108)) {N : Int} (hN : N = itN (sgC mi) (itP (sgC mi) p0)) (hno : ¬ ((48 ≤ sgC mi (itP (sgC mi) p0) ∧ sgC mi (itP (sgC mi) p0) ≤ 57) ∧ (nuV (sgC mi) (itP (sgC mi) p0) < 1 ∨ 20 < nuV (sgC mi) (itP (sgC mi) p0)))) (hNr : 1 ≤ N ∧ N ≤ 20) {m : aM} (hm : ∀ (x : Nat) (j : Int), (x ≠ 18 ∨ j ≠ 7) → m x j = mi x j) (h7 : m 18 7 = itE (sgC mi) (itP (sgC mi) p0)) : AWm RX3 cX3_readStep 5 3 (Pv mr (fun m => stR mi (p0, o, k) m)) 109 [(0, .ref 18), (1, iI p0), (2, iI (itS (sgC mi) p0))] [iI N] m mr := by
  have hfr := frR_7 hm
  have hm4 : m 18 4 = 0 := (hm _ _ (Or.inr (by decide))).trans h4
  have hl3 : m 18 3 = (o.length : Int) := (hm _ _ (Or.inr (by decide))).trans hq.2.1
  have ho := hw.2.2.1
  have ho : o.length ≤ 100 := ho
  have hpl := sgC_lt (m := mi) (p := p0) (by omega)
  refine aw_istore_n (i := 3) (lv' := [(0, .ref 18), (1, iI p0), (2, iI ((itS (sgC mi) p0))), (3, iI N)]) [1, 2, 3, 0] dX3_readStep_109 rfl (by decide) rfl ?_
  refine aw_aload_n (i := 0) (q := 0) dX3_readStep_110 rfl rfl ?_
  refine aw_getIk (x := 0) 4 flX3_25 SH_18 (by decide) rfl rfl hm4 dX3_readStep_111 (fun r111 => ?_)
  refine aw_if_ne (tgt := 134) dX3_readStep_114 (by decide) (by decide) (fun c114 => ?_) (fun c114 => ?_)
  · exact absurd c114 (by decide)
  · refine aw_aload_n (i := 0) (q := 0) dX3_readStep_117 rfl rfl ?_
    refine aw_getIk (x := m 18 3) 3 flX3_22 SH_18 (by decide) rfl rfl rfl dX3_readStep_118 (fun r118 => ?_)
    refine aw_iload_n (i := 3) (q := 3) dX3_readStep_121 rfl rfl ?_
    refine aw_iadd dX3_readStep_122 ?_
    refine aw_bipush (x := 100) dX3_readStep_123 rfl ?_
    refine aw_icmp_le (tgt := 134) dX3_readStep_125 (by decide) (by first | assumption | omega) (by decide) (fun c125 => ?_) (fun c125 => ?_)
    · refine aw_iconst dX3_readStep_134 ?_
      refine aw_istore (i := 4) (lv' := [(0, .ref 18), (1, iI p0), (2, iI ((itS (sgC mi) p0))), (3, iI N), (4, iI 0)]) [1, 2, 3, 4, 0] dX3_readStep_135 (by decide) rfl ?_
      exact l_push hR hE hw hq h4 hs hN hno (by omega) hNr (N.toNat + 1) m 0 ⟨hfr, ⟨h7, by rw [show spr (itS (sgC mi) p0) (0 : Int).toNat = [] from rfl, List.append_nil]; exact (hm _ _ (Or.inr (by decide))).trans hq.2.1, by rw [show spr (itS (sgC mi) p0) (0 : Int).toNat = [] from rfl, List.append_nil]; exact AR_congr hq.2.2.1 (fun j => hm _ _ (Or.inl (by decide))), (hm _ _ (Or.inr (by decide))).trans hq.2.2.2.1, SV_congr k (fun j _ => ⟨hm _ _ (Or.inl (by decide)), hm _ _ (Or.inl (by decide))⟩) hq.2.2.2.2⟩, hm4, hm _ _ (Or.inr (by decide))⟩ (by omega) (by omega)
    · refine aw_aload_n (i := 0) (q := 0) dX3_readStep_128 rfl rfl ?_
      refine aw_iconst dX3_readStep_129 ?_
      refine aw_iload_n (i := 1) (q := 1) dX3_readStep_130 rfl rfl ?_
      refine aw_cVv (As := [iI 4, iI p0]) (st := []) clX3_55 (s_X3_fail hR (by decide) (by omega)) SH_18 rfl (by decide) rfl rfl (Nat.le_of_ble_eq_true rfl) (by decide) (by decide) (Nat.le_refl _) (Nat.le_refl _) dX3_readStep_131 (fun m9 hm9 => ?_)
      subst hm9
      refine aw_iconst dX3_readStep_134 ?_
      refine aw_istore (i := 4) (lv' := [(0, .ref 18), (1, iI p0), (2, iI ((itS (sgC mi) p0))), (3, iI N), (4, iI 0)]) [1, 2, 3, 4, 0] dX3_readStep_135 (by decide) rfl ?_
      refine aw_iload (i := 4) (q := 4) dX3_readStep_137 rfl ?_
      refine aw_iload_n (i := 3) (q := 3) dX3_readStep_139 rfl rfl ?_
      refine aw_icmp_ge (tgt := 185) dX3_readStep_140 (by decide) (by decide) (by first | assumption | omega) (fun c140 => ?_) (fun c140 => ?_)
      · exact aw_vret ⟨rfl, rfl, rfl, ⟨frR_k (by decide) (by decide) (frR_k (by decide) (by decide) hfr), 4, p0, _, rs_it4 hs hno (by rw [← hN]; omega), Or.inr ⟨by decide, by rw [aup_k (by decide), aup_eq], aup_eq _ _ _ _⟩⟩⟩ (Nat.le_refl _) (Nat.le_refl _) dX3_readStep_185
      · refine aw_aload_n (i := 0) (q := 0) dX3_readStep_143 rfl rfl ?_
        refine aw_getIk (x := 4) 4 flX3_25 SH_18 (by decide) rfl rfl (by (rw [aup_k (by decide), aup_eq]) <;> rfl) dX3_readStep_144 (fun r144 => ?_)
        refine aw_if_ne (tgt := 185) dX3_readStep_147 (by decide) (by decide) (fun c147 => ?_) (fun c147 => ?_)
        · exact aw_vret ⟨rfl, rfl, rfl, ⟨frR_k (by decide) (by decide) (frR_k (by decide) (by decide) hfr), 4, p0, _, rs_it4 hs hno (by rw [← hN]; omega), Or.inr ⟨by decide, by rw [aup_k (by decide), aup_eq], aup_eq _ _ _ _⟩⟩⟩ (Nat.le_refl _) (Nat.le_refl _) dX3_readStep_185
        · exact absurd c147 (by decide)
theorem l_rs2 {mr : aR} (hR : Rok mr) {mi : aM} {p0 : Int} {o : List Int} {k : rSt} (hE : 0 ≤ mi 18 6 ∧ mi 18 6 ≤ 300) (hw : wfQ (mi 18 6) (p0, o, k)) (hq : RQc mi (p0, o, k)) (h4 : mi 18 4 = 0) (hs : sgC mi p0 = 45 ∨ (97 ≤ sgC mi p0 ∧ sgC mi p0 ≤ 108)) {m : aM} (hm : ∀ (x : Nat) (j : Int), (x ≠ 18 ∨ j ≠ 7) → m x j = mi x j) {P : Int} (hP : P = itP (sgC mi) p0) (h7 : m 18 7 = P) : AWm RX3 cX3_readStep 5 3 (Pv mr (fun m => stR mi (p0, o, k) m)) 87 [(0, .ref 18), (1, iI p0), (2, iI (itS (sgC mi) p0))] [] m mr := by
  have hfr := frR_7 hm
  have hpl := sgC_lt (m := mi) (p := p0) (by omega)
  have hit := itP_rng (X := fun j => mi 19 j) (E := mi 18 6) (p := p0) hE.2 hs
  have hPr : p0 < P ∧ P ≤ mi 18 6 := by rw [hP]; exact ⟨hit.1, hit.2.1⟩
  refine aw_aload_n (i := 0) (q := 0) dX3_readStep_87 rfl rfl ?_
  refine aw_aload_n (i := 0) (q := 0) dX3_readStep_88 rfl rfl ?_
  refine aw_getIk (x := P) 7 flX3_34 SH_18 (by decide) rfl rfl h7 dX3_readStep_89 (fun r89 => ?_)
  refine aw_cVp (As := [iI P]) (st := []) clX3_59 (s_X3_signAt hR (by rw [hfr.2.2]; exact hE) (by omega)) SH_18 rfl (by decide) rfl rfl (Nat.le_of_ble_eq_true rfl) (by decide) (by decide) (Nat.le_refl _) (Nat.le_refl _) dX3_readStep_92 (fun v92 hv92 => ?_)
  obtain ⟨hv92, hv92a, hv92b⟩ := hv92
  rw [sgC_fr hfr] at hv92
  refine aw_cSp (As := [iI v92]) (st := []) clX3_76 (s_X3_isDigit hR (by omega)) rfl rfl (Nat.le_of_ble_eq_true rfl) (by decide) (by decide) (Nat.le_refl _) (Nat.le_refl _) dX3_readStep_95 (fun v95 hv95 => ?_)
  refine aw_if_eq (tgt := 108) dX3_readStep_98 (by decide) (by first | assumption | omega) (fun c98 => ?_) (fun c98 => ?_)
  · refine aw_iconst dX3_readStep_108 ?_
    have hnd : ¬ (48 ≤ sgC mi P ∧ sgC mi P ≤ 57) := by rw [← hv92]; omega
    exact l_rs3 hR hE hw hq h4 hs (by rw [← hP]; unfold itN; rw [if_neg hnd]) (fun z => hnd (by rw [← hP] at z; exact z.1)) (by decide) hm (by rw [h7, ← hP]; unfold itE; rw [if_neg hnd])
  · refine aw_aload_n (i := 0) (q := 0) dX3_readStep_101 rfl rfl ?_
    refine aw_cVi (As := []) (st := []) clX3_79 (s_X3_readNumber (mi := m) hR (by rw [hfr.2.2]; exact hE) (by rw [sgC_fr hfr, ← hv92]; omega) h7) SH_18 rfl (by decide) rfl rfl (Nat.le_of_ble_eq_true rfl) (by decide) (by decide) (Nat.le_refl _) (Nat.le_refl _) dX3_readStep_102 (fun v102 m1 hv102 => ?_)
    unfold nuO at hv102
    rw [sgC_fr hfr] at hv102
    obtain ⟨n1, n2, n3, n4⟩ := hv102
    have hdg : 48 ≤ sgC mi P ∧ sgC mi P ≤ 57 := by rw [← hv92]; omega
    have hvr := nuV_rng (s := sgC mi) (p := P) hdg
    rw [← n1] at hvr
    refine aw_goto (tgt := 109) dX3_readStep_105 (by decide) ?_
    rcases n4 with ⟨k1, k2, k3, k5⟩ | ⟨k1, k2, k3⟩
    · exact l_rs3 hR hE hw hq h4 hs (by rw [← hP]; unfold itN; rw [if_pos hdg]; exact n1) (fun z => by rw [← hP, ← n1] at z; omega) ⟨k1, k2⟩ (fun x j a => by by_cases e4 : x = 18 ∧ (j = 4 ∨ j = 5); (obtain ⟨e5, e6⟩ := e4; subst e5; rcases e6 with rfl | rfl; (exact k3.trans (hm _ _ (Or.inr (by decide)))); (exact k5.trans (hm _ _ (Or.inr (by decide))))); (rw [n3 x j (by omega)]; exact hm x j a)) (by rw [n2, ← hP]; unfold itE; rw [if_pos hdg])
    · refine aw_istore_n (i := 3) (lv' := [(0, .ref 18), (1, iI p0), (2, iI ((itS (sgC mi) p0))), (3, iI v102)]) [1, 2, 3, 0] dX3_readStep_109 rfl (by decide) rfl ?_
      refine aw_aload_n (i := 0) (q := 0) dX3_readStep_110 rfl rfl ?_
      refine aw_getIk (x := 2) 4 flX3_25 SH_18 (by decide) rfl rfl k2 dX3_readStep_111 (fun r111 => ?_)
      refine aw_if_ne (tgt := 134) dX3_readStep_114 (by decide) (by decide) (fun c114 => ?_) (fun c114 => ?_)
      · refine aw_iconst dX3_readStep_134 ?_
        refine aw_istore (i := 4) (lv' := [(0, .ref 18), (1, iI p0), (2, iI ((itS (sgC mi) p0))), (3, iI v102), (4, iI 0)]) [1, 2, 3, 4, 0] dX3_readStep_135 (by decide) rfl ?_
        refine aw_iload (i := 4) (q := 4) dX3_readStep_137 rfl ?_
        refine aw_iload_n (i := 3) (q := 3) dX3_readStep_139 rfl rfl ?_
        refine aw_icmp_ge (tgt := 185) dX3_readStep_140 (by decide) (by decide) (by first | assumption | omega) (fun c140 => ?_) (fun c140 => ?_)
        · exact aw_vret ⟨rfl, rfl, rfl, ⟨frR_tr hfr ⟨fun x j a b c d => n3 x j (Or.inl a), n3 _ _ (by omega), n3 _ _ (by omega)⟩, 2, P, _, by rw [hP]; exact rs_it2 hs (by rw [← hP]; exact hdg) (by rw [← hP, ← n1]; exact k1), Or.inr ⟨by decide, k2, k3⟩⟩⟩ (Nat.le_refl _) (Nat.le_refl _) dX3_readStep_185
        · refine aw_aload_n (i := 0) (q := 0) dX3_readStep_143 rfl rfl ?_
          refine aw_getIk (x := 2) 4 flX3_25 SH_18 (by decide) rfl rfl k2 dX3_readStep_144 (fun r144 => ?_)
          refine aw_if_ne (tgt := 185) dX3_readStep_147 (by decide) (by decide) (fun c147 => ?_) (fun c147 => ?_)
          · exact aw_vret ⟨rfl, rfl, rfl, ⟨frR_tr hfr ⟨fun x j a b c d => n3 x j (Or.inl a), n3 _ _ (by omega), n3 _ _ (by omega)⟩, 2, P, _, by rw [hP]; exact rs_it2 hs (by rw [← hP]; exact hdg) (by rw [← hP, ← n1]; exact k1), Or.inr ⟨by decide, k2, k3⟩⟩⟩ (Nat.le_refl _) (Nat.le_refl _) dX3_readStep_185
          · exact absurd c147 (by decide)
      · exact absurd c114 (by decide)
theorem l_let {mr : aR} (hR : Rok mr) {mi : aM} {p0 : Int} {o : List Int} {k : rSt} (hE : 0 ≤ mi 18 6 ∧ mi 18 6 ≤ 300) (hw : wfQ (mi 18 6) (p0, o, k)) (hq : RQc mi (p0, o, k)) (h4 : mi 18 4 = 0) (hs : sgC mi p0 = 45 ∨ (97 ≤ sgC mi p0 ∧ sgC mi p0 ≤ 108)) : ∀ (n : Nat) (m : aM) (g z : Int) (f : Nat), (∀ (x : Nat) (j : Int), (x ≠ 18 ∨ j ≠ 7) → m x j = mi x j) → m 18 7 = z → leP (sgC mi) f z = itP (sgC mi) p0 → leS (sgC mi) f z g = itS (sgC mi) p0 → (0 ≤ g ∧ g < 4096) → (0 ≤ z ∧ z ≤ mi 18 6) → (mi 18 6 - z < f) → mi 18 6 - z < n → AWm RX3 cX3_readStep 5 3 (Pv mr (fun m => stR mi (p0, o, k) m)) 33 [(0, .ref 18), (1, iI p0), (2, iI g)] [] m mr := by
  intro n
  induction n with
  | zero => intro m g z f hm h7 hPP hSS hg h2 hf h3; omega
  | succ n ih =>
    intro m g z f hm h7 hPP hSS hg h2 hf h3
    have hfr := frR_7 hm
    have e6 : m 18 6 = mi 18 6 := hfr.2.2
    obtain ⟨f9, rfl⟩ : ∃ f9, f = f9 + 1 := ⟨f - 1, by omega⟩
    refine aw_aload_n (i := 0) (q := 0) dX3_readStep_33 rfl rfl ?_
    refine aw_getIk (x := z) 7 flX3_34 SH_18 (by decide) rfl rfl h7 dX3_readStep_34 (fun r34 => ?_)
    refine aw_aload_n (i := 0) (q := 0) dX3_readStep_37 rfl rfl ?_
    refine aw_getIk (x := m 18 6) 6 flX3_31 SH_18 (by decide) rfl rfl rfl dX3_readStep_38 (fun r38 => ?_)
    refine aw_icmp_ge (tgt := 87) dX3_readStep_41 (by decide) (by first | assumption | omega) (by first | assumption | omega) (fun c41 => ?_) (fun c41 => ?_)
    · have hnl : ¬ (97 ≤ sgC mi z ∧ sgC mi z ≤ 108) := by first | omega | (have h9 := sgC_out (m := mi) (p := z) (by omega); omega)
      rw [leP_n hnl] at hPP
      rw [leS_n hnl] at hSS
      rw [hSS]
      exact l_rs2 hR hE hw hq h4 hs hm hPP h7
    · refine aw_aload_n (i := 0) (q := 0) dX3_readStep_44 rfl rfl ?_
      refine aw_aload_n (i := 0) (q := 0) dX3_readStep_45 rfl rfl ?_
      refine aw_getIk (x := z) 7 flX3_34 SH_18 (by decide) rfl rfl h7 dX3_readStep_46 (fun r46 => ?_)
      refine aw_cVp (As := [iI z]) (st := []) clX3_59 (s_X3_signAt hR (by rw [hfr.2.2]; exact hE) (by omega)) SH_18 rfl (by decide) rfl rfl (Nat.le_of_ble_eq_true rfl) (by decide) (by decide) (Nat.le_refl _) (Nat.le_refl _) dX3_readStep_49 (fun v49 hv49 => ?_)
      obtain ⟨hv49, hv49a, hv49b⟩ := hv49
      rw [sgC_fr hfr] at hv49
      refine aw_cSp (As := [iI v49]) (st := []) clX3_69 (s_X3_isLetter hR (by omega)) rfl rfl (Nat.le_of_ble_eq_true rfl) (by decide) (by decide) (Nat.le_refl _) (Nat.le_refl _) dX3_readStep_52 (fun v52 hv52 => ?_)
      refine aw_if_eq (tgt := 87) dX3_readStep_55 (by decide) (by first | assumption | omega) (fun c55 => ?_) (fun c55 => ?_)
      · have hnl : ¬ (97 ≤ sgC mi z ∧ sgC mi z ≤ 108) := by first | omega | (have h9 := sgC_out (m := mi) (p := z) (by omega); omega)
        rw [leP_n hnl] at hPP
        rw [leS_n hnl] at hSS
        rw [hSS]
        exact l_rs2 hR hE hw hq h4 hs hm hPP h7
      · refine aw_iload_n (i := 2) (q := 2) dX3_readStep_58 rfl rfl ?_
        refine aw_iconst dX3_readStep_59 ?_
        refine aw_aload_n (i := 0) (q := 0) dX3_readStep_60 rfl rfl ?_
        refine aw_aload_n (i := 0) (q := 0) dX3_readStep_61 rfl rfl ?_
        refine aw_getIk (x := z) 7 flX3_34 SH_18 (by decide) rfl rfl h7 dX3_readStep_62 (fun r62 => ?_)
        refine aw_cVp (As := [iI z]) (st := [iI 1, iI g]) clX3_59 (s_X3_signAt hR (by rw [hfr.2.2]; exact hE) (by omega)) SH_18 rfl (by decide) rfl rfl (Nat.le_of_ble_eq_true rfl) (by decide) (by decide) (Nat.le_refl _) (Nat.le_refl _) dX3_readStep_65 (fun v65 hv65 => ?_)
        obtain ⟨hv65, hv65a, hv65b⟩ := hv65
        rw [sgC_fr hfr] at hv65
        refine aw_bipush (x := 97) dX3_readStep_68 rfl ?_
        refine aw_isub dX3_readStep_70 ?_
        have hpw := pow_rng (b := v65 - 97) (by omega)
        refine aw_ishl (z := ((2 ^ (v65 - 97).toNat : Nat) : Int)) dX3_readStep_71 (bt_shl (by omega)) ?_
        refine aw_ior (z := (((g).toNat ||| (((2 ^ (v65 - 97).toNat : Nat) : Int)).toNat : Nat) : Int)) dX3_readStep_72 (bt_or (by omega) (by omega)) ?_
        refine aw_istore_n (i := 2) (lv' := [(0, .ref 18), (1, iI p0), (2, iI ((((g).toNat ||| (((2 ^ (v65 - 97).toNat : Nat) : Int)).toNat : Nat) : Int)))]) [1, 2, 0] dX3_readStep_73 rfl (by decide) rfl ?_
        refine aw_aload_n (i := 0) (q := 0) dX3_readStep_74 rfl rfl ?_
        refine aw_dup dX3_readStep_75 rfl ?_
        refine aw_getIk (x := z) 7 flX3_34 SH_18 (by decide) rfl rfl h7 dX3_readStep_76 (fun r76 => ?_)
        refine aw_iconst dX3_readStep_79 ?_
        refine aw_iadd dX3_readStep_80 ?_
        refine aw_putIk 7 flX3_34 SH_18 (by decide) rfl rfl rfl (by first | assumption | omega) dX3_readStep_81 ?_
        refine aw_goto (tgt := 33) dX3_readStep_84 (by decide) ?_
        have hlt : 97 ≤ sgC mi z ∧ sgC mi z ≤ 108 := by omega
        rw [leP_y hlt] at hPP
        rw [leS_y hlt, ← hv65] at hSS
        exact ih _ _ (z + 1) f9 (fun x j a => by (have e1 : aup m 18 7 (z + 1) x j = m x j := by rcases a with a | a; (exact aup_a a); (exact aup_k a)); rw [e1]; exact hm x j a) (aup_eq _ _ _ _) hPP hSS (or_rng hg hpw) (by omega) (by omega) (by omega)
theorem s_X3_readStep {mr : aR} (hR : Rok mr) {mi : aM} {p0 : Int} {o : List Int} {k : rSt} (hE : 0 ≤ mi 18 6 ∧ mi 18 6 ≤ 300) (hw : wfQ (mi 18 6) (p0, o, k)) (hq : RQc mi (p0, o, k)) (h4 : mi 18 4 = 0) (hs : sgC mi p0 = 45 ∨ (97 ≤ sgC mi p0 ∧ sgC mi p0 ≤ 108)) : SPg yX3_readStep cX3_readStep 5 none 3 [.ref 18] mi mr (Pv mr (fun m => stR mi (p0, o, k) m)) := by
  refine SPg.void rfl (by decide +kernel) (Nat.le_of_ble_eq_true rfl) ?_
  show AWm RX3 cX3_readStep 5 3 _ 0 [(0, .ref 18)] [] mi mr
  have hpl := sgC_lt (m := mi) (p := p0) (by omega)
  have h7 : mi 18 7 = p0 := hq.1
  refine aw_aload_n (i := 0) (q := 0) dX3_readStep_0 rfl rfl ?_
  refine aw_getIk (x := p0) 7 flX3_34 SH_18 (by decide) rfl rfl h7 dX3_readStep_1 (fun r1 => ?_)
  refine aw_istore_n (i := 1) (lv' := [(0, .ref 18), (1, iI p0)]) [1, 0] dX3_readStep_4 rfl (by decide) rfl ?_
  refine aw_iconst dX3_readStep_5 ?_
  refine aw_istore_n (i := 2) (lv' := [(0, .ref 18), (1, iI p0), (2, iI 0)]) [1, 2, 0] dX3_readStep_6 rfl (by decide) rfl ?_
  refine aw_aload_n (i := 0) (q := 0) dX3_readStep_7 rfl rfl ?_
  refine aw_aload_n (i := 0) (q := 0) dX3_readStep_8 rfl rfl ?_
  refine aw_getIk (x := p0) 7 flX3_34 SH_18 (by decide) rfl rfl h7 dX3_readStep_9 (fun r9 => ?_)
  refine aw_cVp (As := [iI p0]) (st := []) clX3_59 (s_X3_signAt hR hE (by omega)) SH_18 rfl (by decide) rfl rfl (Nat.le_of_ble_eq_true rfl) (by decide) (by decide) (Nat.le_refl _) (Nat.le_refl _) dX3_readStep_12 (fun v12 hv12 => ?_)
  obtain ⟨hv12, hv12a, hv12b⟩ := hv12
  refine aw_bipush (x := 45) dX3_readStep_15 rfl ?_
  refine aw_icmp_ne (tgt := 33) dX3_readStep_17 (by decide) (by first | assumption | omega) (by decide) (fun c17 => ?_) (fun c17 => ?_)
  · have hn45 : ¬ sgC mi p0 = 45 := by omega
    exact l_let hR hE hw hq h4 hs 400 mi 0 p0 301 (fun _ _ _ => rfl) h7 (by unfold itP; rw [if_neg hn45]) (by unfold itS; rw [if_neg hn45]) (by decide) (by omega) (by omega) (by omega)
  · refine aw_aload_n (i := 0) (q := 0) dX3_readStep_20 rfl rfl ?_
    refine aw_dup dX3_readStep_21 rfl ?_
    refine aw_getIk (x := p0) 7 flX3_34 SH_18 (by decide) rfl rfl h7 dX3_readStep_22 (fun r22 => ?_)
    refine aw_iconst dX3_readStep_25 ?_
    refine aw_iadd dX3_readStep_26 ?_
    refine aw_putIk 7 flX3_34 SH_18 (by decide) rfl rfl rfl (by first | assumption | omega) dX3_readStep_27 ?_
    refine aw_goto (tgt := 87) dX3_readStep_30 (by decide) ?_
    have h45 : sgC mi p0 = 45 := by omega
    have e9 := l_rs2 hR hE hw hq h4 hs (m := aup mi 18 7 (p0 + 1)) (fun x j a => by rcases a with a | a; (exact aup_a a); (exact aup_k a)) (P := p0 + 1) (by unfold itP; rw [if_pos h45]) (aup_eq _ _ _ _)
    rw [show itS (sgC mi) p0 = 0 by (unfold itS; exact if_pos h45)] at e9
    exact e9
