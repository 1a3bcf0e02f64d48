-- part 54: the model: advance (printed by wip/whole/gen/p54.py)
/-- one bell of the model sounds, or not -/
def snR (m : aM) (b : Int) (m' : aM) : Prop := (m' = m ∧ ∀ i : Int, 0 ≤ i → i < m 58 18 → ¬ (m 67 i = b ∧ m 68 i = m 58 9)) ∨ ∃ k : Int, 0 ≤ k ∧ k < m 58 18 ∧ m 67 k = b ∧ m 68 k = m 58 9 ∧ m' = rcA (mRem (aup m 63 b (m 58 9 + m 60 b)) k) b 0
def snC : Nat → Int → aM → aM → Prop
  | 0, _, m, m' => m' = m
  | k + 1, b, m, m' => ∃ m1, snR m b m1 ∧ snC k (b + 1) m1 m'
noncomputable def mtF : Nat → Int → aM → aM
  | 0, _, m => m
  | k + 1, b, m => if m 86 b ≠ 0 ∧ m 92 b = m 58 9 then mtF k (b + 1) (mtA m b) else mtF k (b + 1) m
def tkM (m m' : aM) : Prop := ∃ m1, snC (m 58 6).toNat 0 (aup m 58 9 (m 58 9 + 1)) m1 ∧ pmC (m 58 42).toNat 0 (mtF (m 58 6).toNat 0 m1) m'
def tkMN : Nat → aM → aM → Prop
  | 0, m, m' => m' = m
  | k + 1, m, m' => ∃ m1, tkM m m1 ∧ tkMN k m1 m'
theorem tkMN_snoc : ∀ (k : Nat) (m m1 m2 : aM), tkMN k m m1 → tkM m1 m2 → tkMN (k + 1) m m2
  | 0, m, m1, m2, h1, h2 => ⟨m2, by rw [show m1 = m from h1] at h2; exact h2, rfl⟩
  | k + 1, m, m1, m2, ⟨q, h1, h3⟩, h2 => ⟨q, h1, tkMN_snoc k q m1 m2 h3 h2⟩
theorem snC_snoc : ∀ (k : Nat) (b : Int) (m m1 m2 : aM), snC k b m m1 → snR m1 (b + k) m2 → snC (k + 1) b m m2
  | 0, b, m, m1, m2, h1, h2 => ⟨m2, by rw [show m1 = m from h1, show b + ((0 : Nat) : Int) = b by omega] at h2; exact h2, rfl⟩
  | k + 1, b, m, m1, m2, ⟨q, h1, h3⟩, h2 => ⟨q, h1, snC_snoc k (b + 1) q m1 m2 h3 (by rw [show b + 1 + (k : Int) = b + ((k + 1 : Nat) : Int) by omega]; exact h2)⟩
theorem snR_fr {m m' : aM} {b : Int} (h : snR m b m') : (∀ (x : Nat) (j : Int), (x < 63 ∨ 69 < x) → (x ≠ 58 ∨ (j ≠ 13 ∧ j ≠ 18)) → m' x j = m x j) ∧ (m 58 13 ≤ m' 58 13 ∧ m' 58 13 ≤ m 58 13 + 1) ∧ (∀ j : Int, m' 63 j = m 63 j ∨ (j = b ∧ m' 63 j = m 58 9 + m 60 b)) := by
  rcases h with ⟨rfl, -⟩ | ⟨k, k0, k1, k2, k3, rfl⟩
  · exact ⟨fun _ _ _ _ => rfl, ⟨Int.le_refl _, by omega⟩, fun j => Or.inl rfl⟩
  · refine ⟨fun x j a c => ?_, ?_, fun j => ?_⟩
    · rw [rcA_o ⟨by omega, by omega⟩, mRem_o ⟨by omega, by omega⟩, aup_a (by omega)]
    · rw [rcA_n, mRem_o ⟨by omega, by omega⟩, aup_a (by decide)]; omega
    · rw [rcA_o ⟨by omega, by omega⟩, mRem_o ⟨by omega, by omega⟩]
      by_cases e : j = b
      · subst e; right; exact ⟨rfl, aup_eq _ _ _ _⟩
      · left; exact aup_k e
theorem snR_ok {m m' : aM} {b : Int} (ho : mOk m) (h : snR m b m') : mOk m' := by
  rcases h with ⟨rfl, -⟩ | ⟨k, k0, k1, k2, k3, rfl⟩
  · exact ho
  · have h1 : mOk (aup m 63 b (m 58 9 + m 60 b)) := mOk_congr (fun j => ⟨aup_a (by decide), aup_a (by decide), aup_a (by decide)⟩) (aup_a (by decide)) ho
    have h2 := mOk_Rem h1 (i := k) ⟨k0, by rw [aup_a (by decide)]; exact k1⟩
    exact mOk_congr (fun j => ⟨rcA_o (by omega), rcA_o (by omega), rcA_o (by omega)⟩) (rcA_o (by omega)) h2
/-- what the bells' swings keep within a tick: those below z have turned -/
def mWz (m : aM) (z : Int) : Prop := ∀ i : Int, 0 ≤ i → i < m 58 6 → (0 ≤ m 89 i ∧ m 89 i ≤ 1000) ∧ (m 90 i = 1 ∨ m 90 i = -1 ∨ m 86 i = 0) ∧ (0 ≤ m 91 i ∧ m 91 i ≤ 1000) ∧ (0 ≤ m 92 i ∧ m 92 i ≤ 200100) ∧ (m 86 i ≠ 0 → (m 58 9 < m 92 i ∨ (z ≤ i ∧ m 58 9 = m 92 i)) ∧ m 92 i ≤ m 58 9 + m 62 i)
def aMz (m : aM) (z q : Int) : Prop := pmI m ∧ mWz m z ∧ (0 ≤ m 58 43 ∧ m 58 43 + 8 ≤ 8 * m 58 9) ∧ (0 ≤ m 58 13 ∧ m 58 13 + 24 ≤ 24 * m 58 9 + q)
def avM (m : aM) : Prop := pmI m ∧ mW m ∧ (0 ≤ m 58 43 ∧ m 58 43 ≤ 8 * m 58 9) ∧ (0 ≤ m 58 13 ∧ m 58 13 ≤ 24 * m 58 9)
theorem pmI_now {m : aM} (h : pmI m) (hn : m 58 9 + 1 ≤ 100000) : pmI (aup m 58 9 (m 58 9 + 1)) := by
  obtain ⟨⟨a1, a2, a3⟩, b1, b2, b3, b4, b5⟩ := h
  have g : ∀ (x : Nat) (j : Int), (x ≠ 58 ∨ j ≠ 9) → aup m 58 9 (m 58 9 + 1) x j = m x j := fun x j q => by rcases q with q | q; (exact aup_a q); (exact aup_k q)
  refine ⟨⟨by rw [g 58 6 (by omega)]; exact a1, by rw [aup_eq]; omega, fun i i0 i1 => ?_⟩, by rw [g 58 7 (by omega)]; exact b1, mOk_congr (fun j => ⟨g _ _ (by omega), g _ _ (by omega), g _ _ (by omega)⟩) (g _ _ (by omega)) b2, fun w w0 w1 => ?_, by rw [g 58 42 (by omega)]; exact b4, fun i i0 i1 => ?_⟩
  · rw [g 58 6 (by omega)] at i1
    rw [g 59 i (by omega), g 60 i (by omega), g 61 i (by omega), g 62 i (by omega), g 63 i (by omega), g 86 i (by omega), g 87 i (by omega), g 88 i (by omega)]
    exact a3 i i0 i1
  · obtain ⟨p, q⟩ := b3 w w0 w1
    refine ⟨by rw [g 73 w (by omega)]; exact p, fun k k0 k1 => ?_⟩
    rw [g 73 w (by omega)] at k1
    rw [g 72 _ (by omega)]
    exact q k k0 k1
  · rw [g 58 42 (by omega)] at i1
    unfold meOk
    rw [g 80 i (by omega), g 81 i (by omega), g 82 i (by omega), g 83 i (by omega), g 84 i (by omega)]
    exact b5 i i0 i1
theorem aMz_now {m : aM} (h : avM m) (hn : m 58 9 + 1 ≤ 100000) : aMz (aup m 58 9 (m 58 9 + 1)) 0 0 := by
  obtain ⟨h1, h2, h3, h4⟩ := h
  have g : ∀ (x : Nat) (j : Int), (x ≠ 58 ∨ j ≠ 9) → aup m 58 9 (m 58 9 + 1) x j = m x j := fun x j q => by rcases q with q | q; (exact aup_a q); (exact aup_k q)
  refine ⟨pmI_now h1 hn, fun i i0 i1 => ?_, by rw [g 58 43 (by omega), aup_eq]; omega, by rw [g 58 13 (by omega), aup_eq]; omega⟩
  rw [g 58 6 (by omega)] at i1
  obtain ⟨q1, q2, q3, q4, q5⟩ := h2 i i0 i1
  rw [g 89 i (by omega), g 90 i (by omega), g 86 i (by omega), g 91 i (by omega), g 92 i (by omega), g 62 i (by omega), aup_eq]
  exact ⟨q1, q2, q3, q4, fun q => by have := q5 q; omega⟩
theorem aMz_sn {m m' : aM} {b q : Int} (h : aMz m 0 q) (hb : 0 ≤ b ∧ b < m 58 6) (hs : snR m b m') : aMz m' 0 (q + 1) ∧ m' 58 6 = m 58 6 ∧ m' 58 9 = m 58 9 ∧ m' 58 42 = m 58 42 := by
  obtain ⟨⟨⟨a1, a2, a3⟩, b1, b2, b3, b4, b5⟩, h2, h3, h4⟩ := h
  obtain ⟨f, f13, f63⟩ := snR_fr hs
  have e6 : m' 58 6 = m 58 6 := f _ _ (by omega) (by omega)
  have e9 : m' 58 9 = m 58 9 := f _ _ (by omega) (by omega)
  have e42 : m' 58 42 = m 58 42 := f _ _ (by omega) (by omega)
  refine ⟨⟨⟨⟨by rw [e6]; exact a1, by rw [e9]; exact a2, fun i i0 i1 => ?_⟩, by rw [f 58 7 (by omega) (by omega)]; exact b1, snR_ok b2 hs, fun w w0 w1 => ?_, by rw [e42]; exact b4, fun i i0 i1 => ?_⟩, fun i i0 i1 => ?_, by rw [f 58 43 (by omega) (by omega), e9]; exact h3, by rw [e9]; omega⟩, e6, e9, e42⟩
  · rw [e6] at i1
    rw [f 59 i (by omega) (by omega), f 60 i (by omega) (by omega), f 61 i (by omega) (by omega), f 62 i (by omega) (by omega), f 86 i (by omega) (by omega), f 87 i (by omega) (by omega), f 88 i (by omega) (by omega)]
    have k := a3 i i0 i1
    refine ⟨k.1, k.2.1, k.2.2.1, k.2.2.2.1, ?_, k.2.2.2.2.2⟩
    rcases f63 i with e | ⟨e, e2⟩
    · rw [e]; exact k.2.2.2.2.1
    · rw [e2]
      have k2 := (a3 b hb.1 hb.2).2.1
      omega
  · obtain ⟨p, q⟩ := b3 w w0 w1
    refine ⟨by rw [f 73 w (by omega) (by omega)]; exact p, fun k k0 k1 => ?_⟩
    rw [f 73 w (by omega) (by omega)] at k1
    rw [f 72 _ (by omega) (by omega)]
    exact q k k0 k1
  · rw [e42] at i1
    unfold meOk
    rw [f 80 i (by omega) (by omega), f 81 i (by omega) (by omega), f 82 i (by omega) (by omega), f 83 i (by omega) (by omega), f 84 i (by omega) (by omega)]
    exact b5 i i0 i1
  · rw [e6] at i1
    rw [f 89 i (by omega) (by omega), f 90 i (by omega) (by omega), f 86 i (by omega) (by omega), f 91 i (by omega) (by omega), f 92 i (by omega) (by omega), f 62 i (by omega) (by omega), e9]
    exact h2 i i0 i1
theorem mtA_o {m : aM} {b : Int} {x : Nat} {j : Int} (h : (x < 64 ∨ 66 < x) ∧ (x ≠ 58 ∨ j ≠ 13)) (h2 : j ≠ b ∨ (x ≠ 86 ∧ x ≠ 89 ∧ x ≠ 90 ∧ x ≠ 92)) : mtA m b x j = m x j := by
  unfold mtA
  have e1 : aup (aup m 90 b (-(m 90 b))) 89 b (trn (m 89 b) (m 88 b) (m 91 b)) x j = m x j := by
    rcases h2 with q | q
    · rw [aup_k q, aup_k q]
    · rw [aup_a q.2.1, aup_a q.2.2.1]
  have e2 : (if 400 ≤ trn (m 89 b) (m 88 b) (m 91 b) ∧ m 87 b = 0 then rcA (aup (aup m 90 b (-(m 90 b))) 89 b (trn (m 89 b) (m 88 b) (m 91 b))) b 1 else aup (aup m 90 b (-(m 90 b))) 89 b (trn (m 89 b) (m 88 b) (m 91 b))) x j = m x j := by
    split
    · rw [rcA_o h]; exact e1
    · exact e1
  rcases h2 with q | q
  · rw [aup_k q, aup_k q]; exact e2
  · rw [aup_a q.2.2.2, aup_a q.1]; exact e2
theorem mtA_v (m : aM) (b : Int) : mtA m b 86 b = (if 0 < trn (m 89 b) (m 88 b) (m 91 b) ∨ m 88 b ≠ 0 then 1 else 0) ∧ mtA m b 89 b = trn (m 89 b) (m 88 b) (m 91 b) ∧ mtA m b 90 b = -(m 90 b) ∧ mtA m b 92 b = m 92 b + m 62 b ∧ mtA m b 58 13 = m 58 13 + (if 400 ≤ trn (m 89 b) (m 88 b) (m 91 b) ∧ m 87 b = 0 then 1 else 0) := by
  unfold mtA
  refine ⟨?_, ?_, ?_, aup_eq _ _ _ _, ?_⟩
  · rw [aup_a (by decide), aup_eq]
  · rw [aup_a (by decide), aup_a (by decide)]
    split
    · rw [rcA_o (by omega), aup_eq]
    · rw [aup_eq]
  · rw [aup_a (by decide), aup_a (by decide)]
    split
    · rw [rcA_o (by omega), aup_a (by decide), aup_eq]
    · rw [aup_a (by decide), aup_eq]
  · rw [aup_a (by decide), aup_a (by decide)]
    split
    · rw [rcA_n, aup_a (by decide), aup_a (by decide)]
    · rw [aup_a (by decide), aup_a (by decide)]; omega
theorem aMz_no {m : aM} {b q : Int} (h : aMz m b q) (hd : ¬ (m 86 b ≠ 0 ∧ m 92 b = m 58 9)) : aMz m (b + 1) (q + 1) := by
  obtain ⟨h1, h2, h3, h4⟩ := h
  refine ⟨h1, fun i i0 i1 => ?_, h3, by omega⟩
  obtain ⟨q1, q2, q3, q4, q5⟩ := h2 i i0 i1
  refine ⟨q1, q2, q3, q4, fun z => ?_⟩
  have k := q5 z
  by_cases e : i = b
  · subst e
    have : m 92 i ≠ m 58 9 := fun y => hd ⟨z, y⟩
    omega
  · omega
theorem aMz_mt {m : aM} {b q : Int} (h : aMz m b q) (hb : 0 ≤ b ∧ b < m 58 6) (hd : m 86 b ≠ 0 ∧ m 92 b = m 58 9) : aMz (mtA m b) (b + 1) (q + 1) := by
  obtain ⟨⟨⟨a1, a2, a3⟩, b1, b2, b3, b4, b5⟩, h2, h3, h4⟩ := h
  obtain ⟨v86, v89, v90, v92, v13⟩ := mtA_v m b
  have e6 : mtA m b 58 6 = m 58 6 := mtA_o (by omega) (by omega)
  have e9 : mtA m b 58 9 = m 58 9 := mtA_o (by omega) (by omega)
  have e42 : mtA m b 58 42 = m 58 42 := mtA_o (by omega) (by omega)
  obtain ⟨q1, q2, q3, q4, q5⟩ := h2 b hb.1 hb.2
  obtain ⟨k59, k60, k61, k62, k63, k86, k87, k88⟩ := a3 b hb.1 hb.2
  have htr := trn_rng (motor := m 88 b) q1 q3
  have c13 : mtA m b 58 13 = m 58 13 ∨ mtA m b 58 13 = m 58 13 + 1 := by rw [v13]; split <;> omega
  refine ⟨⟨⟨by rw [e6]; exact a1, by rw [e9]; exact a2, fun i i0 i1 => ?_⟩, by rw [mtA_o (x := 58) (j := 7) (by omega) (by omega)]; exact b1, mOk_congr (fun j => ⟨mtA_o (by omega) (by omega), mtA_o (by omega) (by omega), mtA_o (by omega) (by omega)⟩) (mtA_o (by omega) (by omega)) b2, fun w w0 w1 => ?_, by rw [e42]; exact b4, fun i i0 i1 => ?_⟩, fun i i0 i1 => ?_, by rw [mtA_o (x := 58) (j := 43) (by omega) (by omega), e9]; exact h3, by rw [e9]; omega⟩
  · rw [e6] at i1
    rw [mtA_o (x := 59) (j := i) (by omega) (by omega), mtA_o (x := 60) (j := i) (by omega) (by omega), mtA_o (x := 61) (j := i) (by omega) (by omega), mtA_o (x := 62) (j := i) (by omega) (by omega), mtA_o (x := 63) (j := i) (by omega) (by omega), mtA_o (x := 87) (j := i) (by omega) (by omega), mtA_o (x := 88) (j := i) (by omega) (by omega)]
    have k := a3 i i0 i1
    refine ⟨k.1, k.2.1, k.2.2.1, k.2.2.2.1, k.2.2.2.2.1, ?_, k.2.2.2.2.2.2⟩
    by_cases e : i = b
    · subst e; rw [v86]; split <;> omega
    · rw [mtA_o (x := 86) (j := i) (by omega) (by omega)]; exact k.2.2.2.2.2.1
  · obtain ⟨p, q⟩ := b3 w w0 w1
    refine ⟨by rw [mtA_o (x := 73) (j := w) (by omega) (by omega)]; exact p, fun k k0 k1 => ?_⟩
    rw [mtA_o (x := 73) (j := w) (by omega) (by omega)] at k1
    rw [mtA_o (x := 72) (by omega) (by omega)]
    exact q k k0 k1
  · rw [e42] at i1
    unfold meOk
    rw [mtA_o (x := 80) (j := i) (by omega) (by omega), mtA_o (x := 81) (j := i) (by omega) (by omega), mtA_o (x := 82) (j := i) (by omega) (by omega), mtA_o (x := 83) (j := i) (by omega) (by omega), mtA_o (x := 84) (j := i) (by omega) (by omega)]
    exact b5 i i0 i1
  · rw [e6] at i1
    by_cases e : i = b
    · subst e
      rw [v86, v89, v90, v92, e9, mtA_o (x := 91) (j := i) (by omega) (by omega), mtA_o (x := 62) (j := i) (by omega) (by omega)]
      have k := q5 hd.1
      refine ⟨htr, by omega, q3, by omega, fun _ => by omega⟩
    · rw [mtA_o (x := 86) (j := i) (by omega) (by omega), mtA_o (x := 89) (j := i) (by omega) (by omega), mtA_o (x := 90) (j := i) (by omega) (by omega), mtA_o (x := 92) (j := i) (by omega) (by omega), e9, mtA_o (x := 91) (j := i) (by omega) (by omega), mtA_o (x := 62) (j := i) (by omega) (by omega)]
      obtain ⟨p1, p2, p3, p4, p5⟩ := h2 i i0 i1
      exact ⟨p1, p2, p3, p4, fun z => by have := p5 z; omega⟩
theorem mtF_keep : ∀ (k : Nat) (b : Int) (m : aM) {x : Nat} {j : Int}, (x < 64 ∨ 66 < x) ∧ (x ≠ 58 ∨ j ≠ 13) → (x ≠ 86 ∧ x ≠ 89 ∧ x ≠ 90 ∧ x ≠ 92) → mtF k b m x j = m x j
  | 0, _, _, _, _, _, _ => rfl
  | k + 1, b, m, x, j, h1, h2 => by
    show (if _ then _ else _ : aM) x j = _
    split
    · rw [mtF_keep k (b + 1) _ h1 h2]; exact mtA_o h1 (Or.inr h2)
    · exact mtF_keep k (b + 1) _ h1 h2
theorem pmC_keep : ∀ (k : Nat) (i : Int) (m m' : aM), pmI m → (0 ≤ i ∧ i + k ≤ m 58 42) → pmC k i m m' → (∀ (x : Nat) (j : Int), (x < 67 ∨ (70 < x ∧ x < 80) ∨ 85 < x) → (x ≠ 58 ∨ (j ≠ 18 ∧ j ≠ 43 ∧ j ≠ 42)) → m' x j = m x j) ∧ (m 58 43 ≤ m' 58 43 ∧ m' 58 43 ≤ m 58 43 + k)
  | 0, i, m, m', h, hi, hc => by
    rw [show m' = m from hc]
    exact ⟨fun _ _ _ _ => rfl, by omega⟩
  | k + 1, i, m, m', h, hi, hc => by
    rcases hc with ⟨-, hc⟩ | ⟨-, m1, h1, hc⟩ | ⟨-, m1, m2, h1, h2, hc⟩
    · have := pmC_keep k (i + 1) m m' h (by omega) hc
      exact ⟨this.1, by omega⟩
    · have f := mcR_fr h.2.2.1 h1
      have hp := pmI_co h ⟨by omega, by omega⟩ h1
      have := pmC_keep k (i + 1) m1 m' hp.1 (by rw [hp.2]; omega) hc
      refine ⟨fun x j a c => by rw [this.1 x j a c]; exact f.1 x j (by omega) (by omega) (by omega) (by omega), by omega⟩
    · have f := mcR_fr h.2.2.1 h1
      have hp := pmI_co h (i := i) ⟨by omega, by omega⟩ h1
      have hd := pmI_drop hp.1 (i := i) ⟨by omega, by rw [hp.2]; omega⟩ h2
      have g42 := h2.1
      have g43 : m2 58 43 = m1 58 43 := h2.2.1 _ _ (by omega) (by omega)
      have := pmC_keep k i m2 m' hd (by rw [g42, hp.2]; omega) hc
      refine ⟨fun x j a c => by rw [this.1 x j a c, h2.2.1 x j (by omega) (by omega)]; exact f.1 x j (by omega) (by omega) (by omega) (by omega), by omega⟩
theorem avM_look {m m' : aM} (h : aMz m (m 58 6) 24) (hc : pmC (m 58 42).toNat 0 m m') (hp : pmI m') : avM m' ∧ m' 58 13 = m 58 13 ∧ m' 58 9 = m 58 9 ∧ m' 58 6 = m 58 6 := by
  obtain ⟨h1, h2, h3, h4⟩ := h
  have h42 := h1.2.2.2.2.1
  obtain ⟨f, f43⟩ := pmC_keep _ 0 m m' h1 (by omega) hc
  have e13 : m' 58 13 = m 58 13 := f _ _ (by omega) (by omega)
  have e9 : m' 58 9 = m 58 9 := f _ _ (by omega) (by omega)
  have e6 : m' 58 6 = m 58 6 := f _ _ (by omega) (by omega)
  refine ⟨⟨hp, fun i i0 i1 => ?_, by rw [e9]; omega, by rw [e13, e9]; omega⟩, e13, e9, e6⟩
  rw [e6] at i1
  rw [f 89 i (by omega) (by omega), f 90 i (by omega) (by omega), f 86 i (by omega) (by omega), f 91 i (by omega) (by omega), f 92 i (by omega) (by omega), f 62 i (by omega) (by omega), e9]
  obtain ⟨p1, p2, p3, p4, p5⟩ := h2 i i0 i1
  exact ⟨p1, p2, p3, p4, fun z => by have := p5 z; omega⟩
theorem aMz_no2 {m : aM} {b : Int} (h : aMz m b (12 + b)) (hd : ¬ (m 86 b ≠ 0 ∧ m 92 b = m 58 9)) : aMz m (b + 1) (12 + (b + 1)) := by
  have := aMz_no h hd
  rw [show 12 + (b + 1) = 12 + b + 1 by omega]
  exact this
theorem l_mad3 {mr : aR} (hR : Rok mr) {mi m0 m5 : aM} {t z : Int} {z6 : Nat} (ht : 0 ≤ t ∧ t ≤ 2000) (hno : mi 58 9 + t ≤ 100000) (hz6 : z6 = (m0 58 6).toNat) (hn6 : 0 ≤ m0 58 6 ∧ m0 58 6 ≤ 12) (hsn : snC z6 0 (aup m0 58 9 (m0 58 9 + 1)) m5) (hnw : 0 ≤ m0 58 9 ∧ m0 58 9 + 1 ≤ 100000) (kx : ∀ m : aM, avM m → tkM m0 m → m 58 9 = m0 58 9 + 1 → AWm RX7 cX7_advance 5 7 (Pi mr (fun r m => (¬ (0 ≤ t ∧ t ≤ 2000) ∧ r = -3 ∧ m = mi) ∨ ((0 ≤ t ∧ t ≤ 2000) ∧ 100000 < mi 58 9 + t ∧ r = -4 ∧ m = mi) ∨ ((0 ≤ t ∧ t ≤ 2000) ∧ mi 58 9 + t ≤ 100000 ∧ tkMN t.toNat mi m ∧ avM m ∧ r = m 58 13 - mi 58 13))) 41 [(0, .ref 58), (1, iI t), (2, iI (mi 58 13)), (3, iI (z + 1))] [] m mr) : ∀ (n : Nat) (m : aM) (b : Int), aMz m b (12 + b) → mtF (z6 - b.toNat) b m = mtF z6 0 m5 → m 58 9 = m0 58 9 + 1 → m 58 6 = m0 58 6 → m 58 42 = m0 58 42 → (0 ≤ b ∧ b ≤ m0 58 6) → m0 58 6 - b < n → AWm RX7 cX7_advance 5 7 (Pi mr (fun r m => (¬ (0 ≤ t ∧ t ≤ 2000) ∧ r = -3 ∧ m = mi) ∨ ((0 ≤ t ∧ t ≤ 2000) ∧ 100000 < mi 58 9 + t ∧ r = -4 ∧ m = mi) ∨ ((0 ≤ t ∧ t ≤ 2000) ∧ mi 58 9 + t ≤ 100000 ∧ tkMN t.toNat mi m ∧ avM m ∧ r = m 58 13 - mi 58 13))) 83 [(0, .ref 58), (1, iI t), (2, iI (mi 58 13)), (3, iI z), (4, iI b)] [] m mr := by
  intro n
  induction n with
  | zero => intro m b hI hF f9 f6 f42 h2 h3; omega
  | succ n ih =>
    intro m b hI hF f9 f6 f42 h2 h3
    have hW9 := hI.2.1
    have h43 := hI.2.2.1
    have h13 := hI.2.2.2
    refine aw_iload (i := 4) (q := 4) dX7_advance_83 rfl ?_
    refine aw_aload_n (i := 0) (q := 0) dX7_advance_85 rfl rfl ?_
    refine aw_getIk (x := m 58 6) 6 flX7_132 SH_58 (by decide) rfl rfl rfl dX7_advance_86 (fun r86 => ?_)
    refine aw_icmp_ge (tgt := 128) dX7_advance_89 (by decide) (by first | assumption | omega) (by first | assumption | omega) (fun c89 => ?_) (fun c89 => ?_)
    · refine aw_sub (lv' := [(0, .ref 58), (1, iI t), (2, iI (mi 58 13)), (3, iI z)]) [0, 1, 2, 3] rfl ?_
      refine aw_aload_n (i := 0) (q := 0) dX7_advance_128 rfl rfl ?_
      refine aw_cVv (As := []) (st := []) clX7_310 (s_X7_looksAtEntries (mi := m) hR hI.1 (by omega)) SH_58 rfl (by decide) rfl rfl (Nat.le_of_ble_eq_true rfl) (by decide) (by decide) (Nat.le_refl _) (Nat.le_refl _) dX7_advance_129 (fun m2 hm2 => ?_)
      obtain ⟨hpc, hpm⟩ := hm2
      have hmm : m = mtF z6 0 m5 := by rw [← hF, show z6 - b.toNat = 0 by omega]; rfl
      have hz9 : aMz m (m 58 6) 24 := ⟨hI.1, (fun i i0 i1 => by have k := hI.2.1 i i0 i1; exact ⟨k.1, k.2.1, k.2.2.1, k.2.2.2.1, fun y => by have := k.2.2.2.2 y; omega⟩), hI.2.2.1, by have := hI.2.2.2; omega⟩
      have hav := avM_look hz9 hpc hpm
      have htk : tkM m0 m2 := ⟨m5, by rw [← hz6]; exact hsn, by rw [← hz6, ← hmm, ← f42]; exact hpc⟩
      refine aw_iinc (i := 3) (q := 3) (x := z) (lv' := [(0, .ref 58), (1, iI t), (2, iI (mi 58 13)), (3, iI (z + 1))]) [1, 2, 3, 0] dX7_advance_132 rfl (by decide) rfl ?_
      refine aw_goto (tgt := 41) dX7_advance_135 (by decide) ?_
      exact kx m2 hav.1 htk (by rw [hav.2.2.1]; exact f9)
    · obtain ⟨k1, k2, k3, k4, k5⟩ := hW9 b (by omega) (by omega)
      have k86 := (hI.1.1.2.2 b (by omega) (by omega)).2.2.2.2.2.1
      refine aw_aload_n (i := 0) (q := 0) dX7_advance_92 rfl rfl ?_
      refine aw_getR (r := 86) flX7_99 SH_58 (by decide) rfl (rk_58_44 hR) dX7_advance_93 ?_
      refine aw_iload (i := 4) (q := 4) dX7_advance_96 rfl ?_
      refine aw_zaldv (x := m 86 b) SH_86 (by decide) ⟨by omega, by omega⟩ rfl dX7_advance_98 (fun r98 => ?_)
      refine aw_if_eq (tgt := 122) dX7_advance_99 (by decide) (by first | assumption | omega) (fun c99 => ?_) (fun c99 => ?_)
      · refine aw_iinc (i := 4) (q := 4) (x := b) (lv' := [(0, .ref 58), (1, iI t), (2, iI (mi 58 13)), (3, iI z), (4, iI (b + 1))]) [1, 2, 3, 4, 0] dX7_advance_122 rfl (by decide) rfl ?_
        refine aw_goto (tgt := 83) dX7_advance_125 (by decide) ?_
        exact ih m (b + 1) (aMz_no2 hI (by omega)) (by rw [← hF, show z6 - b.toNat = (z6 - (b + 1).toNat) + 1 by omega]; exact (if_neg (by omega)).symm) f9 f6 f42 (by omega) (by omega)
      · refine aw_aload_n (i := 0) (q := 0) dX7_advance_102 rfl rfl ?_
        refine aw_getR (r := 92) flX7_117 SH_58 (by decide) rfl (rk_58_50 hR) dX7_advance_103 ?_
        refine aw_iload (i := 4) (q := 4) dX7_advance_106 rfl ?_
        refine aw_ialdv (x := m 92 b) SH_92 (by decide) ⟨by omega, by omega⟩ rfl dX7_advance_108 (fun r108 => ?_)
        refine aw_aload_n (i := 0) (q := 0) dX7_advance_109 rfl rfl ?_
        refine aw_getIk (x := m 58 9) 9 flX7_158 SH_58 (by decide) rfl rfl rfl dX7_advance_110 (fun r110 => ?_)
        refine aw_icmp_ne (tgt := 122) dX7_advance_113 (by decide) (by first | assumption | omega) (by first | assumption | omega) (fun c113 => ?_) (fun c113 => ?_)
        · refine aw_iinc (i := 4) (q := 4) (x := b) (lv' := [(0, .ref 58), (1, iI t), (2, iI (mi 58 13)), (3, iI z), (4, iI (b + 1))]) [1, 2, 3, 4, 0] dX7_advance_122 rfl (by decide) rfl ?_
          refine aw_goto (tgt := 83) dX7_advance_125 (by decide) ?_
          exact ih m (b + 1) (aMz_no2 hI (by omega)) (by rw [← hF, show z6 - b.toNat = (z6 - (b + 1).toNat) + 1 by omega]; exact (if_neg (by omega)).symm) f9 f6 f42 (by omega) (by omega)
        · refine aw_aload_n (i := 0) (q := 0) dX7_advance_116 rfl rfl ?_
          refine aw_iload (i := 4) (q := 4) dX7_advance_117 rfl ?_
          refine aw_cVv (As := [iI b]) (st := []) clX7_307 (s_X7_turns (mi := m) hR (by omega) hI.1.1 ⟨k1, k3, k4⟩ (by omega) (by omega)) SH_58 rfl (by decide) rfl rfl (Nat.le_of_ble_eq_true rfl) (by decide) (by decide) (Nat.le_refl _) (Nat.le_refl _) dX7_advance_119 (fun m1 hm1 => ?_)
          refine aw_iinc (i := 4) (q := 4) (x := b) (lv' := [(0, .ref 58), (1, iI t), (2, iI (mi 58 13)), (3, iI z), (4, iI (b + 1))]) [1, 2, 3, 4, 0] dX7_advance_122 rfl (by decide) rfl ?_
          refine aw_goto (tgt := 83) dX7_advance_125 (by decide) ?_
          have hI2 := aMz_mt hI ⟨by omega, by omega⟩ ⟨by omega, by omega⟩
          rw [← hm1] at hI2
          exact ih m1 (b + 1) (by rw [show 12 + (b + 1) = 12 + b + 1 by omega]; exact hI2) (by rw [← hF, show z6 - b.toNat = (z6 - (b + 1).toNat) + 1 by omega, hm1]; exact (if_pos ⟨by omega, by omega⟩).symm) (by rw [hm1, mtA_o (by omega) (by omega)]; exact f9) (by rw [hm1, mtA_o (by omega) (by omega)]; exact f6) (by rw [hm1, mtA_o (by omega) (by omega)]; exact f42) (by omega) (by omega)
theorem l_mad2 {mr : aR} (hR : Rok mr) {mi m0 : aM} {t z : Int} (ht : 0 ≤ t ∧ t ≤ 2000) (hno : mi 58 9 + t ≤ 100000) (hn6 : 0 ≤ m0 58 6 ∧ m0 58 6 ≤ 12) (hnw : 0 ≤ m0 58 9 ∧ m0 58 9 + 1 ≤ 100000) (kx : ∀ m : aM, avM m → tkM m0 m → m 58 9 = m0 58 9 + 1 → AWm RX7 cX7_advance 5 7 (Pi mr (fun r m => (¬ (0 ≤ t ∧ t ≤ 2000) ∧ r = -3 ∧ m = mi) ∨ ((0 ≤ t ∧ t ≤ 2000) ∧ 100000 < mi 58 9 + t ∧ r = -4 ∧ m = mi) ∨ ((0 ≤ t ∧ t ≤ 2000) ∧ mi 58 9 + t ≤ 100000 ∧ tkMN t.toNat mi m ∧ avM m ∧ r = m 58 13 - mi 58 13))) 41 [(0, .ref 58), (1, iI t), (2, iI (mi 58 13)), (3, iI (z + 1))] [] m mr) : ∀ (n : Nat) (m : aM) (b : Int), aMz m 0 b → snC b.toNat 0 (aup m0 58 9 (m0 58 9 + 1)) m → m 58 9 = m0 58 9 + 1 → m 58 6 = m0 58 6 → m 58 42 = m0 58 42 → (0 ≤ b ∧ b ≤ m0 58 6) → m0 58 6 - b < n → AWm RX7 cX7_advance 5 7 (Pi mr (fun r m => (¬ (0 ≤ t ∧ t ≤ 2000) ∧ r = -3 ∧ m = mi) ∨ ((0 ≤ t ∧ t ≤ 2000) ∧ 100000 < mi 58 9 + t ∧ r = -4 ∧ m = mi) ∨ ((0 ≤ t ∧ t ≤ 2000) ∧ mi 58 9 + t ≤ 100000 ∧ tkMN t.toNat mi m ∧ avM m ∧ r = m 58 13 - mi 58 13))) 59 [(0, .ref 58), (1, iI t), (2, iI (mi 58 13)), (3, iI z), (4, iI b)] [] m mr := by
  intro n
  induction n with
  | zero => intro m b hI hsn f9 f6 f42 h2 h3; omega
  | succ n ih =>
    intro m b hI hsn f9 f6 f42 h2 h3
    have h43 := hI.2.2.1
    have h13 := hI.2.2.2
    refine aw_iload (i := 4) (q := 4) dX7_advance_59 rfl ?_
    refine aw_aload_n (i := 0) (q := 0) dX7_advance_61 rfl rfl ?_
    refine aw_getIk (x := m 58 6) 6 flX7_132 SH_58 (by decide) rfl rfl rfl dX7_advance_62 (fun r62 => ?_)
    refine aw_icmp_ge (tgt := 80) dX7_advance_65 (by decide) (by first | assumption | omega) (by first | assumption | omega) (fun c65 => ?_) (fun c65 => ?_)
    · refine aw_iconst dX7_advance_80 ?_
      refine aw_istore (i := 4) (lv' := [(0, .ref 58), (1, iI t), (2, iI (mi 58 13)), (3, iI z), (4, iI 0)]) [1, 2, 3, 4, 0] dX7_advance_81 (by decide) rfl ?_
      have hbn : b.toNat = (m0 58 6).toNat := by omega
      rw [hbn] at hsn
      exact l_mad3 hR ht hno rfl hn6 hsn hnw kx ((m0 58 6).toNat + 1) m 0 ⟨hI.1, hI.2.1, hI.2.2.1, by have := hI.2.2.2; omega⟩ rfl f9 f6 f42 (by omega) (by omega)
    · refine aw_aload_n (i := 0) (q := 0) dX7_advance_68 rfl rfl ?_
      refine aw_iload (i := 4) (q := 4) dX7_advance_69 rfl ?_
      refine aw_cVv (As := [iI b]) (st := []) clX7_304 (s_X7_sounds (mi := m) hR (by omega) hI.1.1 hI.1.2.2.1 (by omega)) SH_58 rfl (by decide) rfl rfl (Nat.le_of_ble_eq_true rfl) (by decide) (by decide) (Nat.le_refl _) (Nat.le_refl _) dX7_advance_71 (fun m1 hm1 => ?_)
      have hs9 : snR m b m1 := hm1
      have hI2 := aMz_sn hI ⟨by omega, by omega⟩ hs9
      refine aw_iinc (i := 4) (q := 4) (x := b) (lv' := [(0, .ref 58), (1, iI t), (2, iI (mi 58 13)), (3, iI z), (4, iI (b + 1))]) [1, 2, 3, 4, 0] dX7_advance_74 rfl (by decide) rfl ?_
      refine aw_goto (tgt := 59) dX7_advance_77 (by decide) ?_
      exact ih m1 (b + 1) (by rw [show b + 1 = b + 1 from rfl]; exact hI2.1) (by have e9 := snC_snoc b.toNat 0 _ m m1 hsn (by rw [show (0 : Int) + (b.toNat : Int) = b by omega]; exact hs9); rw [show (b + 1).toNat = b.toNat + 1 by omega]; exact e9) (by rw [hI2.2.2.1]; exact f9) (by rw [hI2.2.1]; exact f6) (by rw [hI2.2.2.2]; exact f42) (by omega) (by omega)
theorem l_mad1 {mr : aR} (hR : Rok mr) {mi : aM} {t : Int} (ht : 0 ≤ t ∧ t ≤ 2000) (hno : mi 58 9 + t ≤ 100000) : ∀ (n : Nat) (m : aM) (z : Int), avM m → tkMN z.toNat mi m → m 58 9 = mi 58 9 + z → (0 ≤ z ∧ z ≤ t) → t - z < n → AWm RX7 cX7_advance 5 7 (Pi mr (fun r m => (¬ (0 ≤ t ∧ t ≤ 2000) ∧ r = -3 ∧ m = mi) ∨ ((0 ≤ t ∧ t ≤ 2000) ∧ 100000 < mi 58 9 + t ∧ r = -4 ∧ m = mi) ∨ ((0 ≤ t ∧ t ≤ 2000) ∧ mi 58 9 + t ≤ 100000 ∧ tkMN t.toNat mi m ∧ avM m ∧ r = m 58 13 - mi 58 13))) 41 [(0, .ref 58), (1, iI t), (2, iI (mi 58 13)), (3, iI z)] [] m mr := by
  intro n
  induction n with
  | zero => intro m z hav htk h9 h2 h3; omega
  | succ n ih =>
    intro m z hav htk h9 h2 h3
    have hn6 := hav.1.1.1
    have hn9 := hav.1.1.2.1
    refine aw_iload_n (i := 3) (q := 3) dX7_advance_41 rfl rfl ?_
    refine aw_iload_n (i := 1) (q := 1) dX7_advance_42 rfl rfl ?_
    refine aw_icmp_ge (tgt := 138) dX7_advance_43 (by decide) (by first | assumption | omega) (by first | assumption | omega) (fun c43 => ?_) (fun c43 => ?_)
    · refine aw_aload_n (i := 0) (q := 0) dX7_advance_138 rfl rfl ?_
      refine aw_getIk (x := m 58 13) 13 flX7_155 SH_58 (by decide) rfl rfl rfl dX7_advance_139 (fun r139 => ?_)
      refine aw_iload_n (i := 2) (q := 2) dX7_advance_142 rfl rfl ?_
      refine aw_isub dX7_advance_143 ?_
      exact aw_iret ⟨_, rfl, rfl, rfl, Or.inr (Or.inr ⟨ht, hno, by rw [show t.toNat = z.toNat by omega]; exact htk, hav, rfl⟩)⟩ (Nat.le_refl _) (Nat.le_refl _) dX7_advance_144
    · refine aw_aload_n (i := 0) (q := 0) dX7_advance_46 rfl rfl ?_
      refine aw_dup dX7_advance_47 rfl ?_
      refine aw_getIk (x := m 58 9) 9 flX7_158 SH_58 (by decide) rfl rfl rfl dX7_advance_48 (fun r48 => ?_)
      refine aw_iconst dX7_advance_51 ?_
      refine aw_iadd dX7_advance_52 ?_
      refine aw_putIk 9 flX7_158 SH_58 (by decide) rfl rfl rfl (by first | assumption | omega) dX7_advance_53 ?_
      refine aw_iconst dX7_advance_56 ?_
      refine aw_istore (i := 4) (lv' := [(0, .ref 58), (1, iI t), (2, iI (mi 58 13)), (3, iI z), (4, iI 0)]) [1, 2, 3, 4, 0] dX7_advance_57 (by decide) rfl ?_
      exact l_mad2 hR ht hno hn6 (by omega) (fun m1 h1 h2 h4 => ih m1 (z + 1) h1 (by rw [show (z + 1).toNat = z.toNat + 1 by omega]; exact tkMN_snoc z.toNat mi m m1 htk h2) (by omega) (by omega) (by omega)) ((m 58 6).toNat + 1) _ 0 (aMz_now hav (by omega)) rfl (aup_eq _ _ _ _) (aup_k (by decide)) (aup_k (by decide)) (by omega) (by omega)
theorem t_advance {mr : aR} (hR : Rok mr) {mi : aM} {t : Int} (h_t : -2147483648 ≤ t ∧ t ≤ 2147483647) (hav : avM mi) : AWm RX7 cX7_advance 5 7 (Pi mr (fun r m => (¬ (0 ≤ t ∧ t ≤ 2000) ∧ r = -3 ∧ m = mi) ∨ ((0 ≤ t ∧ t ≤ 2000) ∧ 100000 < mi 58 9 + t ∧ r = -4 ∧ m = mi) ∨ ((0 ≤ t ∧ t ≤ 2000) ∧ mi 58 9 + t ≤ 100000 ∧ tkMN t.toNat mi m ∧ avM m ∧ r = m 58 13 - mi 58 13))) 5 [(0, .ref 58), (1, iI t)] [] mi mr := by
  have hn9 := hav.1.1.2.1
  refine aw_iload_n (i := 1) (q := 1) dX7_advance_5 rfl rfl ?_
  refine aw_i2l dX7_advance_6 (by first | assumption | omega) ?_
  refine aw_lconst (x := 0) dX7_advance_7 rfl ?_
  refine aw_ldc2 (x := 2000) coX7_302 rfl dX7_advance_8 ?_
  refine aw_cSp (As := [lL t, lL 0, lL 2000]) (st := []) clX7_135 (s_X7_isIn hR (by omega) (by omega) (by omega)) rfl rfl (Nat.le_of_ble_eq_true rfl) (by decide) (by decide) (Nat.le_refl _) (Nat.le_refl _) dX7_advance_11 (fun v11 hv11 => ?_)
  refine aw_if_ne (tgt := 20) dX7_advance_14 (by decide) (by first | assumption | omega) (fun c14 => ?_) (fun c14 => ?_)
  · refine aw_aload_n (i := 0) (q := 0) dX7_advance_20 rfl rfl ?_
    refine aw_getIk (x := mi 58 9) 9 flX7_158 SH_58 (by decide) rfl rfl rfl dX7_advance_21 (fun r21 => ?_)
    refine aw_iload_n (i := 1) (q := 1) dX7_advance_24 rfl rfl ?_
    refine aw_iadd dX7_advance_25 ?_
    refine aw_ldc (x := 100000) coX7_196 rfl dX7_advance_26 ?_
    refine aw_icmp_le (tgt := 34) dX7_advance_28 (by decide) (by first | assumption | omega) (by decide) (fun c28 => ?_) (fun c28 => ?_)
    · refine aw_aload_n (i := 0) (q := 0) dX7_advance_34 rfl rfl ?_
      refine aw_getIk (x := mi 58 13) 13 flX7_155 SH_58 (by decide) rfl rfl rfl dX7_advance_35 (fun r35 => ?_)
      refine aw_istore_n (i := 2) (lv' := [(0, .ref 58), (1, iI t), (2, iI (mi 58 13))]) [1, 2, 0] dX7_advance_38 rfl (by decide) rfl ?_
      refine aw_iconst dX7_advance_39 ?_
      refine aw_istore_n (i := 3) (lv' := [(0, .ref 58), (1, iI t), (2, iI (mi 58 13)), (3, iI 0)]) [1, 2, 3, 0] dX7_advance_40 rfl (by decide) rfl ?_
      exact l_mad1 hR ⟨by omega, by omega⟩ (by omega) (t.toNat + 1) mi 0 hav rfl (by omega) (by omega) (by omega)
    · refine aw_bipush (x := -4) dX7_advance_31 rfl ?_
      exact aw_iret ⟨_, rfl, rfl, rfl, Or.inr (Or.inl ⟨by omega, by omega, rfl, rfl⟩)⟩ (Nat.le_refl _) (Nat.le_refl _) dX7_advance_33
  · refine aw_bipush (x := -3) dX7_advance_17 rfl ?_
    exact aw_iret ⟨_, rfl, rfl, rfl, Or.inl ⟨by omega, rfl, rfl⟩⟩ (Nat.le_refl _) (Nat.le_refl _) dX7_advance_19
theorem s_X7_advance {mr : aR} (hR : Rok mr) {mi : aM} {t : Int} (h_t : -2147483648 ≤ t ∧ t ≤ 2147483647) (hav : avM (aup mi 58 0 0)) : SPg yX7_advance cX7_advance 5 (some .int) 7 [.ref 58, iI t] mi mr (Pi mr (fun r m => (¬ (0 ≤ t ∧ t ≤ 2000) ∧ r = -3 ∧ m = (aup mi 58 0 0)) ∨ ((0 ≤ t ∧ t ≤ 2000) ∧ 100000 < (aup mi 58 0 0) 58 9 + t ∧ r = -4 ∧ m = (aup mi 58 0 0)) ∨ ((0 ≤ t ∧ t ≤ 2000) ∧ (aup mi 58 0 0) 58 9 + t ≤ 100000 ∧ tkMN t.toNat (aup mi 58 0 0) m ∧ avM m ∧ r = m 58 13 - (aup mi 58 0 0) 58 13))) := by
  refine SPg.int rfl (by decide +kernel) (Nat.le_of_ble_eq_true rfl) ?_
  show AWm RX7 cX7_advance 5 7 _ 0 [(0, .ref 58), (1, iI t)] [] mi mr
  refine aw_aload_n (i := 0) (q := 0) dX7_advance_0 rfl rfl ?_
  refine aw_iconst dX7_advance_1 ?_
  refine aw_putIk 0 flX7_1 SH_58 (by decide) rfl rfl rfl (by decide) dX7_advance_2 ?_
  exact t_advance (mi := aup mi 58 0 0) hR h_t hav
