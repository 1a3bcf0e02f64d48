-- part 55: the model: isPlayable, fastestTicks (printed by wip/whole/gen/p55.py)
noncomputable def okZ (m : aM) (w s : Int) : Int := (plL (eM m) (dM m) (outL (fun k => m 72 (100 * w + k)) (m 58 6).toNat 1000 s (m 73 w).toNat 0) []).1
theorem okZ_fr {mi m : aM} (h : frM mi m) (w s : Int) : okZ m w s = okZ mi w s := by
  unfold okZ
  rw [outM_fr h, eM_fr h, dM_fr h]
theorem mL_none {m : aM} (h : m 58 18 = 0) : mL m = [] := by unfold mL; rw [h]; rfl
theorem mOk_none {m : aM} (h : m 58 18 = 0) : mOk m := ⟨by rw [h]; decide, fun i a c => by rw [h] at c; omega⟩
theorem frM_0 (m : aM) (v : Int) : frM m (aup m 58 18 v) := fun x j _ b => by rcases b with b | b; (exact aup_a b); (exact aup_k b)
/-- nothing scheduled, no hammer occupied, no bell swings, at 0 -/
noncomputable def eZ (mi : aM) : List Str → Int → Int → Int := fun L b t => exam L 0 (mi 58 7) 0 0 (mi 59 b) (mi 60 b) b t
noncomputable def okF (mi : aM) (w s : Int) : Int := (plL (eZ mi) (dM mi) (outL (fun k => mi 72 (100 * w + k)) (mi 58 6).toNat 1000 s (mi 73 w).toNat 0) []).1
theorem plL_congr {E F : List Str → Int → Int → Int} {dl dk : Int → Int} : ∀ (q : List (Int × Int)) (L : List Str), (∀ x ∈ q, (∀ L t, E L x.1 t = F L x.1 t) ∧ dl x.1 = dk x.1) → plL E dl q L = plL F dk q L
  | [], _, _ => rfl
  | y :: r, L, h => by
    have h1 := h y List.mem_cons_self
    have ih := fun L => plL_congr r L (fun x hx => h x (List.mem_cons_of_mem _ hx))
    by_cases h0 : E L y.1 y.2 = 0
    · rw [plL_ok h0, plL_ok (by rw [← h1.1]; exact h0), ih, h1.2]
    · rw [plL_no h0, plL_no (by rw [← h1.1]; exact h0), h1.1]
/-- the strokes are kept aside (zA), the bells' hammers and swings too (zB) -/
def kB (mi m : aM) (zA zB : Int) : Prop := (∀ (x : Nat) (j : Int), (x ≠ 63 ∧ x ≠ 86 ∧ (x < 75 ∨ 79 < x)) → m x j = mi x j) ∧ (∀ j : Int, 0 ≤ j → j < zA → m 75 j = mi 67 j ∧ m 76 j = mi 68 j ∧ m 77 j = mi 69 j) ∧ (∀ j : Int, 0 ≤ j → j < zB → m 78 j = mi 63 j ∧ m 79 j = mi 86 j ∧ m 63 j = 0 ∧ m 86 j = 0) ∧ (∀ j : Int, j < 0 ∨ zB ≤ j → m 63 j = mi 63 j ∧ m 86 j = mi 86 j)
theorem kB_A {mi m : aM} {z : Int} (h : kB mi m z 0) : kB mi (aup (aup (aup m 75 z (m 67 z)) 76 z (m 68 z)) 77 z (m 69 z)) (z + 1) 0 := by
  obtain ⟨h1, h2, h3, h4⟩ := h
  refine ⟨fun x j hx => ?_, fun j j0 j1 => ?_, fun j j0 j1 => by omega, fun j hj => ?_⟩
  · rw [aup_a (by omega), aup_a (by omega), aup_a (by omega)]; exact h1 x j hx
  · by_cases e : j = z
    · subst e
      rw [aup_a (by decide), aup_a (by decide), aup_eq, aup_a (by decide), aup_eq, aup_eq]
      exact ⟨h1 _ _ (by omega), h1 _ _ (by omega), h1 _ _ (by omega)⟩
    · rw [aup_a (by decide), aup_a (by decide), aup_k e, aup_a (by decide), aup_k e, aup_a (by decide), aup_k e, aup_a (by decide), aup_a (by decide)]
      exact h2 j j0 (by omega)
  · rw [aup_a (by decide), aup_a (by decide), aup_a (by decide), aup_a (by decide), aup_a (by decide), aup_a (by decide)]
    exact h4 j hj
theorem kB_B {mi m : aM} {zA z : Int} (h : kB mi m zA z) (hz : 0 ≤ z) : kB mi (aup (aup (aup (aup m 78 z (m 63 z)) 79 z (m 86 z)) 63 z 0) 86 z 0) zA (z + 1) := by
  obtain ⟨h1, h2, h3, h4⟩ := h
  have hz4 := h4 z (Or.inr (Int.le_refl _))
  refine ⟨fun x j hx => ?_, fun j j0 j1 => ?_, fun j j0 j1 => ?_, fun j hj => ?_⟩
  · rw [aup_a (by omega), aup_a (by omega), aup_a (by omega), aup_a (by omega)]; exact h1 x j hx
  · have k := h2 j j0 j1
    unfold aup
    simp only [show ¬ ((75 : Nat) = 86) by decide, show ¬ ((75 : Nat) = 63) by decide, show ¬ ((75 : Nat) = 79) by decide, show ¬ ((75 : Nat) = 78) by decide, show ¬ ((76 : Nat) = 86) by decide, show ¬ ((76 : Nat) = 63) by decide, show ¬ ((76 : Nat) = 79) by decide, show ¬ ((76 : Nat) = 78) by decide, show ¬ ((77 : Nat) = 86) by decide, show ¬ ((77 : Nat) = 63) by decide, show ¬ ((77 : Nat) = 79) by decide, show ¬ ((77 : Nat) = 78) by decide, false_and, if_false]
    exact k
  · by_cases e : j = z
    · subst e
      refine ⟨?_, ?_, ?_, aup_eq _ _ _ _⟩
      · rw [aup_a (by decide), aup_a (by decide), aup_a (by decide), aup_eq]; exact hz4.1
      · rw [aup_a (by decide), aup_a (by decide), aup_eq]; exact hz4.2
      · rw [aup_a (by decide), aup_eq]
    · rw [aup_k e, aup_k e, aup_k e, aup_k e, aup_k e, aup_k e, aup_k e, aup_k e, aup_k e, aup_k e, aup_k e, aup_k e, aup_k e, aup_k e, aup_k e, aup_k e]
      exact h3 j j0 (by omega)
  · have e : j ≠ z := by omega
    rw [aup_k e, aup_k e, aup_k e, aup_k e, aup_k e, aup_k e, aup_k e, aup_k e]
    exact h4 j (by omega)
/-- while the tries run -/
def kC (mi m : aM) : Prop := (∀ (x : Nat) (j : Int), (x ≠ 63 ∧ x ≠ 86 ∧ (x < 67 ∨ (70 < x ∧ x < 75) ∨ 79 < x)) → (x ≠ 58 ∨ (j ≠ 9 ∧ j ≠ 18)) → m x j = mi x j) ∧ m 58 9 = 0 ∧ (∀ j : Int, 0 ≤ j → j < mi 58 18 → m 75 j = mi 67 j ∧ m 76 j = mi 68 j ∧ m 77 j = mi 69 j) ∧ (∀ j : Int, 0 ≤ j → j < 12 → m 78 j = mi 63 j ∧ m 79 j = mi 86 j ∧ m 63 j = 0 ∧ m 86 j = 0) ∧ (∀ j : Int, j < 0 ∨ 12 ≤ j → m 63 j = mi 63 j ∧ m 86 j = mi 86 j)
theorem kC_of {mi m : aM} (h : kB mi m (mi 58 18) 12) : kC mi (aup m 58 9 0) := by
  obtain ⟨h1, h2, h3, h4⟩ := h
  refine ⟨fun x j hx hy => ?_, aup_eq _ _ _ _, fun j j0 j1 => ?_, fun j j0 j1 => ?_, fun j hj => ?_⟩
  · have e : aup m 58 9 0 x j = m x j := by rcases hy with hy | hy; (exact aup_a hy); (exact aup_k hy.1)
    rw [e]; exact h1 x j (by omega)
  · rw [aup_a (by decide), aup_a (by decide), aup_a (by decide)]; exact h2 j j0 j1
  · rw [aup_a (by decide), aup_a (by decide), aup_a (by decide), aup_a (by decide)]; exact h3 j j0 j1
  · rw [aup_a (by decide), aup_a (by decide)]; exact h4 j hj
theorem kC_fr {mi m m' : aM} (h : kC mi m) (f : frM m m') : kC mi m' := by
  obtain ⟨h1, h2, h3, h4, h5⟩ := h
  refine ⟨fun x j hx hy => ?_, ?_, fun j j0 j1 => ?_, fun j j0 j1 => ?_, fun j hj => ?_⟩
  · rw [f x j (by omega) (by omega)]; exact h1 x j hx hy
  · rw [f 58 9 (by omega) (by omega)]; exact h2
  · rw [f 75 j (by omega) (by omega), f 76 j (by omega) (by omega), f 77 j (by omega) (by omega)]; exact h3 j j0 j1
  · rw [f 78 j (by omega) (by omega), f 79 j (by omega) (by omega), f 63 j (by omega) (by omega), f 86 j (by omega) (by omega)]; exact h4 j j0 j1
  · rw [f 63 j (by omega) (by omega), f 86 j (by omega) (by omega)]; exact h5 j hj
theorem kC_B {mi m : aM} (h : kC mi m) (hB : mB mi) : mB m := by
  obtain ⟨h1, h2, h3, h4, h5⟩ := h
  obtain ⟨a1, a2, a3⟩ := hB
  have e6 : m 58 6 = mi 58 6 := h1 _ _ (by omega) (by omega)
  refine ⟨by rw [e6]; exact a1, by rw [h2]; decide, fun i i0 i1 => ?_⟩
  rw [e6] at i1
  have k := a3 i i0 i1
  have k4 := h4 i i0 (by omega)
  rw [h1 59 i (by omega) (by omega), h1 60 i (by omega) (by omega), h1 61 i (by omega) (by omega), h1 62 i (by omega) (by omega), h1 87 i (by omega) (by omega), h1 88 i (by omega) (by omega), k4.2.2.1, k4.2.2.2]
  exact ⟨k.1, k.2.1, k.2.2.1, k.2.2.2.1, by decide, Or.inl rfl, k.2.2.2.2.2.2⟩
theorem kC_p {mi m : aM} (h : kC mi m) (hp : pM mi) : pM m := by
  intro w w0 w1
  obtain ⟨a, b⟩ := hp w w0 w1
  refine ⟨by rw [h.1 73 w (by omega) (by omega)]; exact a, fun k k0 k1 => ?_⟩
  rw [h.1 73 w (by omega) (by omega)] at k1
  rw [h.1 72 _ (by omega) (by omega)]
  exact b k k0 k1
theorem kC_Z {mi m : aM} (h : kC mi m) (hB : mB mi) (w s : Int) : okZ m w s = okF mi w s := by
  obtain ⟨h1, h2, h3, h4, h5⟩ := h
  have hn := hB.1
  have e6 : m 58 6 = mi 58 6 := h1 _ _ (by omega) (by omega)
  have e73 : m 73 w = mi 73 w := h1 _ _ (by omega) (by omega)
  have eS : (fun k => m 72 (100 * w + k)) = fun k => mi 72 (100 * w + k) := funext fun k => h1 _ _ (by omega) (by omega)
  unfold okZ okF
  rw [e6, e73, eS]
  rw [plL_congr (F := eZ mi) (dk := dM mi) _ _ (fun x hx => ?_)]
  have hm := outL_mem _ _ hx
  have k4 := h4 x.1 hm.1 (by omega)
  refine ⟨fun L t => ?_, ?_⟩
  · unfold eM eZ
    rw [h2, h1 58 7 (by omega) (by omega), k4.2.2.1, k4.2.2.2, h1 59 _ (by omega) (by omega), h1 60 _ (by omega) (by omega)]
  · exact h1 59 _ (by omega) (by omega)
/-- while all is put back -/
def kD (mi m : aM) (zA zB : Int) : Prop := (∀ (x : Nat) (j : Int), (x ≠ 63 ∧ x ≠ 86 ∧ (x < 67 ∨ (70 < x ∧ x < 75) ∨ 79 < x)) → m x j = mi x j) ∧ (∀ j : Int, 0 ≤ j → j < mi 58 18 → m 75 j = mi 67 j ∧ m 76 j = mi 68 j ∧ m 77 j = mi 69 j) ∧ (∀ j : Int, 0 ≤ j → j < 12 → m 78 j = mi 63 j ∧ m 79 j = mi 86 j) ∧ (∀ j : Int, 0 ≤ j → j < zA → m 67 j = mi 67 j ∧ m 68 j = mi 68 j ∧ m 69 j = mi 69 j) ∧ (∀ j : Int, j < zB ∨ 12 ≤ j → m 63 j = mi 63 j ∧ m 86 j = mi 86 j)
theorem kD_of {mi m : aM} (h : kC mi m) : kD mi (aup (aup m 58 9 (mi 58 9)) 58 18 (mi 58 18)) 0 0 := by
  obtain ⟨h1, h2, h3, h4, h5⟩ := h
  have g : ∀ (x : Nat) (j : Int), x ≠ 58 → aup (aup m 58 9 (mi 58 9)) 58 18 (mi 58 18) x j = m x j := fun x j q => by rw [aup_a q, aup_a q]
  refine ⟨fun x j hx => ?_, fun j j0 j1 => ?_, fun j j0 j1 => ?_, fun j j0 j1 => by omega, fun j hj => ?_⟩
  · by_cases e : x = 58
    · subst e
      by_cases e18 : j = 18
      · subst e18; exact aup_eq _ _ _ _
      · rw [aup_k e18]
        by_cases e9 : j = 9
        · subst e9; exact aup_eq _ _ _ _
        · rw [aup_k e9]; exact h1 _ _ hx (Or.inr ⟨e9, e18⟩)
    · rw [g x j e]; exact h1 _ _ hx (Or.inl e)
  · rw [g _ _ (by decide), g _ _ (by decide), g _ _ (by decide)]; exact h3 j j0 j1
  · rw [g _ _ (by decide), g _ _ (by decide)]; exact ⟨(h4 j j0 j1).1, (h4 j j0 j1).2.1⟩
  · rw [g _ _ (by decide), g _ _ (by decide)]; exact h5 j hj
theorem kD_A {mi m : aM} {z : Int} (h : kD mi m z 0) (hz : 0 ≤ z ∧ z < mi 58 18) : kD mi (aup (aup (aup m 67 z (m 75 z)) 68 z (m 76 z)) 69 z (m 77 z)) (z + 1) 0 := by
  obtain ⟨h1, h2, h3, h4, h5⟩ := h
  have g : ∀ (x : Nat) (j : Int), x < 67 ∨ 69 < x → aup (aup (aup m 67 z (m 75 z)) 68 z (m 76 z)) 69 z (m 77 z) x j = m x j := fun x j q => by rw [aup_a (by omega), aup_a (by omega), aup_a (by omega)]
  refine ⟨fun x j hx => ?_, fun j j0 j1 => ?_, fun j j0 j1 => ?_, fun j j0 j1 => ?_, fun j hj => ?_⟩
  · rw [g x j (by omega)]; exact h1 x j hx
  · rw [g _ _ (by omega), g _ _ (by omega), g _ _ (by omega)]; exact h2 j j0 j1
  · rw [g _ _ (by omega), g _ _ (by omega)]; exact h3 j j0 j1
  · by_cases e : j = z
    · subst e
      rw [aup_a (by decide), aup_a (by decide), aup_eq, aup_a (by decide), aup_eq, aup_eq]
      exact h2 j hz.1 hz.2
    · rw [aup_a (by decide), aup_a (by decide), aup_k e, aup_a (by decide), aup_k e, aup_a (by decide), aup_k e, aup_a (by decide), aup_a (by decide)]
      exact h4 j j0 (by omega)
  · rw [g _ _ (by omega), g _ _ (by omega)]; exact h5 j hj
theorem kD_B {mi m : aM} {zA z : Int} (h : kD mi m zA z) (hz : 0 ≤ z ∧ z < 12) : kD mi (aup (aup m 63 z (m 78 z)) 86 z (m 79 z)) zA (z + 1) := by
  obtain ⟨h1, h2, h3, h4, h5⟩ := h
  have g : ∀ (x : Nat) (j : Int), x ≠ 63 → x ≠ 86 → aup (aup m 63 z (m 78 z)) 86 z (m 79 z) x j = m x j := fun x j q r => by rw [aup_a r, aup_a q]
  refine ⟨fun x j hx => ?_, fun j j0 j1 => ?_, fun j j0 j1 => ?_, fun j j0 j1 => ?_, fun j hj => ?_⟩
  · rw [g x j hx.1 hx.2.1]; exact h1 x j hx
  · rw [g _ _ (by decide) (by decide), g _ _ (by decide) (by decide), g _ _ (by decide) (by decide)]; exact h2 j j0 j1
  · rw [g _ _ (by decide) (by decide), g _ _ (by decide) (by decide)]; exact h3 j j0 j1
  · rw [g _ _ (by decide) (by decide), g _ _ (by decide) (by decide), g _ _ (by decide) (by decide)]; exact h4 j j0 j1
  · by_cases e : j = z
    · subst e
      rw [aup_a (by decide), aup_eq, aup_eq]
      exact h3 j hz.1 hz.2
    · rw [aup_k e, aup_k e, aup_k e, aup_k e]
      exact h5 j (by omega)
/-- all as it was but the places to keep -/
def frK (mi m : aM) : Prop := (∀ (x : Nat) (j : Int), (x < 67 ∨ (70 < x ∧ x < 75) ∨ 79 < x) → m x j = mi x j) ∧ ∀ j : Int, 0 ≤ j → j < mi 58 18 → m 67 j = mi 67 j ∧ m 68 j = mi 68 j ∧ m 69 j = mi 69 j
theorem kD_end {mi m : aM} (h : kD mi m (mi 58 18) 12) : frK mi m := by
  obtain ⟨h1, h2, h3, h4, h5⟩ := h
  refine ⟨fun x j hx => ?_, h4⟩
  by_cases e : x = 63
  · subst e; exact (h5 j (by omega)).1
  · by_cases e2 : x = 86
    · subst e2; exact (h5 j (by omega)).2
    · exact h1 x j ⟨e, e2, hx⟩
theorem innL_len9 (x t : Int) : ∀ c b : Nat, (innL x t c b).length ≤ c
  | 0, _ => Nat.le_refl _
  | c + 1, b => by
    unfold innL
    split
    · rw [List.length_cons]; have := innL_len9 x t c (b + 1); omega
    · have := innL_len9 x t c (b + 1); omega
theorem outL_len9 (S : Int → Int) (NB : Nat) (T s : Int) : ∀ c k : Nat, (outL S NB T s c k).length ≤ c * NB
  | 0, _ => Nat.zero_le _
  | c + 1, k => by
    unfold outL
    rw [List.length_append, Nat.add_mul]
    have h1 := innL_len9 (S k) (T + k * s) NB 0
    have h2 := outL_len9 S NB T s c (k + 1)
    omega
theorem s_X7_isPlayable {mr : aR} (hR : Rok mr) {mi : aM} {w s : Int} (hB : mB mi) (hpl : 1 ≤ mi 58 7 ∧ mi 58 7 ≤ 12) (hp : pM mi) (hw : 0 ≤ w ∧ w < 5) (hs : 1 ≤ s ∧ s ≤ 200) : SPg yX7_isPlayable cX7_isPlayable 3 (some .boolean) 4 [.ref 58, iI w, iI s] mi mr (Pi mr (fun r m => ((r = 1 ∧ okZ mi w s = 0) ∨ (r = 0 ∧ okZ mi w s ≠ 0)) ∧ frM mi m ∧ mOk m)) := by
  refine SPg.bool rfl (by decide +kernel) (Nat.le_of_ble_eq_true rfl) (fun r m h => by omega) ?_
  show AWm RX7 cX7_isPlayable 3 4 _ 0 [(0, .ref 58), (1, iI w), (2, iI s)] [] mi mr
  refine aw_aload_n (i := 0) (q := 0) dX7_isPlayable_0 rfl rfl ?_
  refine aw_iconst dX7_isPlayable_1 ?_
  refine aw_putIk 18 flX7_171 SH_58 (by decide) rfl rfl rfl (by decide) dX7_isPlayable_2 ?_
  refine aw_aload_n (i := 0) (q := 0) dX7_isPlayable_5 rfl rfl ?_
  refine aw_iload_n (i := 1) (q := 1) dX7_isPlayable_6 rfl rfl ?_
  refine aw_sipush (x := 1000) dX7_isPlayable_7 rfl ?_
  refine aw_iload_n (i := 2) (q := 2) dX7_isPlayable_10 rfl rfl ?_
  refine aw_cVi (As := [iI w, iI 1000, iI s]) (st := []) clX7_260 (s_X7_plays (mi := aup mi 58 18 0) hR (mB_fr (frM_0 mi 0) hB) (mOk_none (aup_eq _ _ _ _)) (by rw [aup_k (by decide)]; exact hpl) (pM_fr (frM_0 mi 0) hp) hw (by decide) hs) SH_58 rfl (by decide) rfl rfl (Nat.le_of_ble_eq_true rfl) (by decide) (by decide) (Nat.le_refl _) (Nat.le_refl _) dX7_isPlayable_11 (fun v11 m2 hv11 => ?_)
  obtain ⟨ho2, hf2, hv⟩ := hv11
  have hX := okZ_fr (frM_0 mi 0) w s
  unfold okZ at hX
  rw [← mL_none (m := aup mi 58 18 0) (aup_eq _ _ _ _)] at hX
  have hr9 := plM_rng (mi := mi) (outL (fun k => mi 72 (100 * w + k)) (mi 58 6).toNat 1000 s (mi 73 w).toNat 0) []
  have hk9 : (okZ mi w s = 0 ∧ 0 ≤ v11 ∧ v11 ≤ 200000000) ∨ (okZ mi w s ≠ 0 ∧ v11 < 0 ∧ -8 ≤ v11) := by
    unfold okZ
    rw [mL_none (m := aup mi 58 18 0) (aup_eq _ _ _ _)] at hX hv
    rcases hv with ⟨q1, q2, -⟩ | ⟨q1, q2, -⟩
    · right; rw [← hX]; rw [← hX] at hr9; omega
    · left; rw [← hX]; have hl := outL_len9 (fun k => (aup mi 58 18 0) 72 (100 * w + k)) ((aup mi 58 18 0) 58 6).toNat 1000 s ((aup mi 58 18 0) 73 w).toNat 0; have hn9 := hB.1; have hp9 := (hp w hw.1 hw.2).1; rw [aup_k (by decide), aup_a (by decide)] at hl; rw [aup_k (by decide), aup_a (by decide)] at q2; refine ⟨q1, by omega, ?_⟩; have : (mi 73 w).toNat * (mi 58 6).toNat ≤ 100 * 12 := Nat.mul_le_mul (by omega) (by omega); omega
  refine aw_if_lt (tgt := 21) dX7_isPlayable_14 (by decide) (by first | assumption | omega) (fun c14 => ?_) (fun c14 => ?_)
  · refine aw_iconst dX7_isPlayable_21 ?_
    exact aw_iret ⟨_, rfl, rfl, rfl, by omega, frM_tr (frM_0 mi 0) hf2, ho2⟩ (Nat.le_refl _) (Nat.le_refl _) dX7_isPlayable_22
  · refine aw_iconst dX7_isPlayable_17 ?_
    refine aw_goto (tgt := 22) dX7_isPlayable_18 (by decide) ?_
    exact aw_iret ⟨_, rfl, rfl, rfl, by omega, frM_tr (frM_0 mi 0) hf2, ho2⟩ (Nat.le_refl _) (Nat.le_refl _) dX7_isPlayable_22
theorem l_fE {mr : aR} (hR : Rok mr) {mi : aM} {w t : Int} (hB : mB mi) (hpl : 1 ≤ mi 58 7 ∧ mi 58 7 ≤ 12) (hp : pM mi) (hw : 0 ≤ w ∧ w < 5) (h0 : mi 73 w ≠ 0) (ho : mOk mi) (h86 : ∀ j : Int, 0 ≤ j → j < 12 → mi 86 j = 0 ∨ mi 86 j = 1) (htr : 1 ≤ t ∧ t ≤ 201) (htn : ∀ u : Int, 1 ≤ u → u < t → okF mi w u ≠ 0) (hty : t ≤ 200 → okF mi w t = 0) : ∀ (n : Nat) (m : aM) (z : Int), kD mi m (mi 58 18) z → (0 ≤ z ∧ z ≤ 12) → 12 - z < n → AWm RX7 cX7_fastestTicks 6 5 (Pi mr (fun r m => (¬ (0 ≤ w ∧ w < 5) ∧ r = -2 ∧ m = mi) ∨ ((0 ≤ w ∧ w < 5) ∧ ((mi 73 w = 0 ∧ r = -9 ∧ m = mi) ∨ (mi 73 w ≠ 0 ∧ frK mi m ∧ ((r = -1 ∧ ∀ u : Int, 1 ≤ u → u ≤ 200 → okF mi w u ≠ 0) ∨ (1 ≤ r ∧ r ≤ 200 ∧ okF mi w r = 0 ∧ ∀ u : Int, 1 ≤ u → u < r → okF mi w u ≠ 0))))))) 256 [(0, .ref 58), (1, iI w), (2, iI (mi 58 18)), (3, iI (mi 58 9)), (4, iI t), (5, iI z)] [] m mr := by
  intro n
  induction n with
  | zero => intro m z hk h2 h3; omega
  | succ n ih =>
    intro m z hk h2 h3
    have hc1 := ho.1
    have hnw := hB.2.1
    refine aw_iload (i := 5) (q := 5) dX7_fastestTicks_256 rfl ?_
    refine aw_bipush (x := 12) dX7_fastestTicks_258 rfl ?_
    refine aw_icmp_ge (tgt := 297) dX7_fastestTicks_260 (by decide) (by first | assumption | omega) (by decide) (fun c260 => ?_) (fun c260 => ?_)
    · refine aw_iload (i := 4) (q := 4) dX7_fastestTicks_297 rfl ?_
      refine aw_sipush (x := 200) dX7_fastestTicks_299 rfl ?_
      refine aw_icmp_le (tgt := 309) dX7_fastestTicks_302 (by decide) (by first | assumption | omega) (by decide) (fun c302 => ?_) (fun c302 => ?_)
      · refine aw_iload (i := 4) (q := 4) dX7_fastestTicks_309 rfl ?_
        exact aw_iret ⟨_, rfl, rfl, rfl, Or.inr ⟨hw, Or.inr ⟨h0, kD_end (by rw [show (12 : Int) = z by omega]; exact hk), Or.inr ⟨by omega, by omega, hty (by omega), htn⟩⟩⟩⟩ (Nat.le_refl _) (Nat.le_refl _) dX7_fastestTicks_311
      · refine aw_iconst dX7_fastestTicks_305 ?_
        refine aw_goto (tgt := 311) dX7_fastestTicks_306 (by decide) ?_
        exact aw_iret ⟨_, rfl, rfl, rfl, Or.inr ⟨hw, Or.inr ⟨h0, kD_end (by rw [show (12 : Int) = z by omega]; exact hk), Or.inl ⟨rfl, fun u u0 u1 => htn u u0 (by omega)⟩⟩⟩⟩ (Nat.le_refl _) (Nat.le_refl _) dX7_fastestTicks_311
    · have hk3 := hk.2.2.1 z (by omega) (by omega)
      have h869 := h86 z (by omega) (by omega)
      refine aw_aload_n (i := 0) (q := 0) dX7_fastestTicks_263 rfl rfl ?_
      refine aw_getR (r := 63) flX7_26 SH_58 (by decide) rfl (rk_58_5 hR) dX7_fastestTicks_264 ?_
      refine aw_iload (i := 5) (q := 5) dX7_fastestTicks_267 rfl ?_
      refine aw_aload_n (i := 0) (q := 0) dX7_fastestTicks_269 rfl rfl ?_
      refine aw_getR (r := 78) flX7_75 SH_58 (by decide) rfl (rk_58_34 hR) dX7_fastestTicks_270 ?_
      refine aw_iload (i := 5) (q := 5) dX7_fastestTicks_273 rfl ?_
      refine aw_ialdv (x := m 78 z) SH_78 (by decide) ⟨by omega, by omega⟩ rfl dX7_fastestTicks_275 (fun r275 => ?_)
      refine aw_iast SH_63 (by decide) ⟨by omega, by omega⟩ (by first | assumption | omega) dX7_fastestTicks_276 ?_
      refine aw_aload_n (i := 0) (q := 0) dX7_fastestTicks_277 rfl rfl ?_
      refine aw_getR (r := 86) flX7_99 SH_58 (by decide) rfl (rk_58_44 hR) dX7_fastestTicks_278 ?_
      refine aw_iload (i := 5) (q := 5) dX7_fastestTicks_281 rfl ?_
      refine aw_aload_n (i := 0) (q := 0) dX7_fastestTicks_283 rfl rfl ?_
      refine aw_getR (r := 79) flX7_78 SH_58 (by decide) rfl (rk_58_35 hR) dX7_fastestTicks_284 ?_
      refine aw_iload (i := 5) (q := 5) dX7_fastestTicks_287 rfl ?_
      refine aw_zaldv (x := m 79 z) SH_79 (by decide) ⟨by omega, by omega⟩ (by (rw [aup_a (by decide)]) <;> rfl) dX7_fastestTicks_289 (fun r289 => ?_)
      refine aw_zast SH_86 (by decide) ⟨by omega, by omega⟩ (by omega) dX7_fastestTicks_290 ?_
      refine aw_iinc (i := 5) (q := 5) (x := z) (lv' := [(0, .ref 58), (1, iI w), (2, iI (mi 58 18)), (3, iI (mi 58 9)), (4, iI t), (5, iI (z + 1))]) [1, 2, 3, 4, 5, 0] dX7_fastestTicks_291 rfl (by decide) rfl ?_
      refine aw_goto (tgt := 256) dX7_fastestTicks_294 (by decide) ?_
      exact ih _ (z + 1) (kD_B hk ⟨by omega, by omega⟩) (by omega) (by omega)
theorem l_fD {mr : aR} (hR : Rok mr) {mi : aM} {w t : Int} (hB : mB mi) (hpl : 1 ≤ mi 58 7 ∧ mi 58 7 ≤ 12) (hp : pM mi) (hw : 0 ≤ w ∧ w < 5) (h0 : mi 73 w ≠ 0) (ho : mOk mi) (h86 : ∀ j : Int, 0 ≤ j → j < 12 → mi 86 j = 0 ∨ mi 86 j = 1) (htr : 1 ≤ t ∧ t ≤ 201) (htn : ∀ u : Int, 1 ≤ u → u < t → okF mi w u ≠ 0) (hty : t ≤ 200 → okF mi w t = 0) : ∀ (n : Nat) (m : aM) (z : Int), kD mi m z 0 → (0 ≤ z ∧ z ≤ mi 58 18) → mi 58 18 - z < n → AWm RX7 cX7_fastestTicks 6 5 (Pi mr (fun r m => (¬ (0 ≤ w ∧ w < 5) ∧ r = -2 ∧ m = mi) ∨ ((0 ≤ w ∧ w < 5) ∧ ((mi 73 w = 0 ∧ r = -9 ∧ m = mi) ∨ (mi 73 w ≠ 0 ∧ frK mi m ∧ ((r = -1 ∧ ∀ u : Int, 1 ≤ u → u ≤ 200 → okF mi w u ≠ 0) ∨ (1 ≤ r ∧ r ≤ 200 ∧ okF mi w r = 0 ∧ ∀ u : Int, 1 ≤ u → u < r → okF mi w u ≠ 0))))))) 199 [(0, .ref 58), (1, iI w), (2, iI (mi 58 18)), (3, iI (mi 58 9)), (4, iI t), (5, iI z)] [] m mr := by
  intro n
  induction n with
  | zero => intro m z hk h2 h3; omega
  | succ n ih =>
    intro m z hk h2 h3
    have hc1 := ho.1
    have hnw := hB.2.1
    refine aw_iload (i := 5) (q := 5) dX7_fastestTicks_199 rfl ?_
    refine aw_iload_n (i := 2) (q := 2) dX7_fastestTicks_201 rfl rfl ?_
    refine aw_icmp_ge (tgt := 253) dX7_fastestTicks_202 (by decide) (by first | assumption | omega) (by first | assumption | omega) (fun c202 => ?_) (fun c202 => ?_)
    · refine aw_iconst dX7_fastestTicks_253 ?_
      refine aw_istore (i := 5) (lv' := [(0, .ref 58), (1, iI w), (2, iI (mi 58 18)), (3, iI (mi 58 9)), (4, iI t), (5, iI 0)]) [1, 2, 3, 4, 5, 0] dX7_fastestTicks_254 (by decide) rfl ?_
      exact l_fE hR hB hpl hp hw h0 ho h86 htr htn hty 13 m 0 (by rw [← show z = mi 58 18 by omega]; exact hk) (by omega) (by omega)
    · refine aw_aload_n (i := 0) (q := 0) dX7_fastestTicks_205 rfl rfl ?_
      refine aw_getR (r := 67) flX7_39 SH_58 (by decide) rfl (rk_58_14 hR) dX7_fastestTicks_206 ?_
      refine aw_iload (i := 5) (q := 5) dX7_fastestTicks_209 rfl ?_
      refine aw_aload_n (i := 0) (q := 0) dX7_fastestTicks_211 rfl rfl ?_
      refine aw_getR (r := 75) flX7_66 SH_58 (by decide) rfl (rk_58_31 hR) dX7_fastestTicks_212 ?_
      refine aw_iload (i := 5) (q := 5) dX7_fastestTicks_215 rfl ?_
      refine aw_ialdv (x := m 75 z) SH_75 (by decide) ⟨by omega, by omega⟩ rfl dX7_fastestTicks_217 (fun r217 => ?_)
      refine aw_iast SH_67 (by decide) ⟨by omega, by omega⟩ (by first | assumption | omega) dX7_fastestTicks_218 ?_
      refine aw_aload_n (i := 0) (q := 0) dX7_fastestTicks_219 rfl rfl ?_
      refine aw_getR (r := 68) flX7_42 SH_58 (by decide) rfl (rk_58_15 hR) dX7_fastestTicks_220 ?_
      refine aw_iload (i := 5) (q := 5) dX7_fastestTicks_223 rfl ?_
      refine aw_aload_n (i := 0) (q := 0) dX7_fastestTicks_225 rfl rfl ?_
      refine aw_getR (r := 76) flX7_69 SH_58 (by decide) rfl (rk_58_32 hR) dX7_fastestTicks_226 ?_
      refine aw_iload (i := 5) (q := 5) dX7_fastestTicks_229 rfl ?_
      refine aw_ialdv (x := m 76 z) SH_76 (by decide) ⟨by omega, by omega⟩ (by (rw [aup_a (by decide)]) <;> rfl) dX7_fastestTicks_231 (fun r231 => ?_)
      refine aw_iast SH_68 (by decide) ⟨by omega, by omega⟩ (by first | assumption | omega) dX7_fastestTicks_232 ?_
      refine aw_aload_n (i := 0) (q := 0) dX7_fastestTicks_233 rfl rfl ?_
      refine aw_getR (r := 69) flX7_45 SH_58 (by decide) rfl (rk_58_16 hR) dX7_fastestTicks_234 ?_
      refine aw_iload (i := 5) (q := 5) dX7_fastestTicks_237 rfl ?_
      refine aw_aload_n (i := 0) (q := 0) dX7_fastestTicks_239 rfl rfl ?_
      refine aw_getR (r := 77) flX7_72 SH_58 (by decide) rfl (rk_58_33 hR) dX7_fastestTicks_240 ?_
      refine aw_iload (i := 5) (q := 5) dX7_fastestTicks_243 rfl ?_
      refine aw_ialdv (x := m 77 z) SH_77 (by decide) ⟨by omega, by omega⟩ (by (rw [aup_a (by decide), aup_a (by decide)]) <;> rfl) dX7_fastestTicks_245 (fun r245 => ?_)
      refine aw_iast SH_69 (by decide) ⟨by omega, by omega⟩ (by first | assumption | omega) dX7_fastestTicks_246 ?_
      refine aw_iinc (i := 5) (q := 5) (x := z) (lv' := [(0, .ref 58), (1, iI w), (2, iI (mi 58 18)), (3, iI (mi 58 9)), (4, iI t), (5, iI (z + 1))]) [1, 2, 3, 4, 5, 0] dX7_fastestTicks_247 rfl (by decide) rfl ?_
      refine aw_goto (tgt := 199) dX7_fastestTicks_250 (by decide) ?_
      exact ih _ (z + 1) (kD_A hk ⟨by omega, by omega⟩) (by omega) (by omega)
theorem l_fC {mr : aR} (hR : Rok mr) {mi : aM} {w : Int} (hB : mB mi) (hpl : 1 ≤ mi 58 7 ∧ mi 58 7 ≤ 12) (hp : pM mi) (hw : 0 ≤ w ∧ w < 5) (h0 : mi 73 w ≠ 0) (ho : mOk mi) (h86 : ∀ j : Int, 0 ≤ j → j < 12 → mi 86 j = 0 ∨ mi 86 j = 1) : ∀ (n : Nat) (m : aM) (t : Int), kC mi m → (∀ u : Int, 1 ≤ u → u < t → okF mi w u ≠ 0) → (1 ≤ t ∧ t ≤ 201) → 201 - t < n → AWm RX7 cX7_fastestTicks 6 5 (Pi mr (fun r m => (¬ (0 ≤ w ∧ w < 5) ∧ r = -2 ∧ m = mi) ∨ ((0 ≤ w ∧ w < 5) ∧ ((mi 73 w = 0 ∧ r = -9 ∧ m = mi) ∨ (mi 73 w ≠ 0 ∧ frK mi m ∧ ((r = -1 ∧ ∀ u : Int, 1 ≤ u → u ≤ 200 → okF mi w u ≠ 0) ∨ (1 ≤ r ∧ r ≤ 200 ∧ okF mi w r = 0 ∧ ∀ u : Int, 1 ≤ u → u < r → okF mi w u ≠ 0))))))) 162 [(0, .ref 58), (1, iI w), (2, iI (mi 58 18)), (3, iI (mi 58 9)), (4, iI t)] [] m mr := by
  intro n
  induction n with
  | zero => intro m t hk htn h2 h3; omega
  | succ n ih =>
    intro m t hk htn h2 h3
    have hc1 := ho.1
    have hnw := hB.2.1
    refine aw_iload (i := 4) (q := 4) dX7_fastestTicks_162 rfl ?_
    refine aw_sipush (x := 200) dX7_fastestTicks_164 rfl ?_
    refine aw_icmp_gt (tgt := 186) dX7_fastestTicks_167 (by decide) (by first | assumption | omega) (by decide) (fun c167 => ?_) (fun c167 => ?_)
    · refine aw_aload_n (i := 0) (q := 0) dX7_fastestTicks_186 rfl rfl ?_
      refine aw_iload_n (i := 3) (q := 3) dX7_fastestTicks_187 rfl rfl ?_
      refine aw_putIk 9 flX7_158 SH_58 (by decide) rfl rfl rfl (by first | assumption | omega) dX7_fastestTicks_188 ?_
      refine aw_aload_n (i := 0) (q := 0) dX7_fastestTicks_191 rfl rfl ?_
      refine aw_iload_n (i := 2) (q := 2) dX7_fastestTicks_192 rfl rfl ?_
      refine aw_putIk 18 flX7_171 SH_58 (by decide) rfl rfl rfl (by first | assumption | omega) dX7_fastestTicks_193 ?_
      refine aw_iconst dX7_fastestTicks_196 ?_
      refine aw_istore (i := 5) (lv' := [(0, .ref 58), (1, iI w), (2, iI (mi 58 18)), (3, iI (mi 58 9)), (4, iI t), (5, iI 0)]) [1, 2, 3, 4, 5, 0] dX7_fastestTicks_197 (by decide) rfl ?_
      exact l_fD hR hB hpl hp hw h0 ho h86 (by omega) htn (by omega) ((mi 58 18).toNat + 1) _ 0 (kD_of hk) (by omega) (by omega)
    · refine aw_aload_n (i := 0) (q := 0) dX7_fastestTicks_170 rfl rfl ?_
      refine aw_iload_n (i := 1) (q := 1) dX7_fastestTicks_171 rfl rfl ?_
      refine aw_iload (i := 4) (q := 4) dX7_fastestTicks_172 rfl ?_
      refine aw_cVi (As := [iI w, iI t]) (st := []) clX7_270 (s_X7_isPlayable (mi := m) hR (kC_B hk hB) (by rw [hk.1 58 7 (by omega) (by omega)]; exact hpl) (kC_p hk hp) hw (by omega)) SH_58 rfl (by decide) rfl rfl (Nat.le_of_ble_eq_true rfl) (by decide) (by decide) (Nat.le_refl _) (Nat.le_refl _) dX7_fastestTicks_174 (fun v174 m1 hv174 => ?_)
      obtain ⟨hv8, hf8, ho8⟩ := hv174
      rw [kC_Z hk hB] at hv8
      have hk1 := kC_fr hk hf8
      refine aw_if_ne (tgt := 186) dX7_fastestTicks_177 (by decide) (by first | assumption | omega) (fun c177 => ?_) (fun c177 => ?_)
      · refine aw_aload_n (i := 0) (q := 0) dX7_fastestTicks_186 rfl rfl ?_
        refine aw_iload_n (i := 3) (q := 3) dX7_fastestTicks_187 rfl rfl ?_
        refine aw_putIk 9 flX7_158 SH_58 (by decide) rfl rfl rfl (by first | assumption | omega) dX7_fastestTicks_188 ?_
        refine aw_aload_n (i := 0) (q := 0) dX7_fastestTicks_191 rfl rfl ?_
        refine aw_iload_n (i := 2) (q := 2) dX7_fastestTicks_192 rfl rfl ?_
        refine aw_putIk 18 flX7_171 SH_58 (by decide) rfl rfl rfl (by first | assumption | omega) dX7_fastestTicks_193 ?_
        refine aw_iconst dX7_fastestTicks_196 ?_
        refine aw_istore (i := 5) (lv' := [(0, .ref 58), (1, iI w), (2, iI (mi 58 18)), (3, iI (mi 58 9)), (4, iI t), (5, iI 0)]) [1, 2, 3, 4, 5, 0] dX7_fastestTicks_197 (by decide) rfl ?_
        exact l_fD hR hB hpl hp hw h0 ho h86 (by omega) htn (by omega) ((mi 58 18).toNat + 1) _ 0 (kD_of hk1) (by omega) (by omega)
      · refine aw_iinc (i := 4) (q := 4) (x := t) (lv' := [(0, .ref 58), (1, iI w), (2, iI (mi 58 18)), (3, iI (mi 58 9)), (4, iI (t + 1))]) [1, 2, 3, 4, 0] dX7_fastestTicks_180 rfl (by decide) rfl ?_
        refine aw_goto (tgt := 162) dX7_fastestTicks_183 (by decide) ?_
        exact ih m1 (t + 1) hk1 (fun u u0 u1 => by by_cases e9 : u = t; (subst e9; omega); (exact htn u u0 (by omega))) (by omega) (by omega)
theorem l_fB {mr : aR} (hR : Rok mr) {mi : aM} {w : Int} (hB : mB mi) (hpl : 1 ≤ mi 58 7 ∧ mi 58 7 ≤ 12) (hp : pM mi) (hw : 0 ≤ w ∧ w < 5) (h0 : mi 73 w ≠ 0) (ho : mOk mi) (h86 : ∀ j : Int, 0 ≤ j → j < 12 → mi 86 j = 0 ∨ mi 86 j = 1) : ∀ (n : Nat) (m : aM) (z : Int), kB mi m (mi 58 18) z → (0 ≤ z ∧ z ≤ 12) → 12 - z < n → AWm RX7 cX7_fastestTicks 6 5 (Pi mr (fun r m => (¬ (0 ≤ w ∧ w < 5) ∧ r = -2 ∧ m = mi) ∨ ((0 ≤ w ∧ w < 5) ∧ ((mi 73 w = 0 ∧ r = -9 ∧ m = mi) ∨ (mi 73 w ≠ 0 ∧ frK mi m ∧ ((r = -1 ∧ ∀ u : Int, 1 ≤ u → u ≤ 200 → okF mi w u ≠ 0) ∨ (1 ≤ r ∧ r ≤ 200 ∧ okF mi w r = 0 ∧ ∀ u : Int, 1 ≤ u → u < r → okF mi w u ≠ 0))))))) 97 [(0, .ref 58), (1, iI w), (2, iI (mi 58 18)), (3, iI (mi 58 9)), (4, iI z)] [] m mr := by
  intro n
  induction n with
  | zero => intro m z hk h2 h3; omega
  | succ n ih =>
    intro m z hk h2 h3
    have hc1 := ho.1
    have hnw := hB.2.1
    refine aw_iload (i := 4) (q := 4) dX7_fastestTicks_97 rfl ?_
    refine aw_bipush (x := 12) dX7_fastestTicks_99 rfl ?_
    refine aw_icmp_ge (tgt := 154) dX7_fastestTicks_101 (by decide) (by first | assumption | omega) (by decide) (fun c101 => ?_) (fun c101 => ?_)
    · refine aw_aload_n (i := 0) (q := 0) dX7_fastestTicks_154 rfl rfl ?_
      refine aw_iconst dX7_fastestTicks_155 ?_
      refine aw_putIk 9 flX7_158 SH_58 (by decide) rfl rfl rfl (by decide) dX7_fastestTicks_156 ?_
      refine aw_iconst dX7_fastestTicks_159 ?_
      refine aw_istore (i := 4) (lv' := [(0, .ref 58), (1, iI w), (2, iI (mi 58 18)), (3, iI (mi 58 9)), (4, iI 1)]) [1, 2, 3, 4, 0] dX7_fastestTicks_160 (by decide) rfl ?_
      exact l_fC hR hB hpl hp hw h0 ho h86 202 _ 1 (kC_of (by rw [show (12 : Int) = z by omega]; exact hk)) (fun u u0 u1 => by omega) (by omega) (by omega)
    · have hk3 := hk.2.2.2 z (Or.inr (Int.le_refl _))
      have h869 := h86 z (by omega) (by omega)
      refine aw_aload_n (i := 0) (q := 0) dX7_fastestTicks_104 rfl rfl ?_
      refine aw_getR (r := 78) flX7_75 SH_58 (by decide) rfl (rk_58_34 hR) dX7_fastestTicks_105 ?_
      refine aw_iload (i := 4) (q := 4) dX7_fastestTicks_108 rfl ?_
      refine aw_aload_n (i := 0) (q := 0) dX7_fastestTicks_110 rfl rfl ?_
      refine aw_getR (r := 63) flX7_26 SH_58 (by decide) rfl (rk_58_5 hR) dX7_fastestTicks_111 ?_
      refine aw_iload (i := 4) (q := 4) dX7_fastestTicks_114 rfl ?_
      refine aw_ialdv (x := m 63 z) SH_63 (by decide) ⟨by omega, by omega⟩ rfl dX7_fastestTicks_116 (fun r116 => ?_)
      refine aw_iast SH_78 (by decide) ⟨by omega, by omega⟩ (by first | assumption | omega) dX7_fastestTicks_117 ?_
      refine aw_aload_n (i := 0) (q := 0) dX7_fastestTicks_118 rfl rfl ?_
      refine aw_getR (r := 79) flX7_78 SH_58 (by decide) rfl (rk_58_35 hR) dX7_fastestTicks_119 ?_
      refine aw_iload (i := 4) (q := 4) dX7_fastestTicks_122 rfl ?_
      refine aw_aload_n (i := 0) (q := 0) dX7_fastestTicks_124 rfl rfl ?_
      refine aw_getR (r := 86) flX7_99 SH_58 (by decide) rfl (rk_58_44 hR) dX7_fastestTicks_125 ?_
      refine aw_iload (i := 4) (q := 4) dX7_fastestTicks_128 rfl ?_
      refine aw_zaldv (x := m 86 z) SH_86 (by decide) ⟨by omega, by omega⟩ (by (rw [aup_a (by decide)]) <;> rfl) dX7_fastestTicks_130 (fun r130 => ?_)
      refine aw_zast SH_79 (by decide) ⟨by omega, by omega⟩ (by omega) dX7_fastestTicks_131 ?_
      refine aw_aload_n (i := 0) (q := 0) dX7_fastestTicks_132 rfl rfl ?_
      refine aw_getR (r := 63) flX7_26 SH_58 (by decide) rfl (rk_58_5 hR) dX7_fastestTicks_133 ?_
      refine aw_iload (i := 4) (q := 4) dX7_fastestTicks_136 rfl ?_
      refine aw_iconst dX7_fastestTicks_138 ?_
      refine aw_iast SH_63 (by decide) ⟨by omega, by omega⟩ (by decide) dX7_fastestTicks_139 ?_
      refine aw_aload_n (i := 0) (q := 0) dX7_fastestTicks_140 rfl rfl ?_
      refine aw_getR (r := 86) flX7_99 SH_58 (by decide) rfl (rk_58_44 hR) dX7_fastestTicks_141 ?_
      refine aw_iload (i := 4) (q := 4) dX7_fastestTicks_144 rfl ?_
      refine aw_iconst dX7_fastestTicks_146 ?_
      refine aw_zast SH_86 (by decide) ⟨by omega, by omega⟩ (by decide) dX7_fastestTicks_147 ?_
      refine aw_iinc (i := 4) (q := 4) (x := z) (lv' := [(0, .ref 58), (1, iI w), (2, iI (mi 58 18)), (3, iI (mi 58 9)), (4, iI (z + 1))]) [1, 2, 3, 4, 0] dX7_fastestTicks_148 rfl (by decide) rfl ?_
      refine aw_goto (tgt := 97) dX7_fastestTicks_151 (by decide) ?_
      exact ih _ (z + 1) (kB_B hk h2.1) (by omega) (by omega)
theorem l_fA {mr : aR} (hR : Rok mr) {mi : aM} {w : Int} (hB : mB mi) (hpl : 1 ≤ mi 58 7 ∧ mi 58 7 ≤ 12) (hp : pM mi) (hw : 0 ≤ w ∧ w < 5) (h0 : mi 73 w ≠ 0) (ho : mOk mi) (h86 : ∀ j : Int, 0 ≤ j → j < 12 → mi 86 j = 0 ∨ mi 86 j = 1) : ∀ (n : Nat) (m : aM) (z : Int), kB mi m z 0 → (0 ≤ z ∧ z ≤ mi 58 18) → mi 58 18 - z < n → AWm RX7 cX7_fastestTicks 6 5 (Pi mr (fun r m => (¬ (0 ≤ w ∧ w < 5) ∧ r = -2 ∧ m = mi) ∨ ((0 ≤ w ∧ w < 5) ∧ ((mi 73 w = 0 ∧ r = -9 ∧ m = mi) ∨ (mi 73 w ≠ 0 ∧ frK mi m ∧ ((r = -1 ∧ ∀ u : Int, 1 ≤ u → u ≤ 200 → okF mi w u ≠ 0) ∨ (1 ≤ r ∧ r ≤ 200 ∧ okF mi w r = 0 ∧ ∀ u : Int, 1 ≤ u → u < r → okF mi w u ≠ 0))))))) 40 [(0, .ref 58), (1, iI w), (2, iI (mi 58 18)), (3, iI (mi 58 9)), (4, iI z)] [] m mr := by
  intro n
  induction n with
  | zero => intro m z hk h2 h3; omega
  | succ n ih =>
    intro m z hk h2 h3
    have hc1 := ho.1
    have hnw := hB.2.1
    refine aw_iload (i := 4) (q := 4) dX7_fastestTicks_40 rfl ?_
    refine aw_iload_n (i := 2) (q := 2) dX7_fastestTicks_42 rfl rfl ?_
    refine aw_icmp_ge (tgt := 94) dX7_fastestTicks_43 (by decide) (by first | assumption | omega) (by first | assumption | omega) (fun c43 => ?_) (fun c43 => ?_)
    · refine aw_iconst dX7_fastestTicks_94 ?_
      refine aw_istore (i := 4) (lv' := [(0, .ref 58), (1, iI w), (2, iI (mi 58 18)), (3, iI (mi 58 9)), (4, iI 0)]) [1, 2, 3, 4, 0] dX7_fastestTicks_95 (by decide) rfl ?_
      exact l_fB hR hB hpl hp hw h0 ho h86 13 m 0 (by rw [← show z = mi 58 18 by omega]; exact hk) (by omega) (by omega)
    · refine aw_aload_n (i := 0) (q := 0) dX7_fastestTicks_46 rfl rfl ?_
      refine aw_getR (r := 75) flX7_66 SH_58 (by decide) rfl (rk_58_31 hR) dX7_fastestTicks_47 ?_
      refine aw_iload (i := 4) (q := 4) dX7_fastestTicks_50 rfl ?_
      refine aw_aload_n (i := 0) (q := 0) dX7_fastestTicks_52 rfl rfl ?_
      refine aw_getR (r := 67) flX7_39 SH_58 (by decide) rfl (rk_58_14 hR) dX7_fastestTicks_53 ?_
      refine aw_iload (i := 4) (q := 4) dX7_fastestTicks_56 rfl ?_
      refine aw_ialdv (x := m 67 z) SH_67 (by decide) ⟨by omega, by omega⟩ rfl dX7_fastestTicks_58 (fun r58 => ?_)
      refine aw_iast SH_75 (by decide) ⟨by omega, by omega⟩ (by first | assumption | omega) dX7_fastestTicks_59 ?_
      refine aw_aload_n (i := 0) (q := 0) dX7_fastestTicks_60 rfl rfl ?_
      refine aw_getR (r := 76) flX7_69 SH_58 (by decide) rfl (rk_58_32 hR) dX7_fastestTicks_61 ?_
      refine aw_iload (i := 4) (q := 4) dX7_fastestTicks_64 rfl ?_
      refine aw_aload_n (i := 0) (q := 0) dX7_fastestTicks_66 rfl rfl ?_
      refine aw_getR (r := 68) flX7_42 SH_58 (by decide) rfl (rk_58_15 hR) dX7_fastestTicks_67 ?_
      refine aw_iload (i := 4) (q := 4) dX7_fastestTicks_70 rfl ?_
      refine aw_ialdv (x := m 68 z) SH_68 (by decide) ⟨by omega, by omega⟩ (by (rw [aup_a (by decide)]) <;> rfl) dX7_fastestTicks_72 (fun r72 => ?_)
      refine aw_iast SH_76 (by decide) ⟨by omega, by omega⟩ (by first | assumption | omega) dX7_fastestTicks_73 ?_
      refine aw_aload_n (i := 0) (q := 0) dX7_fastestTicks_74 rfl rfl ?_
      refine aw_getR (r := 77) flX7_72 SH_58 (by decide) rfl (rk_58_33 hR) dX7_fastestTicks_75 ?_
      refine aw_iload (i := 4) (q := 4) dX7_fastestTicks_78 rfl ?_
      refine aw_aload_n (i := 0) (q := 0) dX7_fastestTicks_80 rfl rfl ?_
      refine aw_getR (r := 69) flX7_45 SH_58 (by decide) rfl (rk_58_16 hR) dX7_fastestTicks_81 ?_
      refine aw_iload (i := 4) (q := 4) dX7_fastestTicks_84 rfl ?_
      refine aw_ialdv (x := m 69 z) SH_69 (by decide) ⟨by omega, by omega⟩ (by (rw [aup_a (by decide), aup_a (by decide)]) <;> rfl) dX7_fastestTicks_86 (fun r86 => ?_)
      refine aw_iast SH_77 (by decide) ⟨by omega, by omega⟩ (by first | assumption | omega) dX7_fastestTicks_87 ?_
      refine aw_iinc (i := 4) (q := 4) (x := z) (lv' := [(0, .ref 58), (1, iI w), (2, iI (mi 58 18)), (3, iI (mi 58 9)), (4, iI (z + 1))]) [1, 2, 3, 4, 0] dX7_fastestTicks_88 rfl (by decide) rfl ?_
      refine aw_goto (tgt := 40) dX7_fastestTicks_91 (by decide) ?_
      exact ih _ (z + 1) (kB_A hk) (by omega) (by omega)
theorem t_fastestTicks {mr : aR} (hR : Rok mr) {mi : aM} {w : Int} (h_w : -2147483648 ≤ w ∧ w ≤ 2147483647) (hB : mB mi) (hpl : 1 ≤ mi 58 7 ∧ mi 58 7 ≤ 12) (hp : pM mi) (ho : mOk mi) (h86 : ∀ j : Int, 0 ≤ j → j < 12 → mi 86 j = 0 ∨ mi 86 j = 1) : AWm RX7 cX7_fastestTicks 6 5 (Pi mr (fun r m => (¬ (0 ≤ w ∧ w < 5) ∧ r = -2 ∧ m = mi) ∨ ((0 ≤ w ∧ w < 5) ∧ ((mi 73 w = 0 ∧ r = -9 ∧ m = mi) ∨ (mi 73 w ≠ 0 ∧ frK mi m ∧ ((r = -1 ∧ ∀ u : Int, 1 ≤ u → u ≤ 200 → okF mi w u ≠ 0) ∨ (1 ≤ r ∧ r ≤ 200 ∧ okF mi w r = 0 ∧ ∀ u : Int, 1 ≤ u → u < r → okF mi w u ≠ 0))))))) 5 [(0, .ref 58), (1, iI w)] [] mi mr := by
  have hn := hB.1
  have hc1 := ho.1
  refine aw_iload_n (i := 1) (q := 1) dX7_fastestTicks_5 rfl rfl ?_
  refine aw_cSp (As := [iI w]) (st := []) clX7_252 (s_X7_isPattern hR (by omega)) rfl rfl (Nat.le_of_ble_eq_true rfl) (by decide) (by decide) (Nat.le_refl _) (Nat.le_refl _) dX7_fastestTicks_6 (fun v6 hv6 => ?_)
  refine aw_if_ne (tgt := 15) dX7_fastestTicks_9 (by decide) (by first | assumption | omega) (fun c9 => ?_) (fun c9 => ?_)
  · have hpw := (hp w (by omega) (by omega)).1
    refine aw_aload_n (i := 0) (q := 0) dX7_fastestTicks_15 rfl rfl ?_
    refine aw_getR (r := 73) flX7_57 SH_58 (by decide) rfl (rk_58_21 hR) dX7_fastestTicks_16 ?_
    refine aw_iload_n (i := 1) (q := 1) dX7_fastestTicks_19 rfl rfl ?_
    refine aw_ialdv (x := mi 73 w) SH_73 (by decide) ⟨by omega, by omega⟩ rfl dX7_fastestTicks_20 (fun r20 => ?_)
    refine aw_if_ne (tgt := 27) dX7_fastestTicks_21 (by decide) (by first | assumption | omega) (fun c21 => ?_) (fun c21 => ?_)
    · refine aw_aload_n (i := 0) (q := 0) dX7_fastestTicks_27 rfl rfl ?_
      refine aw_getIk (x := mi 58 18) 18 flX7_171 SH_58 (by decide) rfl rfl rfl dX7_fastestTicks_28 (fun r28 => ?_)
      refine aw_istore_n (i := 2) (lv' := [(0, .ref 58), (1, iI w), (2, iI (mi 58 18))]) [1, 2, 0] dX7_fastestTicks_31 rfl (by decide) rfl ?_
      refine aw_aload_n (i := 0) (q := 0) dX7_fastestTicks_32 rfl rfl ?_
      refine aw_getIk (x := mi 58 9) 9 flX7_158 SH_58 (by decide) rfl rfl rfl dX7_fastestTicks_33 (fun r33 => ?_)
      refine aw_istore_n (i := 3) (lv' := [(0, .ref 58), (1, iI w), (2, iI (mi 58 18)), (3, iI (mi 58 9))]) [1, 2, 3, 0] dX7_fastestTicks_36 rfl (by decide) rfl ?_
      refine aw_iconst dX7_fastestTicks_37 ?_
      refine aw_istore (i := 4) (lv' := [(0, .ref 58), (1, iI w), (2, iI (mi 58 18)), (3, iI (mi 58 9)), (4, iI 0)]) [1, 2, 3, 4, 0] dX7_fastestTicks_38 (by decide) rfl ?_
      exact l_fA hR hB hpl hp ⟨by omega, by omega⟩ (by omega) ho h86 ((mi 58 18).toNat + 1) mi 0 ⟨fun _ _ _ => rfl, fun j j0 j1 => by omega, fun j j0 j1 => by omega, fun j _ => ⟨rfl, rfl⟩⟩ (by omega) (by omega)
    · refine aw_bipush (x := -9) dX7_fastestTicks_24 rfl ?_
      exact aw_iret ⟨_, rfl, rfl, rfl, Or.inr ⟨⟨by omega, by omega⟩, Or.inl ⟨by omega, rfl, rfl⟩⟩⟩ (Nat.le_refl _) (Nat.le_refl _) dX7_fastestTicks_26
  · refine aw_bipush (x := -2) dX7_fastestTicks_12 rfl ?_
    exact aw_iret ⟨_, rfl, rfl, rfl, Or.inl ⟨by omega, rfl, rfl⟩⟩ (Nat.le_refl _) (Nat.le_refl _) dX7_fastestTicks_14
theorem s_X7_fastestTicks {mr : aR} (hR : Rok mr) {mi : aM} {w : Int} (h_w : -2147483648 ≤ w ∧ w ≤ 2147483647) (hB : mB (aup mi 58 0 0)) (hpl : 1 ≤ (aup mi 58 0 0) 58 7 ∧ (aup mi 58 0 0) 58 7 ≤ 12) (hp : pM (aup mi 58 0 0)) (ho : mOk (aup mi 58 0 0)) (h86 : ∀ j : Int, 0 ≤ j → j < 12 → (aup mi 58 0 0) 86 j = 0 ∨ (aup mi 58 0 0) 86 j = 1) : SPg yX7_fastestTicks cX7_fastestTicks 6 (some .int) 5 [.ref 58, iI w] mi mr (Pi mr (fun r m => (¬ (0 ≤ w ∧ w < 5) ∧ r = -2 ∧ m = (aup mi 58 0 0)) ∨ ((0 ≤ w ∧ w < 5) ∧ (((aup mi 58 0 0) 73 w = 0 ∧ r = -9 ∧ m = (aup mi 58 0 0)) ∨ ((aup mi 58 0 0) 73 w ≠ 0 ∧ frK (aup mi 58 0 0) m ∧ ((r = -1 ∧ ∀ u : Int, 1 ≤ u → u ≤ 200 → okF (aup mi 58 0 0) w u ≠ 0) ∨ (1 ≤ r ∧ r ≤ 200 ∧ okF (aup mi 58 0 0) w r = 0 ∧ ∀ u : Int, 1 ≤ u → u < r → okF (aup mi 58 0 0) w u ≠ 0))))))) := by
  refine SPg.int rfl (by decide +kernel) (Nat.le_of_ble_eq_true rfl) ?_
  show AWm RX7 cX7_fastestTicks 6 5 _ 0 [(0, .ref 58), (1, iI w)] [] mi mr
  refine aw_aload_n (i := 0) (q := 0) dX7_fastestTicks_0 rfl rfl ?_
  refine aw_iconst dX7_fastestTicks_1 ?_
  refine aw_putIk 0 flX7_1 SH_58 (by decide) rfl rfl rfl (by decide) dX7_fastestTicks_2 ?_
  exact t_fastestTicks (mi := aup mi 58 0 0) hR h_w hB hpl hp ho h86
