-- part 16: Schedule.overloads (printed by wip/whole/gen/p16.py)
theorem psum_succ (f : Int → Int) (k : Nat) : psum f (k + 1) = psum f k + f ((k : Int) + 1) := rfl
/-- the prefix sums of the changes: how many of the strokes below n move -/
def ovI (mi m : aM) (a : Nat) (c t : Int) (n : Nat) : Prop := ∀ k : Nat, (k : Int) < t - c → psum (m (a + 4)) k = covI mi a (c + k) n
theorem ovI_skip {mi m : aM} {a : Nat} {c t : Int} {n : Nat} (h : ovI mi m a c t n) (hn : ∀ k : Int, c ≤ k → k < t → ¬ (mi (a + 2) n ≤ k ∧ k < mi (a + 3) n)) : ovI mi m a c t (n + 1) := by
  intro k hk
  rw [h k hk]
  show _ = _ + _
  rw [if_neg (hn (c + k) (by omega) (by omega))]
  omega
theorem ovI_add {mi m : aM} {a : Nat} {c t lo hi : Int} {n : Nat} (h : ovI mi m a c t n) (hlo : (lo = mi (a + 2) n - c ∧ 0 ≤ mi (a + 2) n - c) ∨ (lo = 0 ∧ mi (a + 2) n - c < 0)) (hhi : (hi = mi (a + 3) n - c ∧ mi (a + 3) n - c ≤ t - c) ∨ (hi = t - c ∧ t - c < mi (a + 3) n - c)) (hp : 0 < hi) (hct : mi (a + 2) n < mi (a + 3) n) :
    ovI mi (aup (aup m (a + 4) lo (m (a + 4) lo + 1)) (a + 4) hi (aup m (a + 4) lo (m (a + 4) lo + 1) (a + 4) hi - 1)) a c t (n + 1) := by
  intro k hk
  have e1 := psum_add (f := m (a + 4)) (g := aup m (a + 4) lo (m (a + 4) lo + 1) (a + 4)) (j := lo) (v := 1) (by omega) (fun x => by
    unfold aup
    by_cases hx : x = lo
    · rw [if_pos ⟨rfl, hx⟩, if_pos hx, hx]
    · rw [if_neg (fun q => hx q.2), if_neg hx]) k
  have e2 := psum_add (f := aup m (a + 4) lo (m (a + 4) lo + 1) (a + 4)) (g := aup (aup m (a + 4) lo (m (a + 4) lo + 1)) (a + 4) hi (aup m (a + 4) lo (m (a + 4) lo + 1) (a + 4) hi - 1) (a + 4)) (j := hi) (v := -1) (by omega) (fun x => by
    generalize aup m (a + 4) lo (m (a + 4) lo + 1) = m9
    unfold aup
    by_cases hx : x = hi
    · rw [if_pos ⟨rfl, hx⟩, if_pos hx, hx]; rfl
    · rw [if_neg (fun q => hx q.2), if_neg hx]) k
  rw [e2, e1, h k hk]
  show _ = covI mi a (c + k) n + _
  by_cases h1 : lo ≤ (k : Int) <;> by_cases h2 : hi ≤ (k : Int)
  · rw [if_pos h1, if_pos h2, if_neg (by omega)]; omega
  · rw [if_pos h1, if_neg h2, if_pos (by omega)]; omega
  · rw [if_neg h1, if_pos h2, if_neg (by omega)]; omega
  · rw [if_neg h1, if_neg h2, if_neg (by omega)]; omega
/-- every change lies between -n and n -/
def chR (m : aM) (a : Nat) (len : Int) (n : Nat) : Prop := ∀ j : Int, 0 ≤ j → j ≤ len → -(n : Int) ≤ m (a + 4) j ∧ m (a + 4) j ≤ n
theorem chR_add {m : aM} {a : Nat} {len lo hi : Int} {n : Nat} (h : chR m a len n) : chR (aup (aup m (a + 4) lo (m (a + 4) lo + 1)) (a + 4) hi (aup m (a + 4) lo (m (a + 4) lo + 1) (a + 4) hi - 1)) a len (n + 1) := by
  intro j j0 j1
  have e := h j j0 j1
  have e2 : ((n + 1 : Nat) : Int) = (n : Int) + 1 := rfl
  rw [e2]
  unfold aup
  by_cases h1 : j = hi <;> by_cases h2 : j = lo
  · subst h1; subst h2; simp; omega
  · subst h1; simp [h2]; omega
  · subst h2; simp [h1]; omega
  · simp [h1, h2]; omega
theorem chR_mono {m : aM} {a n : Nat} {len : Int} (h : chR m a len n) : chR m a len (n + 1) := fun j a b => by
  have := h j a b
  have e2 : ((n + 1 : Nat) : Int) = (n : Int) + 1 := rfl
  rw [e2]
  omega
theorem ovI_end {mi m : aM} {a : Nat} {c t : Int} {n : Nat} (ho : sOk mi a) (h : ovI mi m a c t n) (hn : (n : Int) ≤ mi a 4) (hx : (n : Int) = mi a 4 ∨ t ≤ mi (a + 2) n) : ovI mi m a c t (mi a 4).toNat := by
  intro k hk
  rw [h k hk]
  refine (covI_none (by omega) (fun j x1 x2 => ?_)).symm
  have := sOk_mono ho (i := n) (j := j) (by omega) (by omega) (by omega)
  omega
theorem l_over3 {mr : aR} (hR : Rok mr) {mi : aM} {a : Nat} (hs : isS a) (ho : sOk mi a) {f c t pl : Int} (hf : 0 ≤ f ∧ f ≤ mi a 4) (h_c : -1000 ≤ c ∧ c ≤ 200000) (h_t : c < t ∧ t ≤ c + 50) (h_pl : 0 ≤ pl ∧ pl ≤ 100) (hlow : ∀ i : Int, 0 ≤ i → i < f → mi (a + 3) i ≤ c) {m : aM} {len : Int} (hlen : len = t - c) (hfr : (∀ (x : Nat) (j : Int), x ≠ a + 4 → m x j = mi x j)) (hov : ovI mi m a c t (mi a 4).toNat) (hch : chR m a len 300) : ∀ (n : Nat) (g z : Int), (z = 0 → g = 1) → (∀ k : Nat, (k : Int) + 1 = z → g = 1 + psum (m (a + 4)) k) → (∀ k : Int, c ≤ k → k < c + z → 1 + covI mi a k (mi a 4).toNat ≤ pl) → (0 ≤ z ∧ z ≤ t - c) → t - c - z < n → AWm RX4 cX4_overloads 8 1 (Pi mr (fun r m => ((r = 1 ∧ ∃ k : Int, c ≤ k ∧ k < t ∧ pl < 1 + covI mi a k (mi a 4).toNat) ∨ (r = 0 ∧ ∀ k : Int, c ≤ k → k < t → 1 + covI mi a k (mi a 4).toNat ≤ pl)) ∧ ∀ (x : Nat) (j : Int), x ≠ a + 4 → m x j = mi x j)) 125 [(0, .ref a), (1, iI f), (2, iI c), (3, iI t), (4, iI pl), (5, iI len), (6, iI g), (7, iI z)] [] m mr := by
  intro n
  induction n with
  | zero => intro g z h1 h2 h3 h4 h5; omega
  | succ n ih =>
    intro g z h1 h2 h3 h4 h5
    refine aw_iload (i := 7) (q := 7) dX4_overloads_125 rfl ?_
    refine aw_iload (i := 5) (q := 5) dX4_overloads_127 rfl ?_
    refine aw_icmp_ge (tgt := 159) dX4_overloads_129 (by decide) (by first | assumption | omega) (by first | assumption | omega) (fun c129 => ?_) (fun c129 => ?_)
    · refine aw_iconst dX4_overloads_159 ?_
      exact aw_iret ⟨_, rfl, rfl, rfl, ⟨Or.inr ⟨rfl, fun k x1 x2 => h3 k x1 (by omega)⟩, hfr⟩⟩ (Nat.le_refl _) (Nat.le_refl _) dX4_overloads_160
    · have hc9 := hch z (by omega) (by omega)
      have hgz : g + m (a + 4) z = 1 + covI mi a (c + z) (mi a 4).toNat := by have ho9 := hov z.toNat (by omega); rw [show ((z.toNat : Nat) : Int) = z by omega] at ho9; rw [← ho9]; by_cases e : z = 0; (have := h1 e; subst e; show g + m (a + 4) 0 = 1 + m (a + 4) 0; omega); (have := h2 (z.toNat - 1) (by omega); rw [show z.toNat = (z.toNat - 1) + 1 by omega, psum_succ, show (((z.toNat - 1 : Nat) : Int) + 1) = z by omega]; omega)
      have hcr := covI_rng mi a (c + z) (mi a 4).toNat
      have hc1 := ho.1
      refine aw_iload (i := 6) (q := 6) dX4_overloads_132 rfl ?_
      refine aw_aload_n (i := 0) (q := 0) dX4_overloads_134 rfl rfl ?_
      refine aw_getR (r := a + 4) flX4_21 (isS_SH hs).1 (isS_ok hs).1 rfl (isS_rf hs hR).2.2.2 dX4_overloads_135 ?_
      refine aw_iload (i := 7) (q := 7) dX4_overloads_138 rfl ?_
      refine aw_ialdv (x := m (a + 4) z) (isS_SH hs).2.2.2.2 (isS_ok hs).2.2.2.2 ⟨by omega, by omega⟩ rfl dX4_overloads_140 (fun r140 => ?_)
      refine aw_iadd dX4_overloads_141 ?_
      refine aw_istore (i := 6) (lv' := [(0, .ref a), (1, iI f), (2, iI c), (3, iI t), (4, iI pl), (5, iI len), (6, iI (g + (m (a + 4) z))), (7, iI z)]) [1, 2, 3, 4, 5, 6, 0, 7] dX4_overloads_142 (by decide) rfl ?_
      refine aw_iload (i := 6) (q := 6) dX4_overloads_144 rfl ?_
      refine aw_iload (i := 4) (q := 4) dX4_overloads_146 rfl ?_
      refine aw_icmp_le (tgt := 153) dX4_overloads_148 (by decide) (by first | assumption | omega) (by first | assumption | omega) (fun c148 => ?_) (fun c148 => ?_)
      · refine aw_iinc (i := 7) (q := 7) (x := z) (lv' := [(0, .ref a), (1, iI f), (2, iI c), (3, iI t), (4, iI pl), (5, iI len), (6, iI (g + (m (a + 4) z))), (7, iI (z + 1))]) [1, 2, 3, 4, 5, 6, 7, 0] dX4_overloads_153 rfl (by decide) rfl ?_
        refine aw_goto (tgt := 125) dX4_overloads_156 (by decide) ?_
        exact ih _ _ (fun e => by omega) (fun k e => by have e2 : z = (k : Int) := (by omega); have ho9 := hov k (by omega); rw [← e2] at ho9; omega) (fun k x1 x2 => by by_cases e : k = c + z; (subst e; omega); (exact h3 k x1 (by omega))) (by omega) (by omega)
      · refine aw_iconst dX4_overloads_151 ?_
        exact aw_iret ⟨_, rfl, rfl, rfl, ⟨Or.inl ⟨rfl, c + z, by omega, by omega, by omega⟩, hfr⟩⟩ (Nat.le_refl _) (Nat.le_refl _) dX4_overloads_152
theorem l_over2 {mr : aR} (hR : Rok mr) {mi : aM} {a : Nat} (hs : isS a) (ho : sOk mi a) {f c t pl : Int} (hf : 0 ≤ f ∧ f ≤ mi a 4) (h_c : -1000 ≤ c ∧ c ≤ 200000) (h_t : c < t ∧ t ≤ c + 50) (h_pl : 0 ≤ pl ∧ pl ≤ 100) (hlow : ∀ i : Int, 0 ≤ i → i < f → mi (a + 3) i ≤ c) {len : Int} (hlen : len = t - c) : ∀ (n : Nat) (m : aM) (z : Int) (i : Nat), (∀ (x : Nat) (j : Int), x ≠ a + 4 → m x j = mi x j) → ovI mi m a c t i → chR m a len i → z = (i : Int) → (f ≤ z ∧ z ≤ mi a 4) → mi a 4 - z < n → AWm RX4 cX4_overloads 8 1 (Pi mr (fun r m => ((r = 1 ∧ ∃ k : Int, c ≤ k ∧ k < t ∧ pl < 1 + covI mi a k (mi a 4).toNat) ∨ (r = 0 ∧ ∀ k : Int, c ≤ k → k < t → 1 + covI mi a k (mi a 4).toNat ≤ pl)) ∧ ∀ (x : Nat) (j : Int), x ≠ a + 4 → m x j = mi x j)) 37 [(0, .ref a), (1, iI f), (2, iI c), (3, iI t), (4, iI pl), (5, iI len), (6, iI z)] [] m mr := by
  intro n
  induction n with
  | zero => intro m z i h1 h2 hch hz h3 h4; omega
  | succ n ih =>
    intro m z i h1 h2 hch hz h3 h4
    have hc1 := ho.1
    have f4 : m a 4 = mi a 4 := h1 a 4 (by omega)
    have f1 : m (a + 1) z = mi (a + 1) z := h1 _ z (by omega)
    have f2 : m (a + 2) z = mi (a + 2) z := h1 _ z (by omega)
    have f3 : m (a + 3) z = mi (a + 3) z := h1 _ z (by omega)
    refine aw_iload (i := 6) (q := 6) dX4_overloads_37 rfl ?_
    refine aw_aload_n (i := 0) (q := 0) dX4_overloads_39 rfl rfl ?_
    refine aw_getIk (x := m a 4) 4 flX4_24 (isS_SH hs).1 (isS_ok hs).1 rfl rfl rfl dX4_overloads_40 (fun r40 => ?_)
    refine aw_icmp_ge (tgt := 119) dX4_overloads_43 (by decide) (by first | assumption | omega) (by first | assumption | omega) (fun c43 => ?_) (fun c43 => ?_)
    · refine aw_iconst dX4_overloads_119 ?_
      refine aw_istore (i := 6) (lv' := [(0, .ref a), (1, iI f), (2, iI c), (3, iI t), (4, iI pl), (5, iI len), (6, iI 1)]) [1, 2, 3, 4, 5, 6, 0] dX4_overloads_120 (by decide) rfl ?_
      refine aw_iconst dX4_overloads_122 ?_
      refine aw_istore (i := 7) (lv' := [(0, .ref a), (1, iI f), (2, iI c), (3, iI t), (4, iI pl), (5, iI len), (6, iI 1), (7, iI 0)]) [1, 2, 3, 4, 5, 6, 7, 0] dX4_overloads_123 (by decide) rfl ?_
      exact l_over3 hR hs ho hf h_c h_t h_pl hlow hlen h1 (ovI_end ho h2 (by omega) (by rw [← hz]; omega)) (fun j x1 x2 => by have := hch j x1 x2; omega) ((t - c).toNat + 1) 1 0 (fun _ => rfl) (fun k e => by omega) (fun k x1 x2 => by omega) (by omega) (by omega)
    · have hz9 := ho.2.1 z (by omega) (by omega)
      refine aw_aload_n (i := 0) (q := 0) dX4_overloads_46 rfl rfl ?_
      refine aw_getR (r := a + 2) flX4_15 (isS_SH hs).1 (isS_ok hs).1 rfl (isS_rf hs hR).2.1 dX4_overloads_47 ?_
      refine aw_iload (i := 6) (q := 6) dX4_overloads_50 rfl ?_
      refine aw_ialdv (x := m (a + 2) z) (isS_SH hs).2.2.1 (isS_ok hs).2.2.1 ⟨by omega, by omega⟩ rfl dX4_overloads_52 (fun r52 => ?_)
      refine aw_iload_n (i := 3) (q := 3) dX4_overloads_53 rfl rfl ?_
      refine aw_icmp_ge (tgt := 119) dX4_overloads_54 (by decide) (by first | assumption | omega) (by first | assumption | omega) (fun c54 => ?_) (fun c54 => ?_)
      · refine aw_iconst dX4_overloads_119 ?_
        refine aw_istore (i := 6) (lv' := [(0, .ref a), (1, iI f), (2, iI c), (3, iI t), (4, iI pl), (5, iI len), (6, iI 1)]) [1, 2, 3, 4, 5, 6, 0] dX4_overloads_120 (by decide) rfl ?_
        refine aw_iconst dX4_overloads_122 ?_
        refine aw_istore (i := 7) (lv' := [(0, .ref a), (1, iI f), (2, iI c), (3, iI t), (4, iI pl), (5, iI len), (6, iI 1), (7, iI 0)]) [1, 2, 3, 4, 5, 6, 7, 0] dX4_overloads_123 (by decide) rfl ?_
        exact l_over3 hR hs ho hf h_c h_t h_pl hlow hlen h1 (ovI_end ho h2 (by omega) (by rw [← hz]; omega)) (fun j x1 x2 => by have := hch j x1 x2; omega) ((t - c).toNat + 1) 1 0 (fun _ => rfl) (fun k e => by omega) (fun k x1 x2 => by omega) (by omega) (by omega)
      · refine aw_aload_n (i := 0) (q := 0) dX4_overloads_57 rfl rfl ?_
        refine aw_getR (r := a + 3) flX4_18 (isS_SH hs).1 (isS_ok hs).1 rfl (isS_rf hs hR).2.2.1 dX4_overloads_58 ?_
        refine aw_iload (i := 6) (q := 6) dX4_overloads_61 rfl ?_
        refine aw_ialdv (x := m (a + 3) z) (isS_SH hs).2.2.2.1 (isS_ok hs).2.2.2.1 ⟨by omega, by omega⟩ rfl dX4_overloads_63 (fun r63 => ?_)
        refine aw_iload_n (i := 2) (q := 2) dX4_overloads_64 rfl rfl ?_
        refine aw_icmp_le (tgt := 113) dX4_overloads_65 (by decide) (by first | assumption | omega) (by first | assumption | omega) (fun c65 => ?_) (fun c65 => ?_)
        · refine aw_iinc (i := 6) (q := 6) (x := z) (lv' := [(0, .ref a), (1, iI f), (2, iI c), (3, iI t), (4, iI pl), (5, iI len), (6, iI (z + 1))]) [1, 2, 3, 4, 5, 6, 0] dX4_overloads_113 rfl (by decide) rfl ?_
          refine aw_goto (tgt := 37) dX4_overloads_116 (by decide) ?_
          exact ih _ _ (i + 1) h1 (ovI_skip h2 (fun k x1 x2 => by rw [← hz]; omega)) (chR_mono hch) (by omega) (by omega) (by omega)
        · have hg9 : ∀ j : Int, 0 ≤ j → j ≤ len → -300 ≤ m (a + 4) j ∧ m (a + 4) j ≤ 300 := fun j x1 x2 => by have := hch j x1 x2; omega
          refine aw_aload_n (i := 0) (q := 0) dX4_overloads_68 rfl rfl ?_
          refine aw_getR (r := a + 4) flX4_21 (isS_SH hs).1 (isS_ok hs).1 rfl (isS_rf hs hR).2.2.2 dX4_overloads_69 ?_
          refine aw_aload_n (i := 0) (q := 0) dX4_overloads_72 rfl rfl ?_
          refine aw_getR (r := a + 2) flX4_15 (isS_SH hs).1 (isS_ok hs).1 rfl (isS_rf hs hR).2.1 dX4_overloads_73 ?_
          refine aw_iload (i := 6) (q := 6) dX4_overloads_76 rfl ?_
          refine aw_ialdv (x := m (a + 2) z) (isS_SH hs).2.2.1 (isS_ok hs).2.2.1 ⟨by omega, by omega⟩ rfl dX4_overloads_78 (fun r78 => ?_)
          refine aw_iload_n (i := 2) (q := 2) dX4_overloads_79 rfl rfl ?_
          refine aw_isub dX4_overloads_80 ?_
          refine aw_iconst dX4_overloads_81 ?_
          refine aw_mmax (x := (m (a + 2) z) - c) (st := [.ref (a + 4)]) (by omega) (by omega) clX4_52 (Nat.le_of_ble_eq_true rfl) (by decide) (Nat.le_refl _) (Nat.le_refl _) dX4_overloads_82 (fun m82 hm82 => ?_)
          have hlo9 := hg9 m82 (by omega) (by omega)
          refine aw_dup2 dX4_overloads_85 rfl rfl ?_
          refine aw_ialdv (x := m (a + 4) m82) (isS_SH hs).2.2.2.2 (isS_ok hs).2.2.2.2 ⟨by omega, by omega⟩ rfl dX4_overloads_86 (fun r86 => ?_)
          refine aw_iconst dX4_overloads_87 ?_
          refine aw_iadd dX4_overloads_88 ?_
          refine aw_iast (isS_SH hs).2.2.2.2 (isS_ok hs).2.2.2.2 ⟨by omega, by omega⟩ (by first | assumption | omega) dX4_overloads_89 ?_
          refine aw_aload_n (i := 0) (q := 0) dX4_overloads_90 rfl rfl ?_
          refine aw_getR (r := a + 4) flX4_21 (isS_SH hs).1 (isS_ok hs).1 rfl (isS_rf hs hR).2.2.2 dX4_overloads_91 ?_
          refine aw_aload_n (i := 0) (q := 0) dX4_overloads_94 rfl rfl ?_
          refine aw_getR (r := a + 3) flX4_18 (isS_SH hs).1 (isS_ok hs).1 rfl (isS_rf hs hR).2.2.1 dX4_overloads_95 ?_
          refine aw_iload (i := 6) (q := 6) dX4_overloads_98 rfl ?_
          refine aw_ialdv (x := m (a + 3) z) (isS_SH hs).2.2.2.1 (isS_ok hs).2.2.2.1 ⟨by omega, by omega⟩ (by (rw [aup_a (by omega)]) <;> rfl) dX4_overloads_100 (fun r100 => ?_)
          refine aw_iload_n (i := 2) (q := 2) dX4_overloads_101 rfl rfl ?_
          refine aw_isub dX4_overloads_102 ?_
          refine aw_iload (i := 5) (q := 5) dX4_overloads_103 rfl ?_
          refine aw_mmin (x := (m (a + 3) z) - c) (st := [.ref (a + 4)]) (by omega) (by omega) clX4_46 (Nat.le_of_ble_eq_true rfl) (by decide) (Nat.le_refl _) (Nat.le_refl _) dX4_overloads_105 (fun m105 hm105 => ?_)
          have hhi9 : -301 ≤ aup m (a + 4) m82 (m (a + 4) m82 + 1) (a + 4) m105 ∧ aup m (a + 4) m82 (m (a + 4) m82 + 1) (a + 4) m105 ≤ 301 := by have hg8 := hg9 m105 (by omega) (by omega); unfold aup; split <;> omega
          refine aw_dup2 dX4_overloads_108 rfl rfl ?_
          refine aw_ialdv (x := (aup m (a + 4) m82 ((m (a + 4) m82) + 1)) (a + 4) m105) (isS_SH hs).2.2.2.2 (isS_ok hs).2.2.2.2 ⟨by omega, by omega⟩ rfl dX4_overloads_109 (fun r109 => ?_)
          refine aw_iconst dX4_overloads_110 ?_
          refine aw_isub dX4_overloads_111 ?_
          refine aw_iast (isS_SH hs).2.2.2.2 (isS_ok hs).2.2.2.2 ⟨by omega, by omega⟩ (by first | assumption | omega) dX4_overloads_112 ?_
          refine aw_iinc (i := 6) (q := 6) (x := z) (lv' := [(0, .ref a), (1, iI f), (2, iI c), (3, iI t), (4, iI pl), (5, iI len), (6, iI (z + 1))]) [1, 2, 3, 4, 5, 6, 0] dX4_overloads_113 rfl (by decide) rfl ?_
          refine aw_goto (tgt := 37) dX4_overloads_116 (by decide) ?_
          exact ih _ _ (i + 1) (fun x j hx => by rw [aup_a hx, aup_a hx]; exact h1 x j hx) (ovI_add h2 (by rw [← hz]; omega) (by rw [← hz]; omega) (by omega) (by rw [← hz]; omega)) (chR_add hch) (by omega) (by omega) (by omega)
theorem l_over1 {mr : aR} (hR : Rok mr) {mi : aM} {a : Nat} (hs : isS a) (ho : sOk mi a) {f c t pl : Int} (hf : 0 ≤ f ∧ f ≤ mi a 4) (h_c : -1000 ≤ c ∧ c ≤ 200000) (h_t : c < t ∧ t ≤ c + 50) (h_pl : 0 ≤ pl ∧ pl ≤ 100) (hlow : ∀ i : Int, 0 ≤ i → i < f → mi (a + 3) i ≤ c) {len : Int} (hlen : len = t - c) : ∀ (n : Nat) (m : aM) (z : Int), (∀ (x : Nat) (j : Int), x ≠ a + 4 → m x j = mi x j) → (∀ j : Int, 0 ≤ j → j < z → m (a + 4) j = 0) → (0 ≤ z ∧ z ≤ len + 1) → (∀ j : Int, len < j → j < 51 → True) → len + 1 - z < n → AWm RX4 cX4_overloads 8 1 (Pi mr (fun r m => ((r = 1 ∧ ∃ k : Int, c ≤ k ∧ k < t ∧ pl < 1 + covI mi a k (mi a 4).toNat) ∨ (r = 0 ∧ ∀ k : Int, c ≤ k → k < t → 1 + covI mi a k (mi a 4).toNat ≤ pl)) ∧ ∀ (x : Nat) (j : Int), x ≠ a + 4 → m x j = mi x j)) 13 [(0, .ref a), (1, iI f), (2, iI c), (3, iI t), (4, iI pl), (5, iI len), (6, iI z)] [] m mr := by
  intro n
  induction n with
  | zero => intro m z h1 h2 h3 h9 h4; omega
  | succ n ih =>
    intro m z h1 h2 h3 h9 h4
    refine aw_iload (i := 6) (q := 6) dX4_overloads_13 rfl ?_
    refine aw_iload (i := 5) (q := 5) dX4_overloads_15 rfl ?_
    refine aw_icmp_gt (tgt := 34) dX4_overloads_17 (by decide) (by first | assumption | omega) (by first | assumption | omega) (fun c17 => ?_) (fun c17 => ?_)
    · refine aw_iload_n (i := 1) (q := 1) dX4_overloads_34 rfl rfl ?_
      refine aw_istore (i := 6) (lv' := [(0, .ref a), (1, iI f), (2, iI c), (3, iI t), (4, iI pl), (5, iI len), (6, iI f)]) [1, 2, 3, 4, 5, 6, 0] dX4_overloads_35 (by decide) rfl ?_
      exact l_over2 hR hs ho hf h_c h_t h_pl hlow hlen ((mi a 4).toNat + 1) m f f.toNat h1 (fun k hk => by rw [psum_zero (fun x a b => h2 x a (by omega))]; exact (covI_none (n := 0) (Nat.zero_le _) (fun i x1 x2 => by have := hlow i (by omega) (by omega); omega)).symm) (fun j x1 x2 => by rw [h2 j x1 (by omega)]; omega) (by omega) (by omega) (by omega)
    · refine aw_aload_n (i := 0) (q := 0) dX4_overloads_20 rfl rfl ?_
      refine aw_getR (r := a + 4) flX4_21 (isS_SH hs).1 (isS_ok hs).1 rfl (isS_rf hs hR).2.2.2 dX4_overloads_21 ?_
      refine aw_iload (i := 6) (q := 6) dX4_overloads_24 rfl ?_
      refine aw_iconst dX4_overloads_26 ?_
      refine aw_iast (isS_SH hs).2.2.2.2 (isS_ok hs).2.2.2.2 ⟨by omega, by omega⟩ (by decide) dX4_overloads_27 ?_
      refine aw_iinc (i := 6) (q := 6) (x := z) (lv' := [(0, .ref a), (1, iI f), (2, iI c), (3, iI t), (4, iI pl), (5, iI len), (6, iI (z + 1))]) [1, 2, 3, 4, 5, 6, 0] dX4_overloads_28 rfl (by decide) rfl ?_
      refine aw_goto (tgt := 13) dX4_overloads_31 (by decide) ?_
      exact ih _ _ (fun x j hx => by rw [aup_a hx]; exact h1 x j hx) (fun j x1 x2 => by by_cases e : j = z; (subst e; exact aup_eq _ _ _ _); (rw [aup_k e]; exact h2 j x1 (by omega))) (by omega) (fun _ _ _ => trivial) (by omega)
theorem s_X4_overloads {mr : aR} (hR : Rok mr) {mi : aM} {a : Nat} (hs : isS a) (ho : sOk mi a) {f c t pl : Int} (hf : 0 ≤ f ∧ f ≤ mi a 4) (h_c : -1000 ≤ c ∧ c ≤ 200000) (h_t : c < t ∧ t ≤ c + 50) (h_pl : 0 ≤ pl ∧ pl ≤ 100) (hlow : ∀ i : Int, 0 ≤ i → i < f → mi (a + 3) i ≤ c) : SPg yX4_overloads cX4_overloads 8 (some .boolean) 1 [.ref a, iI f, iI c, iI t, iI pl] mi mr (Pi mr (fun r m => ((r = 1 ∧ ∃ k : Int, c ≤ k ∧ k < t ∧ pl < 1 + covI mi a k (mi a 4).toNat) ∨ (r = 0 ∧ ∀ k : Int, c ≤ k → k < t → 1 + covI mi a k (mi a 4).toNat ≤ pl)) ∧ ∀ (x : Nat) (j : Int), x ≠ a + 4 → m x j = mi x j)) := by
  refine SPg.bool rfl (by decide +kernel) (Nat.le_of_ble_eq_true rfl) (fun r m h => by (rcases h.1 with ⟨h, -⟩ | ⟨h, -⟩ <;> omega)) ?_
  show AWm RX4 cX4_overloads 8 1 _ 0 [(0, .ref a), (1, iI f), (2, iI c), (3, iI t), (4, iI pl)] [] mi mr
  refine aw_iload_n (i := 3) (q := 3) dX4_overloads_0 rfl rfl ?_
  refine aw_iload_n (i := 2) (q := 2) dX4_overloads_1 rfl rfl ?_
  refine aw_isub dX4_overloads_2 ?_
  refine aw_bipush (x := 50) dX4_overloads_3 rfl ?_
  refine aw_mmin (x := t - c) (st := []) (by omega) (by omega) clX4_46 (Nat.le_of_ble_eq_true rfl) (by decide) (Nat.le_refl _) (Nat.le_refl _) dX4_overloads_5 (fun m5 hm5 => ?_)
  refine aw_istore (i := 5) (lv' := [(0, .ref a), (1, iI f), (2, iI c), (3, iI t), (4, iI pl), (5, iI m5)]) [1, 2, 3, 4, 5, 0] dX4_overloads_8 (by decide) rfl ?_
  refine aw_iconst dX4_overloads_10 ?_
  refine aw_istore (i := 6) (lv' := [(0, .ref a), (1, iI f), (2, iI c), (3, iI t), (4, iI pl), (5, iI m5), (6, iI 0)]) [1, 2, 3, 4, 5, 6, 0] dX4_overloads_11 (by decide) rfl ?_
  exact l_over1 hR hs ho hf h_c h_t h_pl hlow (by omega) 53 mi 0 (fun _ _ _ => rfl) (fun j x1 x2 => by omega) (by omega) (fun _ _ _ => trivial) (by omega)
