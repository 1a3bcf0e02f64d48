-- part 36: the model: its strokes (printed by wip/whole/gen/p36.py)
/-- the model's strokes -/
def mS (mi : aM) : Int → Str := fun i => (mi 67 i, mi 69 i, mi 68 i)
def mL (mi : aM) : List Str := lst (mS mi) (mi 58 18).toNat
def mOk (mi : aM) : Prop := (0 ≤ mi 58 18 ∧ mi 58 18 ≤ 300) ∧ ∀ i : Int, 0 ≤ i → i < mi 58 18 → (0 ≤ mi 67 i ∧ mi 67 i < 12) ∧ (-1000 ≤ mi 69 i ∧ mi 69 i ≤ 200000) ∧ (mi 69 i < mi 68 i ∧ mi 68 i ≤ mi 69 i + 50)
theorem mL_len {mi : aM} (h : mOk mi) : ((mL mi).length : Int) = mi 58 18 := by
  unfold mL
  rw [lst_len]
  have := h.1
  omega
theorem mL_mem {mi : aM} (h : mOk mi) {s : Str} : s ∈ mL mi ↔ ∃ i : Int, 0 ≤ i ∧ i < mi 58 18 ∧ mS mi i = s := by
  unfold mL
  rw [lst_mem]
  have := h.1
  constructor
  · rintro ⟨i, a, b, c⟩; exact ⟨i, a, by omega, c⟩
  · rintro ⟨i, a, b, c⟩; exact ⟨i, a, by omega, c⟩
theorem mL_congr {mi m : aM} (h : ∀ j : Int, m 67 j = mi 67 j ∧ m 69 j = mi 69 j ∧ m 68 j = mi 68 j) (h4 : m 58 18 = mi 58 18) : mL m = mL mi := by
  unfold mL
  rw [h4]
  exact lst_congr (fun i _ _ => by unfold mS; rw [(h i).1, (h i).2.1, (h i).2.2])
theorem mOk_congr {mi m : aM} (h : ∀ j : Int, m 67 j = mi 67 j ∧ m 69 j = mi 69 j ∧ m 68 j = mi 68 j) (h4 : m 58 18 = mi 58 18) (ho : mOk mi) : mOk m := by
  unfold mOk at *
  rw [h4]
  refine ⟨ho.1, fun i a b => ?_⟩
  rw [(h i).1, (h i).2.1, (h i).2.2]
  exact ho.2 i a b
/-- the model's bells -/
def mB (mi : aM) : Prop := (0 ≤ mi 58 6 ∧ mi 58 6 ≤ 12) ∧ (0 ≤ mi 58 9 ∧ mi 58 9 ≤ 100000) ∧ ∀ i : Int, 0 ≤ i → i < mi 58 6 → (1 ≤ mi 59 i ∧ mi 59 i ≤ 50) ∧ (0 ≤ mi 60 i ∧ mi 60 i ≤ 100) ∧ (1 ≤ mi 61 i ∧ mi 61 i ≤ 99) ∧ (10 ≤ mi 62 i ∧ mi 62 i ≤ 60) ∧ (0 ≤ mi 63 i ∧ mi 63 i ≤ 100100) ∧ (mi 86 i = 0 ∨ mi 86 i = 1) ∧ (mi 87 i = 0 ∨ mi 87 i = 1) ∧ (mi 88 i = 0 ∨ mi 88 i = 1)
theorem psum_one (f : Int → Int) (k : Nat) : psum f (k + 1) = psum f k + f ((k : Int) + 1) := rfl
/-- the changes of the first i strokes, from c up to t -/
def mvI (mi m : aM) (c t : Int) (i : Nat) : Prop := ∀ k : Nat, (k : Int) < t - c → psum (m 70) k = cov (lst (mS mi) i) (c + k)
theorem mvI_skip {mi m : aM} {c t : Int} {i : Nat} (h : mvI mi m c t i) (hn : ∀ k : Int, c ≤ k → k < t → ¬ (mi 69 i ≤ k ∧ k < mi 68 i)) : mvI mi m c t (i + 1) := by
  intro k hk
  rw [h k hk, cov_lst_succ]
  show _ = _ + (if mi 69 i ≤ c + k ∧ c + k < mi 68 i then 1 else 0)
  rw [if_neg (hn _ (by omega) (by omega)), Int.add_zero]
theorem mvI_add {mi m : aM} {c t lo hi : Int} {i : Nat} (h : mvI mi m c t i) (h0 : 0 ≤ lo ∧ lo < hi) (hl : ∀ k : Int, c ≤ k → k < t → ((mi 69 i ≤ k ∧ k < mi 68 i) ↔ (lo ≤ k - c ∧ k - c < hi))) : mvI mi (aup (aup m 70 lo (m 70 lo + 1)) 70 hi (m 70 hi - 1)) c t (i + 1) := by
  intro k hk
  have e1 := psum_add (f := m 70) (g := aup m 70 lo (m 70 lo + 1) 70) (j := lo) (v := 1) h0.1 (fun x => by unfold aup; by_cases q : x = lo; (subst q; simp); (simp [q])) k
  have e2 := psum_add (f := aup m 70 lo (m 70 lo + 1) 70) (g := aup (aup m 70 lo (m 70 lo + 1)) 70 hi (m 70 hi - 1) 70) (j := hi) (v := -1) (by omega) (fun x => by by_cases q : x = hi; (subst q; rw [aup_eq, if_pos rfl, aup_k (by omega)]; rfl); (rw [aup_k q, if_neg q])) k
  rw [e2, e1, h k hk, cov_lst_succ]
  show _ = _ + (if mi 69 i ≤ c + k ∧ c + k < mi 68 i then 1 else 0)
  have h9 := hl (c + k) (by omega) (by omega)
  by_cases q : mi 69 i ≤ c + k ∧ c + k < mi 68 i
  · have := h9.mp q
    rw [if_pos q, if_pos (by omega), if_neg (by omega)]
    omega
  · rw [if_neg q]
    have : ¬ (lo ≤ c + k - c ∧ c + k - c < hi) := fun z => q (h9.mpr z)
    by_cases q2 : hi ≤ (k : Int)
    · rw [if_pos (by omega), if_pos q2]; omega
    · rw [if_neg (by omega), if_neg q2]; omega
def fr70 (mi m : aM) : Prop := ∀ (x : Nat) (j : Int), x ≠ 70 → m x j = mi x j
theorem cov_le (L : List Str) (k : Int) : cov L k ≤ (L.length : Int) := by
  unfold cov
  have := List.countP_le_length (p := fun s : Str => decide (s.2.1 ≤ k ∧ k < s.2.2)) (l := L)
  omega
theorem l_ref3 {mr : aR} (hR : Rok mr) {mi : aM} {b t : Int} (hB : mB mi) (ho : mOk mi) (hpl : 1 ≤ mi 58 7 ∧ mi 58 7 ≤ 12) (hb : 0 ≤ b ∧ b < mi 58 6) (ht : 0 ≤ t ∧ t ≤ 100000) (hsw : mi 86 b = 0) (hcm : mi 58 9 ≤ t - mi 59 b) (hfl : mi 58 18 < 300) (hoc : mi 63 b ≤ t - mi 59 b) {m : aM} (hfr : fr70 mi m) (hnc : ¬ clash (mL mi) b (t - mi 59 b) t (mi 60 b)) (hmv : mvI mi m (t - mi 59 b) t (mi 58 18).toNat) (hrg : ∀ j : Int, 0 ≤ j → j < 52 → -300 ≤ m 70 j ∧ m 70 j ≤ 300) : ∀ (n : Nat) (g z : Int), (z = 0 → g = 1) → (∀ k : Nat, (k : Int) + 1 = z → g = 1 + psum (m 70) k) → (∀ k : Int, t - mi 59 b ≤ k → k < t - mi 59 b + z → 1 + cov (mL mi) k ≤ mi 58 7) → (0 ≤ z ∧ z ≤ mi 59 b) → mi 59 b - z < n → AWm RX7 cX7_refuses 9 2 (Pi mr (fun r m => r = exam (mL mi) (mi 58 9) (mi 58 7) (mi 63 b) (mi 86 b) (mi 59 b) (mi 60 b) b t ∧ fr70 mi m)) 270 [(0, .ref 58), (1, iI b), (2, lL t), (4, iI t), (5, iI (t - mi 59 b)), (6, iI g), (7, iI z)] [] m mr := by
  intro n
  induction n with
  | zero => intro g z h1 h2 h3 h4 h5; omega
  | succ n ih =>
    intro g z h1 h2 h3 h4 h5
    obtain ⟨k59, k60, k61, k62, k63, k86, k87, k88⟩ := hB.2.2 b hb.1 hb.2
    have hn := hB.1
    have hnw := hB.2.1
    have hc1 := ho.1
    have hln := mL_len ho
    have f18 : m 58 18 = mi 58 18 := hfr _ _ (by decide)
    have f9 : m 58 9 = mi 58 9 := hfr _ _ (by decide)
    have f7 : m 58 7 = mi 58 7 := hfr _ _ (by decide)
    have f59 : m 59 b = mi 59 b := hfr _ _ (by decide)
    have f60 : m 60 b = mi 60 b := hfr _ _ (by decide)
    refine aw_iload (i := 7) (q := 6) dX7_refuses_270 rfl ?_
    refine aw_iload (i := 4) (q := 3) dX7_refuses_272 rfl ?_
    refine aw_iload (i := 5) (q := 4) dX7_refuses_274 rfl ?_
    refine aw_isub dX7_refuses_276 ?_
    refine aw_icmp_ge (tgt := 310) dX7_refuses_277 (by decide) (by first | assumption | omega) (by first | assumption | omega) (fun c277 => ?_) (fun c277 => ?_)
    · refine aw_iconst dX7_refuses_310 ?_
      exact aw_iret ⟨_, rfl, rfl, rfl, (by unfold exam; rw [pick_neg (by omega), pick_neg (by omega), pick_neg (by omega), pick_neg (by omega),  pick_neg (fun q => by rcases q with q | q; (omega); (exact hnc q)), pick_neg (fun q => by obtain ⟨k, q1, q2, q3⟩ := q; have := h3 k q1 (by omega); omega)]), hfr⟩ (Nat.le_refl _) (Nat.le_refl _) dX7_refuses_311
    · have hc9 := hrg z (by omega) (by omega)
      have hgz : g + m 70 z = 1 + cov (mL mi) (t - mi 59 b + z) := by have ho9 := hmv z.toNat (by omega); rw [show ((z.toNat : Nat) : Int) = z by omega] at ho9; unfold mL; rw [← ho9]; by_cases e : z = 0; (have := h1 e; subst e; show g + m 70 0 = 1 + m 70 0; omega); (have := h2 (z.toNat - 1) (by omega); rw [show z.toNat = (z.toNat - 1) + 1 by omega, psum_one, show (((z.toNat - 1 : Nat) : Int) + 1) = z by omega]; omega)
      have hcr := cov_nn (mL mi) (t - mi 59 b + z)
      have hgr : -700 ≤ g ∧ g ≤ 700 := by have hcl := cov_le (mL mi) (t - mi 59 b + z); omega
      refine aw_iload (i := 6) (q := 5) dX7_refuses_280 rfl ?_
      refine aw_aload_n (i := 0) (q := 0) dX7_refuses_282 rfl rfl ?_
      refine aw_getR (r := 70) flX7_48 SH_58 (by decide) rfl (rk_58_17 hR) dX7_refuses_283 ?_
      refine aw_iload (i := 7) (q := 6) dX7_refuses_286 rfl ?_
      refine aw_ialdv (x := m 70 z) SH_70 (by decide) ⟨by omega, by omega⟩ rfl dX7_refuses_288 (fun r288 => ?_)
      refine aw_iadd dX7_refuses_289 ?_
      refine aw_istore (i := 6) (lv' := [(0, .ref 58), (1, iI b), (2, lL t), (4, iI t), (5, iI (t - mi 59 b)), (6, iI (g + (m 70 z))), (7, iI z)]) [1, 2, 3, 4, 5, 0, 6] dX7_refuses_290 (by decide) rfl ?_
      refine aw_iload (i := 6) (q := 5) dX7_refuses_292 rfl ?_
      refine aw_aload_n (i := 0) (q := 0) dX7_refuses_294 rfl rfl ?_
      refine aw_getIk (x := m 58 7) 7 flX7_126 SH_58 (by decide) rfl rfl rfl dX7_refuses_295 (fun r295 => ?_)
      refine aw_icmp_le (tgt := 304) dX7_refuses_298 (by decide) (by first | assumption | omega) (by first | assumption | omega) (fun c298 => ?_) (fun c298 => ?_)
      · refine aw_iinc (i := 7) (q := 6) (x := z) (lv' := [(0, .ref 58), (1, iI b), (2, lL t), (4, iI t), (5, iI (t - mi 59 b)), (6, iI (g + (m 70 z))), (7, iI (z + 1))]) [1, 2, 3, 4, 5, 6, 0] dX7_refuses_304 rfl (by decide) rfl ?_
        refine aw_goto (tgt := 270) dX7_refuses_307 (by decide) ?_
        exact ih _ _ (fun e => by omega) (fun k e => by have e2 : z = (k : Int) := (by omega); have ho9 := hmv k (by omega); rw [← e2] at ho9; unfold mL at hgz; omega) (fun k x1 x2 => by by_cases e : k = t - mi 59 b + z; (subst e; omega); (exact h3 k x1 (by omega))) (by omega) (by omega)
      · refine aw_bipush (x := -8) dX7_refuses_301 rfl ?_
        exact aw_iret ⟨_, rfl, rfl, rfl, (by unfold exam; rw [pick_neg (by omega), pick_neg (by omega), pick_neg (by omega), pick_neg (by omega),  pick_neg (fun q => by rcases q with q | q; (omega); (exact hnc q)), pick_pos ⟨t - mi 59 b + z, by omega, by omega, by omega⟩]), hfr⟩ (Nat.le_refl _) (Nat.le_refl _) dX7_refuses_303
theorem mv_rng {m : aM} {lo hi : Int} {i : Nat} (h : ∀ j : Int, 0 ≤ j → j < 52 → -(i : Int) ≤ m 70 j ∧ m 70 j ≤ i) (hlh : lo < hi) : ∀ j : Int, 0 ≤ j → j < 52 → -((i + 1 : Nat) : Int) ≤ aup (aup m 70 lo (m 70 lo + 1)) 70 hi (m 70 hi - 1) 70 j ∧ aup (aup m 70 lo (m 70 lo + 1)) 70 hi (m 70 hi - 1) 70 j ≤ ((i + 1 : Nat) : Int) := by
  intro j j0 j1
  have e := h j j0 j1
  have e2 : ((i + 1 : Nat) : Int) = (i : Int) + 1 := rfl
  rw [e2]
  by_cases q : j = hi
  · subst q; rw [aup_eq]; omega
  · rw [aup_k q]
    by_cases q2 : j = lo
    · subst q2; rw [aup_eq]; omega
    · rw [aup_k q2]; omega
theorem l_ref2 {mr : aR} (hR : Rok mr) {mi : aM} {b t : Int} (hB : mB mi) (ho : mOk mi) (hpl : 1 ≤ mi 58 7 ∧ mi 58 7 ≤ 12) (hb : 0 ≤ b ∧ b < mi 58 6) (ht : 0 ≤ t ∧ t ≤ 100000) (hsw : mi 86 b = 0) (hcm : mi 58 9 ≤ t - mi 59 b) (hfl : mi 58 18 < 300) (hoc : mi 63 b ≤ t - mi 59 b) : ∀ (n : Nat) (m : aM) (z : Int) (i : Nat), fr70 mi m → mvI mi m (t - mi 59 b) t i → (∀ j : Int, 0 ≤ j → j < 52 → -(i : Int) ≤ m 70 j ∧ m 70 j ≤ i) → (∀ j : Int, 0 ≤ j → j < z → ¬ (mi 67 j = b ∧ mi 69 j < t + mi 60 b ∧ t - mi 59 b < mi 68 j + mi 60 b)) → z = (i : Int) → (0 ≤ z ∧ z ≤ mi 58 18) → mi 58 18 - z < n → AWm RX7 cX7_refuses 9 2 (Pi mr (fun r m => r = exam (mL mi) (mi 58 9) (mi 58 7) (mi 63 b) (mi 86 b) (mi 59 b) (mi 60 b) b t ∧ fr70 mi m)) 107 [(0, .ref 58), (1, iI b), (2, lL t), (4, iI t), (5, iI (t - mi 59 b)), (6, iI z)] [] m mr := by
  intro n
  induction n with
  | zero => intro m z i hfr hmv hrg hcl hz h2 h3; omega
  | succ n ih =>
    intro m z i hfr hmv hrg hcl hz h2 h3
    obtain ⟨k59, k60, k61, k62, k63, k86, k87, k88⟩ := hB.2.2 b hb.1 hb.2
    have hn := hB.1
    have hnw := hB.2.1
    have hc1 := ho.1
    have hln := mL_len ho
    have f18 : m 58 18 = mi 58 18 := hfr _ _ (by decide)
    have f9 : m 58 9 = mi 58 9 := hfr _ _ (by decide)
    have f7 : m 58 7 = mi 58 7 := hfr _ _ (by decide)
    have f59 : m 59 b = mi 59 b := hfr _ _ (by decide)
    have f60 : m 60 b = mi 60 b := hfr _ _ (by decide)
    have g67 : m 67 z = mi 67 z := hfr _ _ (by decide)
    have g68 : m 68 z = mi 68 z := hfr _ _ (by decide)
    have g69 : m 69 z = mi 69 z := hfr _ _ (by decide)
    refine aw_iload (i := 6) (q := 5) dX7_refuses_107 rfl ?_
    refine aw_aload_n (i := 0) (q := 0) dX7_refuses_109 rfl rfl ?_
    refine aw_getIk (x := m 58 18) 18 flX7_171 SH_58 (by decide) rfl rfl rfl dX7_refuses_110 (fun r110 => ?_)
    refine aw_icmp_ge (tgt := 264) dX7_refuses_113 (by decide) (by first | assumption | omega) (by first | assumption | omega) (fun c113 => ?_) (fun c113 => ?_)
    · refine aw_sub (lv' := [(0, .ref 58), (1, iI b), (2, lL t), (4, iI t), (5, iI (t - mi 59 b))]) [0, 1, 2, 3, 4] rfl ?_
      refine aw_iconst dX7_refuses_264 ?_
      refine aw_istore (i := 6) (lv' := [(0, .ref 58), (1, iI b), (2, lL t), (4, iI t), (5, iI (t - mi 59 b)), (6, iI 1)]) [1, 2, 3, 4, 5, 0] dX7_refuses_265 (by decide) rfl ?_
      refine aw_iconst dX7_refuses_267 ?_
      refine aw_istore (i := 7) (lv' := [(0, .ref 58), (1, iI b), (2, lL t), (4, iI t), (5, iI (t - mi 59 b)), (6, iI 1), (7, iI 0)]) [1, 2, 3, 4, 5, 6, 0] dX7_refuses_268 (by decide) rfl ?_
      have hi9 : i = (mi 58 18).toNat := by omega
      subst hi9
      exact l_ref3 hR hB ho hpl hb ht hsw hcm hfl hoc hfr (fun q => by obtain ⟨s, q1, q2, q3, q4⟩ := q; obtain ⟨j, j0, j1, rfl⟩ := (mL_mem ho).mp q1; exact hcl j j0 (by omega) ⟨q2, q3, q4⟩) hmv (fun j j0 j1 => by have := hrg j j0 j1; omega) ((mi 59 b).toNat + 1) 1 0 (fun _ => rfl) (fun k e => by omega) (fun k x1 x2 => by omega) (by omega) (by omega)
    · have hz9 := ho.2 z (by omega) (by omega)
      refine aw_aload_n (i := 0) (q := 0) dX7_refuses_116 rfl rfl ?_
      refine aw_getR (r := 67) flX7_39 SH_58 (by decide) rfl (rk_58_14 hR) dX7_refuses_117 ?_
      refine aw_iload (i := 6) (q := 5) dX7_refuses_120 rfl ?_
      refine aw_ialdv (x := m 67 z) SH_67 (by decide) ⟨by omega, by omega⟩ rfl dX7_refuses_122 (fun r122 => ?_)
      refine aw_iload_n (i := 1) (q := 1) dX7_refuses_123 rfl rfl ?_
      refine aw_icmp_ne (tgt := 168) dX7_refuses_124 (by decide) (by first | assumption | omega) (by first | assumption | omega) (fun c124 => ?_) (fun c124 => ?_)
      · have hncz : ¬ (mi 67 z = b ∧ mi 69 z < t + mi 60 b ∧ t - mi 59 b < mi 68 z + mi 60 b) := by omega
        refine aw_aload_n (i := 0) (q := 0) dX7_refuses_168 rfl rfl ?_
        refine aw_getR (r := 69) flX7_45 SH_58 (by decide) rfl (rk_58_16 hR) dX7_refuses_169 ?_
        refine aw_iload (i := 6) (q := 5) dX7_refuses_172 rfl ?_
        refine aw_ialdv (x := m 69 z) SH_69 (by decide) ⟨by omega, by omega⟩ rfl dX7_refuses_174 (fun r174 => ?_)
        refine aw_iload (i := 5) (q := 4) dX7_refuses_175 rfl ?_
        refine aw_icmp_le (tgt := 190) dX7_refuses_177 (by decide) (by first | assumption | omega) (by first | assumption | omega) (fun c177 => ?_) (fun c177 => ?_)
        · refine aw_iload (i := 5) (q := 4) dX7_refuses_190 rfl ?_
          refine aw_istore (i := 7) (lv' := [(0, .ref 58), (1, iI b), (2, lL t), (4, iI t), (5, iI (t - mi 59 b)), (6, iI z), (7, iI (t - mi 59 b))]) [1, 2, 3, 4, 5, 6, 0] dX7_refuses_192 (by decide) rfl ?_
          refine aw_aload_n (i := 0) (q := 0) dX7_refuses_194 rfl rfl ?_
          refine aw_getR (r := 68) flX7_42 SH_58 (by decide) rfl (rk_58_15 hR) dX7_refuses_195 ?_
          refine aw_iload (i := 6) (q := 5) dX7_refuses_198 rfl ?_
          refine aw_ialdv (x := m 68 z) SH_68 (by decide) ⟨by omega, by omega⟩ rfl dX7_refuses_200 (fun r200 => ?_)
          refine aw_iload (i := 4) (q := 3) dX7_refuses_201 rfl ?_
          refine aw_icmp_ge (tgt := 216) dX7_refuses_203 (by decide) (by first | assumption | omega) (by first | assumption | omega) (fun c203 => ?_) (fun c203 => ?_)
          · refine aw_iload (i := 4) (q := 3) dX7_refuses_216 rfl ?_
            refine aw_istore (i := 8) (lv' := [(0, .ref 58), (1, iI b), (2, lL t), (4, iI t), (5, iI (t - mi 59 b)), (6, iI z), (7, iI (t - mi 59 b)), (8, iI t)]) [1, 2, 3, 4, 5, 6, 7, 0] dX7_refuses_218 (by decide) rfl ?_
            refine aw_iload (i := 7) (q := 6) dX7_refuses_220 rfl ?_
            refine aw_iload (i := 8) (q := 7) dX7_refuses_222 rfl ?_
            refine aw_icmp_lt (tgt := 230) dX7_refuses_224 (by decide) (by first | assumption | omega) (by first | assumption | omega) (fun c224 => ?_) (fun c224 => ?_)
            · have hlo9 := hrg ((t - mi 59 b) - (t - mi 59 b)) (by omega) (by omega)
              have hhi9 := hrg (t - (t - mi 59 b)) (by omega) (by omega)
              refine aw_aload_n (i := 0) (q := 0) dX7_refuses_230 rfl rfl ?_
              refine aw_getR (r := 70) flX7_48 SH_58 (by decide) rfl (rk_58_17 hR) dX7_refuses_231 ?_
              refine aw_iload (i := 7) (q := 6) dX7_refuses_234 rfl ?_
              refine aw_iload (i := 5) (q := 4) dX7_refuses_236 rfl ?_
              refine aw_isub dX7_refuses_238 ?_
              refine aw_dup2 dX7_refuses_239 rfl rfl ?_
              refine aw_ialdv (x := m 70 ((t - mi 59 b) - (t - mi 59 b))) SH_70 (by decide) ⟨by omega, by omega⟩ rfl dX7_refuses_240 (fun r240 => ?_)
              refine aw_iconst dX7_refuses_241 ?_
              refine aw_iadd dX7_refuses_242 ?_
              refine aw_iast SH_70 (by decide) ⟨by omega, by omega⟩ (by first | assumption | omega) dX7_refuses_243 ?_
              refine aw_aload_n (i := 0) (q := 0) dX7_refuses_244 rfl rfl ?_
              refine aw_getR (r := 70) flX7_48 SH_58 (by decide) rfl (rk_58_17 hR) dX7_refuses_245 ?_
              refine aw_iload (i := 8) (q := 7) dX7_refuses_248 rfl ?_
              refine aw_iload (i := 5) (q := 4) dX7_refuses_250 rfl ?_
              refine aw_isub dX7_refuses_252 ?_
              refine aw_dup2 dX7_refuses_253 rfl rfl ?_
              refine aw_ialdv (x := m 70 (t - (t - mi 59 b))) SH_70 (by decide) ⟨by omega, by omega⟩ (by (rw [aup_k (by omega)]) <;> rfl) dX7_refuses_254 (fun r254 => ?_)
              refine aw_iconst dX7_refuses_255 ?_
              refine aw_isub dX7_refuses_256 ?_
              refine aw_iast SH_70 (by decide) ⟨by omega, by omega⟩ (by first | assumption | omega) dX7_refuses_257 ?_
              refine aw_sub (lv' := [(0, .ref 58), (1, iI b), (2, lL t), (4, iI t), (5, iI (t - mi 59 b)), (6, iI z)]) [0, 1, 2, 3, 4, 5] rfl ?_
              refine aw_iinc (i := 6) (q := 5) (x := z) (lv' := [(0, .ref 58), (1, iI b), (2, lL t), (4, iI t), (5, iI (t - mi 59 b)), (6, iI (z + 1))]) [1, 2, 3, 4, 5, 0] dX7_refuses_258 rfl (by decide) rfl ?_
              refine aw_goto (tgt := 107) dX7_refuses_261 (by decide) ?_
              exact ih _ (z + 1) (i + 1) (fun x j hx => by rw [aup_a hx, aup_a hx]; exact hfr x j hx) (mvI_add hmv (by omega) (fun k x1 x2 => by rw [← hz]; omega)) (mv_rng hrg (by omega)) (fun j j0 j1 => by by_cases e9 : j = z; (subst e9; exact hncz); (exact hcl j j0 (by omega))) (by omega) (by omega) (by omega)
            · refine aw_goto (tgt := 258) dX7_refuses_227 (by decide) ?_
              refine aw_sub (lv' := [(0, .ref 58), (1, iI b), (2, lL t), (4, iI t), (5, iI (t - mi 59 b)), (6, iI z)]) [0, 1, 2, 3, 4, 5] rfl ?_
              refine aw_iinc (i := 6) (q := 5) (x := z) (lv' := [(0, .ref 58), (1, iI b), (2, lL t), (4, iI t), (5, iI (t - mi 59 b)), (6, iI (z + 1))]) [1, 2, 3, 4, 5, 0] dX7_refuses_258 rfl (by decide) rfl ?_
              refine aw_goto (tgt := 107) dX7_refuses_261 (by decide) ?_
              exact ih _ (z + 1) (i + 1) hfr (mvI_skip hmv (fun k x1 x2 => by rw [← hz]; omega)) (fun j j0 j1 => by have := hrg j j0 j1; omega) (fun j j0 j1 => by by_cases e9 : j = z; (subst e9; exact hncz); (exact hcl j j0 (by omega))) (by omega) (by omega) (by omega)
          · refine aw_aload_n (i := 0) (q := 0) dX7_refuses_206 rfl rfl ?_
            refine aw_getR (r := 68) flX7_42 SH_58 (by decide) rfl (rk_58_15 hR) dX7_refuses_207 ?_
            refine aw_iload (i := 6) (q := 5) dX7_refuses_210 rfl ?_
            refine aw_ialdv (x := m 68 z) SH_68 (by decide) ⟨by omega, by omega⟩ rfl dX7_refuses_212 (fun r212 => ?_)
            refine aw_goto (tgt := 218) dX7_refuses_213 (by decide) ?_
            refine aw_istore (i := 8) (lv' := [(0, .ref 58), (1, iI b), (2, lL t), (4, iI t), (5, iI (t - mi 59 b)), (6, iI z), (7, iI (t - mi 59 b)), (8, iI (m 68 z))]) [1, 2, 3, 4, 5, 6, 7, 0] dX7_refuses_218 (by decide) rfl ?_
            refine aw_iload (i := 7) (q := 6) dX7_refuses_220 rfl ?_
            refine aw_iload (i := 8) (q := 7) dX7_refuses_222 rfl ?_
            refine aw_icmp_lt (tgt := 230) dX7_refuses_224 (by decide) (by first | assumption | omega) (by first | assumption | omega) (fun c224 => ?_) (fun c224 => ?_)
            · have hlo9 := hrg ((t - mi 59 b) - (t - mi 59 b)) (by omega) (by omega)
              have hhi9 := hrg ((m 68 z) - (t - mi 59 b)) (by omega) (by omega)
              refine aw_aload_n (i := 0) (q := 0) dX7_refuses_230 rfl rfl ?_
              refine aw_getR (r := 70) flX7_48 SH_58 (by decide) rfl (rk_58_17 hR) dX7_refuses_231 ?_
              refine aw_iload (i := 7) (q := 6) dX7_refuses_234 rfl ?_
              refine aw_iload (i := 5) (q := 4) dX7_refuses_236 rfl ?_
              refine aw_isub dX7_refuses_238 ?_
              refine aw_dup2 dX7_refuses_239 rfl rfl ?_
              refine aw_ialdv (x := m 70 ((t - mi 59 b) - (t - mi 59 b))) SH_70 (by decide) ⟨by omega, by omega⟩ rfl dX7_refuses_240 (fun r240 => ?_)
              refine aw_iconst dX7_refuses_241 ?_
              refine aw_iadd dX7_refuses_242 ?_
              refine aw_iast SH_70 (by decide) ⟨by omega, by omega⟩ (by first | assumption | omega) dX7_refuses_243 ?_
              refine aw_aload_n (i := 0) (q := 0) dX7_refuses_244 rfl rfl ?_
              refine aw_getR (r := 70) flX7_48 SH_58 (by decide) rfl (rk_58_17 hR) dX7_refuses_245 ?_
              refine aw_iload (i := 8) (q := 7) dX7_refuses_248 rfl ?_
              refine aw_iload (i := 5) (q := 4) dX7_refuses_250 rfl ?_
              refine aw_isub dX7_refuses_252 ?_
              refine aw_dup2 dX7_refuses_253 rfl rfl ?_
              refine aw_ialdv (x := m 70 ((m 68 z) - (t - mi 59 b))) SH_70 (by decide) ⟨by omega, by omega⟩ (by (rw [aup_k (by omega)]) <;> rfl) dX7_refuses_254 (fun r254 => ?_)
              refine aw_iconst dX7_refuses_255 ?_
              refine aw_isub dX7_refuses_256 ?_
              refine aw_iast SH_70 (by decide) ⟨by omega, by omega⟩ (by first | assumption | omega) dX7_refuses_257 ?_
              refine aw_sub (lv' := [(0, .ref 58), (1, iI b), (2, lL t), (4, iI t), (5, iI (t - mi 59 b)), (6, iI z)]) [0, 1, 2, 3, 4, 5] rfl ?_
              refine aw_iinc (i := 6) (q := 5) (x := z) (lv' := [(0, .ref 58), (1, iI b), (2, lL t), (4, iI t), (5, iI (t - mi 59 b)), (6, iI (z + 1))]) [1, 2, 3, 4, 5, 0] dX7_refuses_258 rfl (by decide) rfl ?_
              refine aw_goto (tgt := 107) dX7_refuses_261 (by decide) ?_
              exact ih _ (z + 1) (i + 1) (fun x j hx => by rw [aup_a hx, aup_a hx]; exact hfr x j hx) (mvI_add hmv (by omega) (fun k x1 x2 => by rw [← hz]; omega)) (mv_rng hrg (by omega)) (fun j j0 j1 => by by_cases e9 : j = z; (subst e9; exact hncz); (exact hcl j j0 (by omega))) (by omega) (by omega) (by omega)
            · refine aw_goto (tgt := 258) dX7_refuses_227 (by decide) ?_
              refine aw_sub (lv' := [(0, .ref 58), (1, iI b), (2, lL t), (4, iI t), (5, iI (t - mi 59 b)), (6, iI z)]) [0, 1, 2, 3, 4, 5] rfl ?_
              refine aw_iinc (i := 6) (q := 5) (x := z) (lv' := [(0, .ref 58), (1, iI b), (2, lL t), (4, iI t), (5, iI (t - mi 59 b)), (6, iI (z + 1))]) [1, 2, 3, 4, 5, 0] dX7_refuses_258 rfl (by decide) rfl ?_
              refine aw_goto (tgt := 107) dX7_refuses_261 (by decide) ?_
              exact ih _ (z + 1) (i + 1) hfr (mvI_skip hmv (fun k x1 x2 => by rw [← hz]; omega)) (fun j j0 j1 => by have := hrg j j0 j1; omega) (fun j j0 j1 => by by_cases e9 : j = z; (subst e9; exact hncz); (exact hcl j j0 (by omega))) (by omega) (by omega) (by omega)
        · refine aw_aload_n (i := 0) (q := 0) dX7_refuses_180 rfl rfl ?_
          refine aw_getR (r := 69) flX7_45 SH_58 (by decide) rfl (rk_58_16 hR) dX7_refuses_181 ?_
          refine aw_iload (i := 6) (q := 5) dX7_refuses_184 rfl ?_
          refine aw_ialdv (x := m 69 z) SH_69 (by decide) ⟨by omega, by omega⟩ rfl dX7_refuses_186 (fun r186 => ?_)
          refine aw_goto (tgt := 192) dX7_refuses_187 (by decide) ?_
          refine aw_istore (i := 7) (lv' := [(0, .ref 58), (1, iI b), (2, lL t), (4, iI t), (5, iI (t - mi 59 b)), (6, iI z), (7, iI (m 69 z))]) [1, 2, 3, 4, 5, 6, 0] dX7_refuses_192 (by decide) rfl ?_
          refine aw_aload_n (i := 0) (q := 0) dX7_refuses_194 rfl rfl ?_
          refine aw_getR (r := 68) flX7_42 SH_58 (by decide) rfl (rk_58_15 hR) dX7_refuses_195 ?_
          refine aw_iload (i := 6) (q := 5) dX7_refuses_198 rfl ?_
          refine aw_ialdv (x := m 68 z) SH_68 (by decide) ⟨by omega, by omega⟩ rfl dX7_refuses_200 (fun r200 => ?_)
          refine aw_iload (i := 4) (q := 3) dX7_refuses_201 rfl ?_
          refine aw_icmp_ge (tgt := 216) dX7_refuses_203 (by decide) (by first | assumption | omega) (by first | assumption | omega) (fun c203 => ?_) (fun c203 => ?_)
          · refine aw_iload (i := 4) (q := 3) dX7_refuses_216 rfl ?_
            refine aw_istore (i := 8) (lv' := [(0, .ref 58), (1, iI b), (2, lL t), (4, iI t), (5, iI (t - mi 59 b)), (6, iI z), (7, iI (m 69 z)), (8, iI t)]) [1, 2, 3, 4, 5, 6, 7, 0] dX7_refuses_218 (by decide) rfl ?_
            refine aw_iload (i := 7) (q := 6) dX7_refuses_220 rfl ?_
            refine aw_iload (i := 8) (q := 7) dX7_refuses_222 rfl ?_
            refine aw_icmp_lt (tgt := 230) dX7_refuses_224 (by decide) (by first | assumption | omega) (by first | assumption | omega) (fun c224 => ?_) (fun c224 => ?_)
            · have hlo9 := hrg ((m 69 z) - (t - mi 59 b)) (by omega) (by omega)
              have hhi9 := hrg (t - (t - mi 59 b)) (by omega) (by omega)
              refine aw_aload_n (i := 0) (q := 0) dX7_refuses_230 rfl rfl ?_
              refine aw_getR (r := 70) flX7_48 SH_58 (by decide) rfl (rk_58_17 hR) dX7_refuses_231 ?_
              refine aw_iload (i := 7) (q := 6) dX7_refuses_234 rfl ?_
              refine aw_iload (i := 5) (q := 4) dX7_refuses_236 rfl ?_
              refine aw_isub dX7_refuses_238 ?_
              refine aw_dup2 dX7_refuses_239 rfl rfl ?_
              refine aw_ialdv (x := m 70 ((m 69 z) - (t - mi 59 b))) SH_70 (by decide) ⟨by omega, by omega⟩ rfl dX7_refuses_240 (fun r240 => ?_)
              refine aw_iconst dX7_refuses_241 ?_
              refine aw_iadd dX7_refuses_242 ?_
              refine aw_iast SH_70 (by decide) ⟨by omega, by omega⟩ (by first | assumption | omega) dX7_refuses_243 ?_
              refine aw_aload_n (i := 0) (q := 0) dX7_refuses_244 rfl rfl ?_
              refine aw_getR (r := 70) flX7_48 SH_58 (by decide) rfl (rk_58_17 hR) dX7_refuses_245 ?_
              refine aw_iload (i := 8) (q := 7) dX7_refuses_248 rfl ?_
              refine aw_iload (i := 5) (q := 4) dX7_refuses_250 rfl ?_
              refine aw_isub dX7_refuses_252 ?_
              refine aw_dup2 dX7_refuses_253 rfl rfl ?_
              refine aw_ialdv (x := m 70 (t - (t - mi 59 b))) SH_70 (by decide) ⟨by omega, by omega⟩ (by (rw [aup_k (by omega)]) <;> rfl) dX7_refuses_254 (fun r254 => ?_)
              refine aw_iconst dX7_refuses_255 ?_
              refine aw_isub dX7_refuses_256 ?_
              refine aw_iast SH_70 (by decide) ⟨by omega, by omega⟩ (by first | assumption | omega) dX7_refuses_257 ?_
              refine aw_sub (lv' := [(0, .ref 58), (1, iI b), (2, lL t), (4, iI t), (5, iI (t - mi 59 b)), (6, iI z)]) [0, 1, 2, 3, 4, 5] rfl ?_
              refine aw_iinc (i := 6) (q := 5) (x := z) (lv' := [(0, .ref 58), (1, iI b), (2, lL t), (4, iI t), (5, iI (t - mi 59 b)), (6, iI (z + 1))]) [1, 2, 3, 4, 5, 0] dX7_refuses_258 rfl (by decide) rfl ?_
              refine aw_goto (tgt := 107) dX7_refuses_261 (by decide) ?_
              exact ih _ (z + 1) (i + 1) (fun x j hx => by rw [aup_a hx, aup_a hx]; exact hfr x j hx) (mvI_add hmv (by omega) (fun k x1 x2 => by rw [← hz]; omega)) (mv_rng hrg (by omega)) (fun j j0 j1 => by by_cases e9 : j = z; (subst e9; exact hncz); (exact hcl j j0 (by omega))) (by omega) (by omega) (by omega)
            · refine aw_goto (tgt := 258) dX7_refuses_227 (by decide) ?_
              refine aw_sub (lv' := [(0, .ref 58), (1, iI b), (2, lL t), (4, iI t), (5, iI (t - mi 59 b)), (6, iI z)]) [0, 1, 2, 3, 4, 5] rfl ?_
              refine aw_iinc (i := 6) (q := 5) (x := z) (lv' := [(0, .ref 58), (1, iI b), (2, lL t), (4, iI t), (5, iI (t - mi 59 b)), (6, iI (z + 1))]) [1, 2, 3, 4, 5, 0] dX7_refuses_258 rfl (by decide) rfl ?_
              refine aw_goto (tgt := 107) dX7_refuses_261 (by decide) ?_
              exact ih _ (z + 1) (i + 1) hfr (mvI_skip hmv (fun k x1 x2 => by rw [← hz]; omega)) (fun j j0 j1 => by have := hrg j j0 j1; omega) (fun j j0 j1 => by by_cases e9 : j = z; (subst e9; exact hncz); (exact hcl j j0 (by omega))) (by omega) (by omega) (by omega)
          · refine aw_aload_n (i := 0) (q := 0) dX7_refuses_206 rfl rfl ?_
            refine aw_getR (r := 68) flX7_42 SH_58 (by decide) rfl (rk_58_15 hR) dX7_refuses_207 ?_
            refine aw_iload (i := 6) (q := 5) dX7_refuses_210 rfl ?_
            refine aw_ialdv (x := m 68 z) SH_68 (by decide) ⟨by omega, by omega⟩ rfl dX7_refuses_212 (fun r212 => ?_)
            refine aw_goto (tgt := 218) dX7_refuses_213 (by decide) ?_
            refine aw_istore (i := 8) (lv' := [(0, .ref 58), (1, iI b), (2, lL t), (4, iI t), (5, iI (t - mi 59 b)), (6, iI z), (7, iI (m 69 z)), (8, iI (m 68 z))]) [1, 2, 3, 4, 5, 6, 7, 0] dX7_refuses_218 (by decide) rfl ?_
            refine aw_iload (i := 7) (q := 6) dX7_refuses_220 rfl ?_
            refine aw_iload (i := 8) (q := 7) dX7_refuses_222 rfl ?_
            refine aw_icmp_lt (tgt := 230) dX7_refuses_224 (by decide) (by first | assumption | omega) (by first | assumption | omega) (fun c224 => ?_) (fun c224 => ?_)
            · have hlo9 := hrg ((m 69 z) - (t - mi 59 b)) (by omega) (by omega)
              have hhi9 := hrg ((m 68 z) - (t - mi 59 b)) (by omega) (by omega)
              refine aw_aload_n (i := 0) (q := 0) dX7_refuses_230 rfl rfl ?_
              refine aw_getR (r := 70) flX7_48 SH_58 (by decide) rfl (rk_58_17 hR) dX7_refuses_231 ?_
              refine aw_iload (i := 7) (q := 6) dX7_refuses_234 rfl ?_
              refine aw_iload (i := 5) (q := 4) dX7_refuses_236 rfl ?_
              refine aw_isub dX7_refuses_238 ?_
              refine aw_dup2 dX7_refuses_239 rfl rfl ?_
              refine aw_ialdv (x := m 70 ((m 69 z) - (t - mi 59 b))) SH_70 (by decide) ⟨by omega, by omega⟩ rfl dX7_refuses_240 (fun r240 => ?_)
              refine aw_iconst dX7_refuses_241 ?_
              refine aw_iadd dX7_refuses_242 ?_
              refine aw_iast SH_70 (by decide) ⟨by omega, by omega⟩ (by first | assumption | omega) dX7_refuses_243 ?_
              refine aw_aload_n (i := 0) (q := 0) dX7_refuses_244 rfl rfl ?_
              refine aw_getR (r := 70) flX7_48 SH_58 (by decide) rfl (rk_58_17 hR) dX7_refuses_245 ?_
              refine aw_iload (i := 8) (q := 7) dX7_refuses_248 rfl ?_
              refine aw_iload (i := 5) (q := 4) dX7_refuses_250 rfl ?_
              refine aw_isub dX7_refuses_252 ?_
              refine aw_dup2 dX7_refuses_253 rfl rfl ?_
              refine aw_ialdv (x := m 70 ((m 68 z) - (t - mi 59 b))) SH_70 (by decide) ⟨by omega, by omega⟩ (by (rw [aup_k (by omega)]) <;> rfl) dX7_refuses_254 (fun r254 => ?_)
              refine aw_iconst dX7_refuses_255 ?_
              refine aw_isub dX7_refuses_256 ?_
              refine aw_iast SH_70 (by decide) ⟨by omega, by omega⟩ (by first | assumption | omega) dX7_refuses_257 ?_
              refine aw_sub (lv' := [(0, .ref 58), (1, iI b), (2, lL t), (4, iI t), (5, iI (t - mi 59 b)), (6, iI z)]) [0, 1, 2, 3, 4, 5] rfl ?_
              refine aw_iinc (i := 6) (q := 5) (x := z) (lv' := [(0, .ref 58), (1, iI b), (2, lL t), (4, iI t), (5, iI (t - mi 59 b)), (6, iI (z + 1))]) [1, 2, 3, 4, 5, 0] dX7_refuses_258 rfl (by decide) rfl ?_
              refine aw_goto (tgt := 107) dX7_refuses_261 (by decide) ?_
              exact ih _ (z + 1) (i + 1) (fun x j hx => by rw [aup_a hx, aup_a hx]; exact hfr x j hx) (mvI_add hmv (by omega) (fun k x1 x2 => by rw [← hz]; omega)) (mv_rng hrg (by omega)) (fun j j0 j1 => by by_cases e9 : j = z; (subst e9; exact hncz); (exact hcl j j0 (by omega))) (by omega) (by omega) (by omega)
            · refine aw_goto (tgt := 258) dX7_refuses_227 (by decide) ?_
              refine aw_sub (lv' := [(0, .ref 58), (1, iI b), (2, lL t), (4, iI t), (5, iI (t - mi 59 b)), (6, iI z)]) [0, 1, 2, 3, 4, 5] rfl ?_
              refine aw_iinc (i := 6) (q := 5) (x := z) (lv' := [(0, .ref 58), (1, iI b), (2, lL t), (4, iI t), (5, iI (t - mi 59 b)), (6, iI (z + 1))]) [1, 2, 3, 4, 5, 0] dX7_refuses_258 rfl (by decide) rfl ?_
              refine aw_goto (tgt := 107) dX7_refuses_261 (by decide) ?_
              exact ih _ (z + 1) (i + 1) hfr (mvI_skip hmv (fun k x1 x2 => by rw [← hz]; omega)) (fun j j0 j1 => by have := hrg j j0 j1; omega) (fun j j0 j1 => by by_cases e9 : j = z; (subst e9; exact hncz); (exact hcl j j0 (by omega))) (by omega) (by omega) (by omega)
      · refine aw_iload (i := 5) (q := 4) dX7_refuses_127 rfl ?_
        refine aw_aload_n (i := 0) (q := 0) dX7_refuses_129 rfl rfl ?_
        refine aw_getR (r := 68) flX7_42 SH_58 (by decide) rfl (rk_58_15 hR) dX7_refuses_130 ?_
        refine aw_iload (i := 6) (q := 5) dX7_refuses_133 rfl ?_
        refine aw_ialdv (x := m 68 z) SH_68 (by decide) ⟨by omega, by omega⟩ rfl dX7_refuses_135 (fun r135 => ?_)
        refine aw_aload_n (i := 0) (q := 0) dX7_refuses_136 rfl rfl ?_
        refine aw_getR (r := 60) flX7_17 SH_58 (by decide) rfl (rk_58_2 hR) dX7_refuses_137 ?_
        refine aw_iload_n (i := 1) (q := 1) dX7_refuses_140 rfl rfl ?_
        refine aw_ialdv (x := m 60 b) SH_60 (by decide) ⟨by omega, by omega⟩ rfl dX7_refuses_141 (fun r141 => ?_)
        refine aw_iadd dX7_refuses_142 ?_
        refine aw_icmp_ge (tgt := 168) dX7_refuses_143 (by decide) (by first | assumption | omega) (by first | assumption | omega) (fun c143 => ?_) (fun c143 => ?_)
        · have hncz : ¬ (mi 67 z = b ∧ mi 69 z < t + mi 60 b ∧ t - mi 59 b < mi 68 z + mi 60 b) := by omega
          refine aw_aload_n (i := 0) (q := 0) dX7_refuses_168 rfl rfl ?_
          refine aw_getR (r := 69) flX7_45 SH_58 (by decide) rfl (rk_58_16 hR) dX7_refuses_169 ?_
          refine aw_iload (i := 6) (q := 5) dX7_refuses_172 rfl ?_
          refine aw_ialdv (x := m 69 z) SH_69 (by decide) ⟨by omega, by omega⟩ rfl dX7_refuses_174 (fun r174 => ?_)
          refine aw_iload (i := 5) (q := 4) dX7_refuses_175 rfl ?_
          refine aw_icmp_le (tgt := 190) dX7_refuses_177 (by decide) (by first | assumption | omega) (by first | assumption | omega) (fun c177 => ?_) (fun c177 => ?_)
          · refine aw_iload (i := 5) (q := 4) dX7_refuses_190 rfl ?_
            refine aw_istore (i := 7) (lv' := [(0, .ref 58), (1, iI b), (2, lL t), (4, iI t), (5, iI (t - mi 59 b)), (6, iI z), (7, iI (t - mi 59 b))]) [1, 2, 3, 4, 5, 6, 0] dX7_refuses_192 (by decide) rfl ?_
            refine aw_aload_n (i := 0) (q := 0) dX7_refuses_194 rfl rfl ?_
            refine aw_getR (r := 68) flX7_42 SH_58 (by decide) rfl (rk_58_15 hR) dX7_refuses_195 ?_
            refine aw_iload (i := 6) (q := 5) dX7_refuses_198 rfl ?_
            refine aw_ialdv (x := m 68 z) SH_68 (by decide) ⟨by omega, by omega⟩ rfl dX7_refuses_200 (fun r200 => ?_)
            refine aw_iload (i := 4) (q := 3) dX7_refuses_201 rfl ?_
            refine aw_icmp_ge (tgt := 216) dX7_refuses_203 (by decide) (by first | assumption | omega) (by first | assumption | omega) (fun c203 => ?_) (fun c203 => ?_)
            · refine aw_iload (i := 4) (q := 3) dX7_refuses_216 rfl ?_
              refine aw_istore (i := 8) (lv' := [(0, .ref 58), (1, iI b), (2, lL t), (4, iI t), (5, iI (t - mi 59 b)), (6, iI z), (7, iI (t - mi 59 b)), (8, iI t)]) [1, 2, 3, 4, 5, 6, 7, 0] dX7_refuses_218 (by decide) rfl ?_
              refine aw_iload (i := 7) (q := 6) dX7_refuses_220 rfl ?_
              refine aw_iload (i := 8) (q := 7) dX7_refuses_222 rfl ?_
              refine aw_icmp_lt (tgt := 230) dX7_refuses_224 (by decide) (by first | assumption | omega) (by first | assumption | omega) (fun c224 => ?_) (fun c224 => ?_)
              · have hlo9 := hrg ((t - mi 59 b) - (t - mi 59 b)) (by omega) (by omega)
                have hhi9 := hrg (t - (t - mi 59 b)) (by omega) (by omega)
                refine aw_aload_n (i := 0) (q := 0) dX7_refuses_230 rfl rfl ?_
                refine aw_getR (r := 70) flX7_48 SH_58 (by decide) rfl (rk_58_17 hR) dX7_refuses_231 ?_
                refine aw_iload (i := 7) (q := 6) dX7_refuses_234 rfl ?_
                refine aw_iload (i := 5) (q := 4) dX7_refuses_236 rfl ?_
                refine aw_isub dX7_refuses_238 ?_
                refine aw_dup2 dX7_refuses_239 rfl rfl ?_
                refine aw_ialdv (x := m 70 ((t - mi 59 b) - (t - mi 59 b))) SH_70 (by decide) ⟨by omega, by omega⟩ rfl dX7_refuses_240 (fun r240 => ?_)
                refine aw_iconst dX7_refuses_241 ?_
                refine aw_iadd dX7_refuses_242 ?_
                refine aw_iast SH_70 (by decide) ⟨by omega, by omega⟩ (by first | assumption | omega) dX7_refuses_243 ?_
                refine aw_aload_n (i := 0) (q := 0) dX7_refuses_244 rfl rfl ?_
                refine aw_getR (r := 70) flX7_48 SH_58 (by decide) rfl (rk_58_17 hR) dX7_refuses_245 ?_
                refine aw_iload (i := 8) (q := 7) dX7_refuses_248 rfl ?_
                refine aw_iload (i := 5) (q := 4) dX7_refuses_250 rfl ?_
                refine aw_isub dX7_refuses_252 ?_
                refine aw_dup2 dX7_refuses_253 rfl rfl ?_
                refine aw_ialdv (x := m 70 (t - (t - mi 59 b))) SH_70 (by decide) ⟨by omega, by omega⟩ (by (rw [aup_k (by omega)]) <;> rfl) dX7_refuses_254 (fun r254 => ?_)
                refine aw_iconst dX7_refuses_255 ?_
                refine aw_isub dX7_refuses_256 ?_
                refine aw_iast SH_70 (by decide) ⟨by omega, by omega⟩ (by first | assumption | omega) dX7_refuses_257 ?_
                refine aw_sub (lv' := [(0, .ref 58), (1, iI b), (2, lL t), (4, iI t), (5, iI (t - mi 59 b)), (6, iI z)]) [0, 1, 2, 3, 4, 5] rfl ?_
                refine aw_iinc (i := 6) (q := 5) (x := z) (lv' := [(0, .ref 58), (1, iI b), (2, lL t), (4, iI t), (5, iI (t - mi 59 b)), (6, iI (z + 1))]) [1, 2, 3, 4, 5, 0] dX7_refuses_258 rfl (by decide) rfl ?_
                refine aw_goto (tgt := 107) dX7_refuses_261 (by decide) ?_
                exact ih _ (z + 1) (i + 1) (fun x j hx => by rw [aup_a hx, aup_a hx]; exact hfr x j hx) (mvI_add hmv (by omega) (fun k x1 x2 => by rw [← hz]; omega)) (mv_rng hrg (by omega)) (fun j j0 j1 => by by_cases e9 : j = z; (subst e9; exact hncz); (exact hcl j j0 (by omega))) (by omega) (by omega) (by omega)
              · refine aw_goto (tgt := 258) dX7_refuses_227 (by decide) ?_
                refine aw_sub (lv' := [(0, .ref 58), (1, iI b), (2, lL t), (4, iI t), (5, iI (t - mi 59 b)), (6, iI z)]) [0, 1, 2, 3, 4, 5] rfl ?_
                refine aw_iinc (i := 6) (q := 5) (x := z) (lv' := [(0, .ref 58), (1, iI b), (2, lL t), (4, iI t), (5, iI (t - mi 59 b)), (6, iI (z + 1))]) [1, 2, 3, 4, 5, 0] dX7_refuses_258 rfl (by decide) rfl ?_
                refine aw_goto (tgt := 107) dX7_refuses_261 (by decide) ?_
                exact ih _ (z + 1) (i + 1) hfr (mvI_skip hmv (fun k x1 x2 => by rw [← hz]; omega)) (fun j j0 j1 => by have := hrg j j0 j1; omega) (fun j j0 j1 => by by_cases e9 : j = z; (subst e9; exact hncz); (exact hcl j j0 (by omega))) (by omega) (by omega) (by omega)
            · refine aw_aload_n (i := 0) (q := 0) dX7_refuses_206 rfl rfl ?_
              refine aw_getR (r := 68) flX7_42 SH_58 (by decide) rfl (rk_58_15 hR) dX7_refuses_207 ?_
              refine aw_iload (i := 6) (q := 5) dX7_refuses_210 rfl ?_
              refine aw_ialdv (x := m 68 z) SH_68 (by decide) ⟨by omega, by omega⟩ rfl dX7_refuses_212 (fun r212 => ?_)
              refine aw_goto (tgt := 218) dX7_refuses_213 (by decide) ?_
              refine aw_istore (i := 8) (lv' := [(0, .ref 58), (1, iI b), (2, lL t), (4, iI t), (5, iI (t - mi 59 b)), (6, iI z), (7, iI (t - mi 59 b)), (8, iI (m 68 z))]) [1, 2, 3, 4, 5, 6, 7, 0] dX7_refuses_218 (by decide) rfl ?_
              refine aw_iload (i := 7) (q := 6) dX7_refuses_220 rfl ?_
              refine aw_iload (i := 8) (q := 7) dX7_refuses_222 rfl ?_
              refine aw_icmp_lt (tgt := 230) dX7_refuses_224 (by decide) (by first | assumption | omega) (by first | assumption | omega) (fun c224 => ?_) (fun c224 => ?_)
              · have hlo9 := hrg ((t - mi 59 b) - (t - mi 59 b)) (by omega) (by omega)
                have hhi9 := hrg ((m 68 z) - (t - mi 59 b)) (by omega) (by omega)
                refine aw_aload_n (i := 0) (q := 0) dX7_refuses_230 rfl rfl ?_
                refine aw_getR (r := 70) flX7_48 SH_58 (by decide) rfl (rk_58_17 hR) dX7_refuses_231 ?_
                refine aw_iload (i := 7) (q := 6) dX7_refuses_234 rfl ?_
                refine aw_iload (i := 5) (q := 4) dX7_refuses_236 rfl ?_
                refine aw_isub dX7_refuses_238 ?_
                refine aw_dup2 dX7_refuses_239 rfl rfl ?_
                refine aw_ialdv (x := m 70 ((t - mi 59 b) - (t - mi 59 b))) SH_70 (by decide) ⟨by omega, by omega⟩ rfl dX7_refuses_240 (fun r240 => ?_)
                refine aw_iconst dX7_refuses_241 ?_
                refine aw_iadd dX7_refuses_242 ?_
                refine aw_iast SH_70 (by decide) ⟨by omega, by omega⟩ (by first | assumption | omega) dX7_refuses_243 ?_
                refine aw_aload_n (i := 0) (q := 0) dX7_refuses_244 rfl rfl ?_
                refine aw_getR (r := 70) flX7_48 SH_58 (by decide) rfl (rk_58_17 hR) dX7_refuses_245 ?_
                refine aw_iload (i := 8) (q := 7) dX7_refuses_248 rfl ?_
                refine aw_iload (i := 5) (q := 4) dX7_refuses_250 rfl ?_
                refine aw_isub dX7_refuses_252 ?_
                refine aw_dup2 dX7_refuses_253 rfl rfl ?_
                refine aw_ialdv (x := m 70 ((m 68 z) - (t - mi 59 b))) SH_70 (by decide) ⟨by omega, by omega⟩ (by (rw [aup_k (by omega)]) <;> rfl) dX7_refuses_254 (fun r254 => ?_)
                refine aw_iconst dX7_refuses_255 ?_
                refine aw_isub dX7_refuses_256 ?_
                refine aw_iast SH_70 (by decide) ⟨by omega, by omega⟩ (by first | assumption | omega) dX7_refuses_257 ?_
                refine aw_sub (lv' := [(0, .ref 58), (1, iI b), (2, lL t), (4, iI t), (5, iI (t - mi 59 b)), (6, iI z)]) [0, 1, 2, 3, 4, 5] rfl ?_
                refine aw_iinc (i := 6) (q := 5) (x := z) (lv' := [(0, .ref 58), (1, iI b), (2, lL t), (4, iI t), (5, iI (t - mi 59 b)), (6, iI (z + 1))]) [1, 2, 3, 4, 5, 0] dX7_refuses_258 rfl (by decide) rfl ?_
                refine aw_goto (tgt := 107) dX7_refuses_261 (by decide) ?_
                exact ih _ (z + 1) (i + 1) (fun x j hx => by rw [aup_a hx, aup_a hx]; exact hfr x j hx) (mvI_add hmv (by omega) (fun k x1 x2 => by rw [← hz]; omega)) (mv_rng hrg (by omega)) (fun j j0 j1 => by by_cases e9 : j = z; (subst e9; exact hncz); (exact hcl j j0 (by omega))) (by omega) (by omega) (by omega)
              · refine aw_goto (tgt := 258) dX7_refuses_227 (by decide) ?_
                refine aw_sub (lv' := [(0, .ref 58), (1, iI b), (2, lL t), (4, iI t), (5, iI (t - mi 59 b)), (6, iI z)]) [0, 1, 2, 3, 4, 5] rfl ?_
                refine aw_iinc (i := 6) (q := 5) (x := z) (lv' := [(0, .ref 58), (1, iI b), (2, lL t), (4, iI t), (5, iI (t - mi 59 b)), (6, iI (z + 1))]) [1, 2, 3, 4, 5, 0] dX7_refuses_258 rfl (by decide) rfl ?_
                refine aw_goto (tgt := 107) dX7_refuses_261 (by decide) ?_
                exact ih _ (z + 1) (i + 1) hfr (mvI_skip hmv (fun k x1 x2 => by rw [← hz]; omega)) (fun j j0 j1 => by have := hrg j j0 j1; omega) (fun j j0 j1 => by by_cases e9 : j = z; (subst e9; exact hncz); (exact hcl j j0 (by omega))) (by omega) (by omega) (by omega)
          · refine aw_aload_n (i := 0) (q := 0) dX7_refuses_180 rfl rfl ?_
            refine aw_getR (r := 69) flX7_45 SH_58 (by decide) rfl (rk_58_16 hR) dX7_refuses_181 ?_
            refine aw_iload (i := 6) (q := 5) dX7_refuses_184 rfl ?_
            refine aw_ialdv (x := m 69 z) SH_69 (by decide) ⟨by omega, by omega⟩ rfl dX7_refuses_186 (fun r186 => ?_)
            refine aw_goto (tgt := 192) dX7_refuses_187 (by decide) ?_
            refine aw_istore (i := 7) (lv' := [(0, .ref 58), (1, iI b), (2, lL t), (4, iI t), (5, iI (t - mi 59 b)), (6, iI z), (7, iI (m 69 z))]) [1, 2, 3, 4, 5, 6, 0] dX7_refuses_192 (by decide) rfl ?_
            refine aw_aload_n (i := 0) (q := 0) dX7_refuses_194 rfl rfl ?_
            refine aw_getR (r := 68) flX7_42 SH_58 (by decide) rfl (rk_58_15 hR) dX7_refuses_195 ?_
            refine aw_iload (i := 6) (q := 5) dX7_refuses_198 rfl ?_
            refine aw_ialdv (x := m 68 z) SH_68 (by decide) ⟨by omega, by omega⟩ rfl dX7_refuses_200 (fun r200 => ?_)
            refine aw_iload (i := 4) (q := 3) dX7_refuses_201 rfl ?_
            refine aw_icmp_ge (tgt := 216) dX7_refuses_203 (by decide) (by first | assumption | omega) (by first | assumption | omega) (fun c203 => ?_) (fun c203 => ?_)
            · refine aw_iload (i := 4) (q := 3) dX7_refuses_216 rfl ?_
              refine aw_istore (i := 8) (lv' := [(0, .ref 58), (1, iI b), (2, lL t), (4, iI t), (5, iI (t - mi 59 b)), (6, iI z), (7, iI (m 69 z)), (8, iI t)]) [1, 2, 3, 4, 5, 6, 7, 0] dX7_refuses_218 (by decide) rfl ?_
              refine aw_iload (i := 7) (q := 6) dX7_refuses_220 rfl ?_
              refine aw_iload (i := 8) (q := 7) dX7_refuses_222 rfl ?_
              refine aw_icmp_lt (tgt := 230) dX7_refuses_224 (by decide) (by first | assumption | omega) (by first | assumption | omega) (fun c224 => ?_) (fun c224 => ?_)
              · have hlo9 := hrg ((m 69 z) - (t - mi 59 b)) (by omega) (by omega)
                have hhi9 := hrg (t - (t - mi 59 b)) (by omega) (by omega)
                refine aw_aload_n (i := 0) (q := 0) dX7_refuses_230 rfl rfl ?_
                refine aw_getR (r := 70) flX7_48 SH_58 (by decide) rfl (rk_58_17 hR) dX7_refuses_231 ?_
                refine aw_iload (i := 7) (q := 6) dX7_refuses_234 rfl ?_
                refine aw_iload (i := 5) (q := 4) dX7_refuses_236 rfl ?_
                refine aw_isub dX7_refuses_238 ?_
                refine aw_dup2 dX7_refuses_239 rfl rfl ?_
                refine aw_ialdv (x := m 70 ((m 69 z) - (t - mi 59 b))) SH_70 (by decide) ⟨by omega, by omega⟩ rfl dX7_refuses_240 (fun r240 => ?_)
                refine aw_iconst dX7_refuses_241 ?_
                refine aw_iadd dX7_refuses_242 ?_
                refine aw_iast SH_70 (by decide) ⟨by omega, by omega⟩ (by first | assumption | omega) dX7_refuses_243 ?_
                refine aw_aload_n (i := 0) (q := 0) dX7_refuses_244 rfl rfl ?_
                refine aw_getR (r := 70) flX7_48 SH_58 (by decide) rfl (rk_58_17 hR) dX7_refuses_245 ?_
                refine aw_iload (i := 8) (q := 7) dX7_refuses_248 rfl ?_
                refine aw_iload (i := 5) (q := 4) dX7_refuses_250 rfl ?_
                refine aw_isub dX7_refuses_252 ?_
                refine aw_dup2 dX7_refuses_253 rfl rfl ?_
                refine aw_ialdv (x := m 70 (t - (t - mi 59 b))) SH_70 (by decide) ⟨by omega, by omega⟩ (by (rw [aup_k (by omega)]) <;> rfl) dX7_refuses_254 (fun r254 => ?_)
                refine aw_iconst dX7_refuses_255 ?_
                refine aw_isub dX7_refuses_256 ?_
                refine aw_iast SH_70 (by decide) ⟨by omega, by omega⟩ (by first | assumption | omega) dX7_refuses_257 ?_
                refine aw_sub (lv' := [(0, .ref 58), (1, iI b), (2, lL t), (4, iI t), (5, iI (t - mi 59 b)), (6, iI z)]) [0, 1, 2, 3, 4, 5] rfl ?_
                refine aw_iinc (i := 6) (q := 5) (x := z) (lv' := [(0, .ref 58), (1, iI b), (2, lL t), (4, iI t), (5, iI (t - mi 59 b)), (6, iI (z + 1))]) [1, 2, 3, 4, 5, 0] dX7_refuses_258 rfl (by decide) rfl ?_
                refine aw_goto (tgt := 107) dX7_refuses_261 (by decide) ?_
                exact ih _ (z + 1) (i + 1) (fun x j hx => by rw [aup_a hx, aup_a hx]; exact hfr x j hx) (mvI_add hmv (by omega) (fun k x1 x2 => by rw [← hz]; omega)) (mv_rng hrg (by omega)) (fun j j0 j1 => by by_cases e9 : j = z; (subst e9; exact hncz); (exact hcl j j0 (by omega))) (by omega) (by omega) (by omega)
              · refine aw_goto (tgt := 258) dX7_refuses_227 (by decide) ?_
                refine aw_sub (lv' := [(0, .ref 58), (1, iI b), (2, lL t), (4, iI t), (5, iI (t - mi 59 b)), (6, iI z)]) [0, 1, 2, 3, 4, 5] rfl ?_
                refine aw_iinc (i := 6) (q := 5) (x := z) (lv' := [(0, .ref 58), (1, iI b), (2, lL t), (4, iI t), (5, iI (t - mi 59 b)), (6, iI (z + 1))]) [1, 2, 3, 4, 5, 0] dX7_refuses_258 rfl (by decide) rfl ?_
                refine aw_goto (tgt := 107) dX7_refuses_261 (by decide) ?_
                exact ih _ (z + 1) (i + 1) hfr (mvI_skip hmv (fun k x1 x2 => by rw [← hz]; omega)) (fun j j0 j1 => by have := hrg j j0 j1; omega) (fun j j0 j1 => by by_cases e9 : j = z; (subst e9; exact hncz); (exact hcl j j0 (by omega))) (by omega) (by omega) (by omega)
            · refine aw_aload_n (i := 0) (q := 0) dX7_refuses_206 rfl rfl ?_
              refine aw_getR (r := 68) flX7_42 SH_58 (by decide) rfl (rk_58_15 hR) dX7_refuses_207 ?_
              refine aw_iload (i := 6) (q := 5) dX7_refuses_210 rfl ?_
              refine aw_ialdv (x := m 68 z) SH_68 (by decide) ⟨by omega, by omega⟩ rfl dX7_refuses_212 (fun r212 => ?_)
              refine aw_goto (tgt := 218) dX7_refuses_213 (by decide) ?_
              refine aw_istore (i := 8) (lv' := [(0, .ref 58), (1, iI b), (2, lL t), (4, iI t), (5, iI (t - mi 59 b)), (6, iI z), (7, iI (m 69 z)), (8, iI (m 68 z))]) [1, 2, 3, 4, 5, 6, 7, 0] dX7_refuses_218 (by decide) rfl ?_
              refine aw_iload (i := 7) (q := 6) dX7_refuses_220 rfl ?_
              refine aw_iload (i := 8) (q := 7) dX7_refuses_222 rfl ?_
              refine aw_icmp_lt (tgt := 230) dX7_refuses_224 (by decide) (by first | assumption | omega) (by first | assumption | omega) (fun c224 => ?_) (fun c224 => ?_)
              · have hlo9 := hrg ((m 69 z) - (t - mi 59 b)) (by omega) (by omega)
                have hhi9 := hrg ((m 68 z) - (t - mi 59 b)) (by omega) (by omega)
                refine aw_aload_n (i := 0) (q := 0) dX7_refuses_230 rfl rfl ?_
                refine aw_getR (r := 70) flX7_48 SH_58 (by decide) rfl (rk_58_17 hR) dX7_refuses_231 ?_
                refine aw_iload (i := 7) (q := 6) dX7_refuses_234 rfl ?_
                refine aw_iload (i := 5) (q := 4) dX7_refuses_236 rfl ?_
                refine aw_isub dX7_refuses_238 ?_
                refine aw_dup2 dX7_refuses_239 rfl rfl ?_
                refine aw_ialdv (x := m 70 ((m 69 z) - (t - mi 59 b))) SH_70 (by decide) ⟨by omega, by omega⟩ rfl dX7_refuses_240 (fun r240 => ?_)
                refine aw_iconst dX7_refuses_241 ?_
                refine aw_iadd dX7_refuses_242 ?_
                refine aw_iast SH_70 (by decide) ⟨by omega, by omega⟩ (by first | assumption | omega) dX7_refuses_243 ?_
                refine aw_aload_n (i := 0) (q := 0) dX7_refuses_244 rfl rfl ?_
                refine aw_getR (r := 70) flX7_48 SH_58 (by decide) rfl (rk_58_17 hR) dX7_refuses_245 ?_
                refine aw_iload (i := 8) (q := 7) dX7_refuses_248 rfl ?_
                refine aw_iload (i := 5) (q := 4) dX7_refuses_250 rfl ?_
                refine aw_isub dX7_refuses_252 ?_
                refine aw_dup2 dX7_refuses_253 rfl rfl ?_
                refine aw_ialdv (x := m 70 ((m 68 z) - (t - mi 59 b))) SH_70 (by decide) ⟨by omega, by omega⟩ (by (rw [aup_k (by omega)]) <;> rfl) dX7_refuses_254 (fun r254 => ?_)
                refine aw_iconst dX7_refuses_255 ?_
                refine aw_isub dX7_refuses_256 ?_
                refine aw_iast SH_70 (by decide) ⟨by omega, by omega⟩ (by first | assumption | omega) dX7_refuses_257 ?_
                refine aw_sub (lv' := [(0, .ref 58), (1, iI b), (2, lL t), (4, iI t), (5, iI (t - mi 59 b)), (6, iI z)]) [0, 1, 2, 3, 4, 5] rfl ?_
                refine aw_iinc (i := 6) (q := 5) (x := z) (lv' := [(0, .ref 58), (1, iI b), (2, lL t), (4, iI t), (5, iI (t - mi 59 b)), (6, iI (z + 1))]) [1, 2, 3, 4, 5, 0] dX7_refuses_258 rfl (by decide) rfl ?_
                refine aw_goto (tgt := 107) dX7_refuses_261 (by decide) ?_
                exact ih _ (z + 1) (i + 1) (fun x j hx => by rw [aup_a hx, aup_a hx]; exact hfr x j hx) (mvI_add hmv (by omega) (fun k x1 x2 => by rw [← hz]; omega)) (mv_rng hrg (by omega)) (fun j j0 j1 => by by_cases e9 : j = z; (subst e9; exact hncz); (exact hcl j j0 (by omega))) (by omega) (by omega) (by omega)
              · refine aw_goto (tgt := 258) dX7_refuses_227 (by decide) ?_
                refine aw_sub (lv' := [(0, .ref 58), (1, iI b), (2, lL t), (4, iI t), (5, iI (t - mi 59 b)), (6, iI z)]) [0, 1, 2, 3, 4, 5] rfl ?_
                refine aw_iinc (i := 6) (q := 5) (x := z) (lv' := [(0, .ref 58), (1, iI b), (2, lL t), (4, iI t), (5, iI (t - mi 59 b)), (6, iI (z + 1))]) [1, 2, 3, 4, 5, 0] dX7_refuses_258 rfl (by decide) rfl ?_
                refine aw_goto (tgt := 107) dX7_refuses_261 (by decide) ?_
                exact ih _ (z + 1) (i + 1) hfr (mvI_skip hmv (fun k x1 x2 => by rw [← hz]; omega)) (fun j j0 j1 => by have := hrg j j0 j1; omega) (fun j j0 j1 => by by_cases e9 : j = z; (subst e9; exact hncz); (exact hcl j j0 (by omega))) (by omega) (by omega) (by omega)
        · refine aw_aload_n (i := 0) (q := 0) dX7_refuses_146 rfl rfl ?_
          refine aw_getR (r := 69) flX7_45 SH_58 (by decide) rfl (rk_58_16 hR) dX7_refuses_147 ?_
          refine aw_iload (i := 6) (q := 5) dX7_refuses_150 rfl ?_
          refine aw_ialdv (x := m 69 z) SH_69 (by decide) ⟨by omega, by omega⟩ rfl dX7_refuses_152 (fun r152 => ?_)
          refine aw_iload (i := 4) (q := 3) dX7_refuses_153 rfl ?_
          refine aw_aload_n (i := 0) (q := 0) dX7_refuses_155 rfl rfl ?_
          refine aw_getR (r := 60) flX7_17 SH_58 (by decide) rfl (rk_58_2 hR) dX7_refuses_156 ?_
          refine aw_iload_n (i := 1) (q := 1) dX7_refuses_159 rfl rfl ?_
          refine aw_ialdv (x := m 60 b) SH_60 (by decide) ⟨by omega, by omega⟩ rfl dX7_refuses_160 (fun r160 => ?_)
          refine aw_iadd dX7_refuses_161 ?_
          refine aw_icmp_ge (tgt := 168) dX7_refuses_162 (by decide) (by first | assumption | omega) (by first | assumption | omega) (fun c162 => ?_) (fun c162 => ?_)
          · have hncz : ¬ (mi 67 z = b ∧ mi 69 z < t + mi 60 b ∧ t - mi 59 b < mi 68 z + mi 60 b) := by omega
            refine aw_aload_n (i := 0) (q := 0) dX7_refuses_168 rfl rfl ?_
            refine aw_getR (r := 69) flX7_45 SH_58 (by decide) rfl (rk_58_16 hR) dX7_refuses_169 ?_
            refine aw_iload (i := 6) (q := 5) dX7_refuses_172 rfl ?_
            refine aw_ialdv (x := m 69 z) SH_69 (by decide) ⟨by omega, by omega⟩ rfl dX7_refuses_174 (fun r174 => ?_)
            refine aw_iload (i := 5) (q := 4) dX7_refuses_175 rfl ?_
            refine aw_icmp_le (tgt := 190) dX7_refuses_177 (by decide) (by first | assumption | omega) (by first | assumption | omega) (fun c177 => ?_) (fun c177 => ?_)
            · refine aw_iload (i := 5) (q := 4) dX7_refuses_190 rfl ?_
              refine aw_istore (i := 7) (lv' := [(0, .ref 58), (1, iI b), (2, lL t), (4, iI t), (5, iI (t - mi 59 b)), (6, iI z), (7, iI (t - mi 59 b))]) [1, 2, 3, 4, 5, 6, 0] dX7_refuses_192 (by decide) rfl ?_
              refine aw_aload_n (i := 0) (q := 0) dX7_refuses_194 rfl rfl ?_
              refine aw_getR (r := 68) flX7_42 SH_58 (by decide) rfl (rk_58_15 hR) dX7_refuses_195 ?_
              refine aw_iload (i := 6) (q := 5) dX7_refuses_198 rfl ?_
              refine aw_ialdv (x := m 68 z) SH_68 (by decide) ⟨by omega, by omega⟩ rfl dX7_refuses_200 (fun r200 => ?_)
              refine aw_iload (i := 4) (q := 3) dX7_refuses_201 rfl ?_
              refine aw_icmp_ge (tgt := 216) dX7_refuses_203 (by decide) (by first | assumption | omega) (by first | assumption | omega) (fun c203 => ?_) (fun c203 => ?_)
              · refine aw_iload (i := 4) (q := 3) dX7_refuses_216 rfl ?_
                refine aw_istore (i := 8) (lv' := [(0, .ref 58), (1, iI b), (2, lL t), (4, iI t), (5, iI (t - mi 59 b)), (6, iI z), (7, iI (t - mi 59 b)), (8, iI t)]) [1, 2, 3, 4, 5, 6, 7, 0] dX7_refuses_218 (by decide) rfl ?_
                refine aw_iload (i := 7) (q := 6) dX7_refuses_220 rfl ?_
                refine aw_iload (i := 8) (q := 7) dX7_refuses_222 rfl ?_
                refine aw_icmp_lt (tgt := 230) dX7_refuses_224 (by decide) (by first | assumption | omega) (by first | assumption | omega) (fun c224 => ?_) (fun c224 => ?_)
                · have hlo9 := hrg ((t - mi 59 b) - (t - mi 59 b)) (by omega) (by omega)
                  have hhi9 := hrg (t - (t - mi 59 b)) (by omega) (by omega)
                  refine aw_aload_n (i := 0) (q := 0) dX7_refuses_230 rfl rfl ?_
                  refine aw_getR (r := 70) flX7_48 SH_58 (by decide) rfl (rk_58_17 hR) dX7_refuses_231 ?_
                  refine aw_iload (i := 7) (q := 6) dX7_refuses_234 rfl ?_
                  refine aw_iload (i := 5) (q := 4) dX7_refuses_236 rfl ?_
                  refine aw_isub dX7_refuses_238 ?_
                  refine aw_dup2 dX7_refuses_239 rfl rfl ?_
                  refine aw_ialdv (x := m 70 ((t - mi 59 b) - (t - mi 59 b))) SH_70 (by decide) ⟨by omega, by omega⟩ rfl dX7_refuses_240 (fun r240 => ?_)
                  refine aw_iconst dX7_refuses_241 ?_
                  refine aw_iadd dX7_refuses_242 ?_
                  refine aw_iast SH_70 (by decide) ⟨by omega, by omega⟩ (by first | assumption | omega) dX7_refuses_243 ?_
                  refine aw_aload_n (i := 0) (q := 0) dX7_refuses_244 rfl rfl ?_
                  refine aw_getR (r := 70) flX7_48 SH_58 (by decide) rfl (rk_58_17 hR) dX7_refuses_245 ?_
                  refine aw_iload (i := 8) (q := 7) dX7_refuses_248 rfl ?_
                  refine aw_iload (i := 5) (q := 4) dX7_refuses_250 rfl ?_
                  refine aw_isub dX7_refuses_252 ?_
                  refine aw_dup2 dX7_refuses_253 rfl rfl ?_
                  refine aw_ialdv (x := m 70 (t - (t - mi 59 b))) SH_70 (by decide) ⟨by omega, by omega⟩ (by (rw [aup_k (by omega)]) <;> rfl) dX7_refuses_254 (fun r254 => ?_)
                  refine aw_iconst dX7_refuses_255 ?_
                  refine aw_isub dX7_refuses_256 ?_
                  refine aw_iast SH_70 (by decide) ⟨by omega, by omega⟩ (by first | assumption | omega) dX7_refuses_257 ?_
                  refine aw_sub (lv' := [(0, .ref 58), (1, iI b), (2, lL t), (4, iI t), (5, iI (t - mi 59 b)), (6, iI z)]) [0, 1, 2, 3, 4, 5] rfl ?_
                  refine aw_iinc (i := 6) (q := 5) (x := z) (lv' := [(0, .ref 58), (1, iI b), (2, lL t), (4, iI t), (5, iI (t - mi 59 b)), (6, iI (z + 1))]) [1, 2, 3, 4, 5, 0] dX7_refuses_258 rfl (by decide) rfl ?_
                  refine aw_goto (tgt := 107) dX7_refuses_261 (by decide) ?_
                  exact ih _ (z + 1) (i + 1) (fun x j hx => by rw [aup_a hx, aup_a hx]; exact hfr x j hx) (mvI_add hmv (by omega) (fun k x1 x2 => by rw [← hz]; omega)) (mv_rng hrg (by omega)) (fun j j0 j1 => by by_cases e9 : j = z; (subst e9; exact hncz); (exact hcl j j0 (by omega))) (by omega) (by omega) (by omega)
                · refine aw_goto (tgt := 258) dX7_refuses_227 (by decide) ?_
                  refine aw_sub (lv' := [(0, .ref 58), (1, iI b), (2, lL t), (4, iI t), (5, iI (t - mi 59 b)), (6, iI z)]) [0, 1, 2, 3, 4, 5] rfl ?_
                  refine aw_iinc (i := 6) (q := 5) (x := z) (lv' := [(0, .ref 58), (1, iI b), (2, lL t), (4, iI t), (5, iI (t - mi 59 b)), (6, iI (z + 1))]) [1, 2, 3, 4, 5, 0] dX7_refuses_258 rfl (by decide) rfl ?_
                  refine aw_goto (tgt := 107) dX7_refuses_261 (by decide) ?_
                  exact ih _ (z + 1) (i + 1) hfr (mvI_skip hmv (fun k x1 x2 => by rw [← hz]; omega)) (fun j j0 j1 => by have := hrg j j0 j1; omega) (fun j j0 j1 => by by_cases e9 : j = z; (subst e9; exact hncz); (exact hcl j j0 (by omega))) (by omega) (by omega) (by omega)
              · refine aw_aload_n (i := 0) (q := 0) dX7_refuses_206 rfl rfl ?_
                refine aw_getR (r := 68) flX7_42 SH_58 (by decide) rfl (rk_58_15 hR) dX7_refuses_207 ?_
                refine aw_iload (i := 6) (q := 5) dX7_refuses_210 rfl ?_
                refine aw_ialdv (x := m 68 z) SH_68 (by decide) ⟨by omega, by omega⟩ rfl dX7_refuses_212 (fun r212 => ?_)
                refine aw_goto (tgt := 218) dX7_refuses_213 (by decide) ?_
                refine aw_istore (i := 8) (lv' := [(0, .ref 58), (1, iI b), (2, lL t), (4, iI t), (5, iI (t - mi 59 b)), (6, iI z), (7, iI (t - mi 59 b)), (8, iI (m 68 z))]) [1, 2, 3, 4, 5, 6, 7, 0] dX7_refuses_218 (by decide) rfl ?_
                refine aw_iload (i := 7) (q := 6) dX7_refuses_220 rfl ?_
                refine aw_iload (i := 8) (q := 7) dX7_refuses_222 rfl ?_
                refine aw_icmp_lt (tgt := 230) dX7_refuses_224 (by decide) (by first | assumption | omega) (by first | assumption | omega) (fun c224 => ?_) (fun c224 => ?_)
                · have hlo9 := hrg ((t - mi 59 b) - (t - mi 59 b)) (by omega) (by omega)
                  have hhi9 := hrg ((m 68 z) - (t - mi 59 b)) (by omega) (by omega)
                  refine aw_aload_n (i := 0) (q := 0) dX7_refuses_230 rfl rfl ?_
                  refine aw_getR (r := 70) flX7_48 SH_58 (by decide) rfl (rk_58_17 hR) dX7_refuses_231 ?_
                  refine aw_iload (i := 7) (q := 6) dX7_refuses_234 rfl ?_
                  refine aw_iload (i := 5) (q := 4) dX7_refuses_236 rfl ?_
                  refine aw_isub dX7_refuses_238 ?_
                  refine aw_dup2 dX7_refuses_239 rfl rfl ?_
                  refine aw_ialdv (x := m 70 ((t - mi 59 b) - (t - mi 59 b))) SH_70 (by decide) ⟨by omega, by omega⟩ rfl dX7_refuses_240 (fun r240 => ?_)
                  refine aw_iconst dX7_refuses_241 ?_
                  refine aw_iadd dX7_refuses_242 ?_
                  refine aw_iast SH_70 (by decide) ⟨by omega, by omega⟩ (by first | assumption | omega) dX7_refuses_243 ?_
                  refine aw_aload_n (i := 0) (q := 0) dX7_refuses_244 rfl rfl ?_
                  refine aw_getR (r := 70) flX7_48 SH_58 (by decide) rfl (rk_58_17 hR) dX7_refuses_245 ?_
                  refine aw_iload (i := 8) (q := 7) dX7_refuses_248 rfl ?_
                  refine aw_iload (i := 5) (q := 4) dX7_refuses_250 rfl ?_
                  refine aw_isub dX7_refuses_252 ?_
                  refine aw_dup2 dX7_refuses_253 rfl rfl ?_
                  refine aw_ialdv (x := m 70 ((m 68 z) - (t - mi 59 b))) SH_70 (by decide) ⟨by omega, by omega⟩ (by (rw [aup_k (by omega)]) <;> rfl) dX7_refuses_254 (fun r254 => ?_)
                  refine aw_iconst dX7_refuses_255 ?_
                  refine aw_isub dX7_refuses_256 ?_
                  refine aw_iast SH_70 (by decide) ⟨by omega, by omega⟩ (by first | assumption | omega) dX7_refuses_257 ?_
                  refine aw_sub (lv' := [(0, .ref 58), (1, iI b), (2, lL t), (4, iI t), (5, iI (t - mi 59 b)), (6, iI z)]) [0, 1, 2, 3, 4, 5] rfl ?_
                  refine aw_iinc (i := 6) (q := 5) (x := z) (lv' := [(0, .ref 58), (1, iI b), (2, lL t), (4, iI t), (5, iI (t - mi 59 b)), (6, iI (z + 1))]) [1, 2, 3, 4, 5, 0] dX7_refuses_258 rfl (by decide) rfl ?_
                  refine aw_goto (tgt := 107) dX7_refuses_261 (by decide) ?_
                  exact ih _ (z + 1) (i + 1) (fun x j hx => by rw [aup_a hx, aup_a hx]; exact hfr x j hx) (mvI_add hmv (by omega) (fun k x1 x2 => by rw [← hz]; omega)) (mv_rng hrg (by omega)) (fun j j0 j1 => by by_cases e9 : j = z; (subst e9; exact hncz); (exact hcl j j0 (by omega))) (by omega) (by omega) (by omega)
                · refine aw_goto (tgt := 258) dX7_refuses_227 (by decide) ?_
                  refine aw_sub (lv' := [(0, .ref 58), (1, iI b), (2, lL t), (4, iI t), (5, iI (t - mi 59 b)), (6, iI z)]) [0, 1, 2, 3, 4, 5] rfl ?_
                  refine aw_iinc (i := 6) (q := 5) (x := z) (lv' := [(0, .ref 58), (1, iI b), (2, lL t), (4, iI t), (5, iI (t - mi 59 b)), (6, iI (z + 1))]) [1, 2, 3, 4, 5, 0] dX7_refuses_258 rfl (by decide) rfl ?_
                  refine aw_goto (tgt := 107) dX7_refuses_261 (by decide) ?_
                  exact ih _ (z + 1) (i + 1) hfr (mvI_skip hmv (fun k x1 x2 => by rw [← hz]; omega)) (fun j j0 j1 => by have := hrg j j0 j1; omega) (fun j j0 j1 => by by_cases e9 : j = z; (subst e9; exact hncz); (exact hcl j j0 (by omega))) (by omega) (by omega) (by omega)
            · refine aw_aload_n (i := 0) (q := 0) dX7_refuses_180 rfl rfl ?_
              refine aw_getR (r := 69) flX7_45 SH_58 (by decide) rfl (rk_58_16 hR) dX7_refuses_181 ?_
              refine aw_iload (i := 6) (q := 5) dX7_refuses_184 rfl ?_
              refine aw_ialdv (x := m 69 z) SH_69 (by decide) ⟨by omega, by omega⟩ rfl dX7_refuses_186 (fun r186 => ?_)
              refine aw_goto (tgt := 192) dX7_refuses_187 (by decide) ?_
              refine aw_istore (i := 7) (lv' := [(0, .ref 58), (1, iI b), (2, lL t), (4, iI t), (5, iI (t - mi 59 b)), (6, iI z), (7, iI (m 69 z))]) [1, 2, 3, 4, 5, 6, 0] dX7_refuses_192 (by decide) rfl ?_
              refine aw_aload_n (i := 0) (q := 0) dX7_refuses_194 rfl rfl ?_
              refine aw_getR (r := 68) flX7_42 SH_58 (by decide) rfl (rk_58_15 hR) dX7_refuses_195 ?_
              refine aw_iload (i := 6) (q := 5) dX7_refuses_198 rfl ?_
              refine aw_ialdv (x := m 68 z) SH_68 (by decide) ⟨by omega, by omega⟩ rfl dX7_refuses_200 (fun r200 => ?_)
              refine aw_iload (i := 4) (q := 3) dX7_refuses_201 rfl ?_
              refine aw_icmp_ge (tgt := 216) dX7_refuses_203 (by decide) (by first | assumption | omega) (by first | assumption | omega) (fun c203 => ?_) (fun c203 => ?_)
              · refine aw_iload (i := 4) (q := 3) dX7_refuses_216 rfl ?_
                refine aw_istore (i := 8) (lv' := [(0, .ref 58), (1, iI b), (2, lL t), (4, iI t), (5, iI (t - mi 59 b)), (6, iI z), (7, iI (m 69 z)), (8, iI t)]) [1, 2, 3, 4, 5, 6, 7, 0] dX7_refuses_218 (by decide) rfl ?_
                refine aw_iload (i := 7) (q := 6) dX7_refuses_220 rfl ?_
                refine aw_iload (i := 8) (q := 7) dX7_refuses_222 rfl ?_
                refine aw_icmp_lt (tgt := 230) dX7_refuses_224 (by decide) (by first | assumption | omega) (by first | assumption | omega) (fun c224 => ?_) (fun c224 => ?_)
                · have hlo9 := hrg ((m 69 z) - (t - mi 59 b)) (by omega) (by omega)
                  have hhi9 := hrg (t - (t - mi 59 b)) (by omega) (by omega)
                  refine aw_aload_n (i := 0) (q := 0) dX7_refuses_230 rfl rfl ?_
                  refine aw_getR (r := 70) flX7_48 SH_58 (by decide) rfl (rk_58_17 hR) dX7_refuses_231 ?_
                  refine aw_iload (i := 7) (q := 6) dX7_refuses_234 rfl ?_
                  refine aw_iload (i := 5) (q := 4) dX7_refuses_236 rfl ?_
                  refine aw_isub dX7_refuses_238 ?_
                  refine aw_dup2 dX7_refuses_239 rfl rfl ?_
                  refine aw_ialdv (x := m 70 ((m 69 z) - (t - mi 59 b))) SH_70 (by decide) ⟨by omega, by omega⟩ rfl dX7_refuses_240 (fun r240 => ?_)
                  refine aw_iconst dX7_refuses_241 ?_
                  refine aw_iadd dX7_refuses_242 ?_
                  refine aw_iast SH_70 (by decide) ⟨by omega, by omega⟩ (by first | assumption | omega) dX7_refuses_243 ?_
                  refine aw_aload_n (i := 0) (q := 0) dX7_refuses_244 rfl rfl ?_
                  refine aw_getR (r := 70) flX7_48 SH_58 (by decide) rfl (rk_58_17 hR) dX7_refuses_245 ?_
                  refine aw_iload (i := 8) (q := 7) dX7_refuses_248 rfl ?_
                  refine aw_iload (i := 5) (q := 4) dX7_refuses_250 rfl ?_
                  refine aw_isub dX7_refuses_252 ?_
                  refine aw_dup2 dX7_refuses_253 rfl rfl ?_
                  refine aw_ialdv (x := m 70 (t - (t - mi 59 b))) SH_70 (by decide) ⟨by omega, by omega⟩ (by (rw [aup_k (by omega)]) <;> rfl) dX7_refuses_254 (fun r254 => ?_)
                  refine aw_iconst dX7_refuses_255 ?_
                  refine aw_isub dX7_refuses_256 ?_
                  refine aw_iast SH_70 (by decide) ⟨by omega, by omega⟩ (by first | assumption | omega) dX7_refuses_257 ?_
                  refine aw_sub (lv' := [(0, .ref 58), (1, iI b), (2, lL t), (4, iI t), (5, iI (t - mi 59 b)), (6, iI z)]) [0, 1, 2, 3, 4, 5] rfl ?_
                  refine aw_iinc (i := 6) (q := 5) (x := z) (lv' := [(0, .ref 58), (1, iI b), (2, lL t), (4, iI t), (5, iI (t - mi 59 b)), (6, iI (z + 1))]) [1, 2, 3, 4, 5, 0] dX7_refuses_258 rfl (by decide) rfl ?_
                  refine aw_goto (tgt := 107) dX7_refuses_261 (by decide) ?_
                  exact ih _ (z + 1) (i + 1) (fun x j hx => by rw [aup_a hx, aup_a hx]; exact hfr x j hx) (mvI_add hmv (by omega) (fun k x1 x2 => by rw [← hz]; omega)) (mv_rng hrg (by omega)) (fun j j0 j1 => by by_cases e9 : j = z; (subst e9; exact hncz); (exact hcl j j0 (by omega))) (by omega) (by omega) (by omega)
                · refine aw_goto (tgt := 258) dX7_refuses_227 (by decide) ?_
                  refine aw_sub (lv' := [(0, .ref 58), (1, iI b), (2, lL t), (4, iI t), (5, iI (t - mi 59 b)), (6, iI z)]) [0, 1, 2, 3, 4, 5] rfl ?_
                  refine aw_iinc (i := 6) (q := 5) (x := z) (lv' := [(0, .ref 58), (1, iI b), (2, lL t), (4, iI t), (5, iI (t - mi 59 b)), (6, iI (z + 1))]) [1, 2, 3, 4, 5, 0] dX7_refuses_258 rfl (by decide) rfl ?_
                  refine aw_goto (tgt := 107) dX7_refuses_261 (by decide) ?_
                  exact ih _ (z + 1) (i + 1) hfr (mvI_skip hmv (fun k x1 x2 => by rw [← hz]; omega)) (fun j j0 j1 => by have := hrg j j0 j1; omega) (fun j j0 j1 => by by_cases e9 : j = z; (subst e9; exact hncz); (exact hcl j j0 (by omega))) (by omega) (by omega) (by omega)
              · refine aw_aload_n (i := 0) (q := 0) dX7_refuses_206 rfl rfl ?_
                refine aw_getR (r := 68) flX7_42 SH_58 (by decide) rfl (rk_58_15 hR) dX7_refuses_207 ?_
                refine aw_iload (i := 6) (q := 5) dX7_refuses_210 rfl ?_
                refine aw_ialdv (x := m 68 z) SH_68 (by decide) ⟨by omega, by omega⟩ rfl dX7_refuses_212 (fun r212 => ?_)
                refine aw_goto (tgt := 218) dX7_refuses_213 (by decide) ?_
                refine aw_istore (i := 8) (lv' := [(0, .ref 58), (1, iI b), (2, lL t), (4, iI t), (5, iI (t - mi 59 b)), (6, iI z), (7, iI (m 69 z)), (8, iI (m 68 z))]) [1, 2, 3, 4, 5, 6, 7, 0] dX7_refuses_218 (by decide) rfl ?_
                refine aw_iload (i := 7) (q := 6) dX7_refuses_220 rfl ?_
                refine aw_iload (i := 8) (q := 7) dX7_refuses_222 rfl ?_
                refine aw_icmp_lt (tgt := 230) dX7_refuses_224 (by decide) (by first | assumption | omega) (by first | assumption | omega) (fun c224 => ?_) (fun c224 => ?_)
                · have hlo9 := hrg ((m 69 z) - (t - mi 59 b)) (by omega) (by omega)
                  have hhi9 := hrg ((m 68 z) - (t - mi 59 b)) (by omega) (by omega)
                  refine aw_aload_n (i := 0) (q := 0) dX7_refuses_230 rfl rfl ?_
                  refine aw_getR (r := 70) flX7_48 SH_58 (by decide) rfl (rk_58_17 hR) dX7_refuses_231 ?_
                  refine aw_iload (i := 7) (q := 6) dX7_refuses_234 rfl ?_
                  refine aw_iload (i := 5) (q := 4) dX7_refuses_236 rfl ?_
                  refine aw_isub dX7_refuses_238 ?_
                  refine aw_dup2 dX7_refuses_239 rfl rfl ?_
                  refine aw_ialdv (x := m 70 ((m 69 z) - (t - mi 59 b))) SH_70 (by decide) ⟨by omega, by omega⟩ rfl dX7_refuses_240 (fun r240 => ?_)
                  refine aw_iconst dX7_refuses_241 ?_
                  refine aw_iadd dX7_refuses_242 ?_
                  refine aw_iast SH_70 (by decide) ⟨by omega, by omega⟩ (by first | assumption | omega) dX7_refuses_243 ?_
                  refine aw_aload_n (i := 0) (q := 0) dX7_refuses_244 rfl rfl ?_
                  refine aw_getR (r := 70) flX7_48 SH_58 (by decide) rfl (rk_58_17 hR) dX7_refuses_245 ?_
                  refine aw_iload (i := 8) (q := 7) dX7_refuses_248 rfl ?_
                  refine aw_iload (i := 5) (q := 4) dX7_refuses_250 rfl ?_
                  refine aw_isub dX7_refuses_252 ?_
                  refine aw_dup2 dX7_refuses_253 rfl rfl ?_
                  refine aw_ialdv (x := m 70 ((m 68 z) - (t - mi 59 b))) SH_70 (by decide) ⟨by omega, by omega⟩ (by (rw [aup_k (by omega)]) <;> rfl) dX7_refuses_254 (fun r254 => ?_)
                  refine aw_iconst dX7_refuses_255 ?_
                  refine aw_isub dX7_refuses_256 ?_
                  refine aw_iast SH_70 (by decide) ⟨by omega, by omega⟩ (by first | assumption | omega) dX7_refuses_257 ?_
                  refine aw_sub (lv' := [(0, .ref 58), (1, iI b), (2, lL t), (4, iI t), (5, iI (t - mi 59 b)), (6, iI z)]) [0, 1, 2, 3, 4, 5] rfl ?_
                  refine aw_iinc (i := 6) (q := 5) (x := z) (lv' := [(0, .ref 58), (1, iI b), (2, lL t), (4, iI t), (5, iI (t - mi 59 b)), (6, iI (z + 1))]) [1, 2, 3, 4, 5, 0] dX7_refuses_258 rfl (by decide) rfl ?_
                  refine aw_goto (tgt := 107) dX7_refuses_261 (by decide) ?_
                  exact ih _ (z + 1) (i + 1) (fun x j hx => by rw [aup_a hx, aup_a hx]; exact hfr x j hx) (mvI_add hmv (by omega) (fun k x1 x2 => by rw [← hz]; omega)) (mv_rng hrg (by omega)) (fun j j0 j1 => by by_cases e9 : j = z; (subst e9; exact hncz); (exact hcl j j0 (by omega))) (by omega) (by omega) (by omega)
                · refine aw_goto (tgt := 258) dX7_refuses_227 (by decide) ?_
                  refine aw_sub (lv' := [(0, .ref 58), (1, iI b), (2, lL t), (4, iI t), (5, iI (t - mi 59 b)), (6, iI z)]) [0, 1, 2, 3, 4, 5] rfl ?_
                  refine aw_iinc (i := 6) (q := 5) (x := z) (lv' := [(0, .ref 58), (1, iI b), (2, lL t), (4, iI t), (5, iI (t - mi 59 b)), (6, iI (z + 1))]) [1, 2, 3, 4, 5, 0] dX7_refuses_258 rfl (by decide) rfl ?_
                  refine aw_goto (tgt := 107) dX7_refuses_261 (by decide) ?_
                  exact ih _ (z + 1) (i + 1) hfr (mvI_skip hmv (fun k x1 x2 => by rw [← hz]; omega)) (fun j j0 j1 => by have := hrg j j0 j1; omega) (fun j j0 j1 => by by_cases e9 : j = z; (subst e9; exact hncz); (exact hcl j j0 (by omega))) (by omega) (by omega) (by omega)
          · refine aw_bipush (x := -7) dX7_refuses_165 rfl ?_
            exact aw_iret ⟨_, rfl, rfl, rfl, (by unfold exam; rw [pick_neg (by omega), pick_neg (by omega), pick_neg (by omega), pick_neg (by omega),  pick_pos (Or.inr ⟨mS mi z, (mL_mem ho).mpr ⟨z, by omega, by omega, rfl⟩, by show mi 67 z = b; omega, by show mi 69 z < t + mi 60 b; omega, by show t - mi 59 b < mi 68 z + mi 60 b; omega⟩)]), hfr⟩ (Nat.le_refl _) (Nat.le_refl _) dX7_refuses_167
theorem l_ref1 {mr : aR} (hR : Rok mr) {mi : aM} {b t : Int} (hB : mB mi) (ho : mOk mi) (hpl : 1 ≤ mi 58 7 ∧ mi 58 7 ≤ 12) (hb : 0 ≤ b ∧ b < mi 58 6) (ht : 0 ≤ t ∧ t ≤ 100000) (hsw : mi 86 b = 0) (hcm : mi 58 9 ≤ t - mi 59 b) (hfl : mi 58 18 < 300) (hoc : mi 63 b ≤ t - mi 59 b) : ∀ (n : Nat) (m : aM) (z : Int), fr70 mi m → (∀ j : Int, 0 ≤ j → j < z → m 70 j = 0) → (0 ≤ z ∧ z ≤ 52) → 52 - z < n → AWm RX7 cX7_refuses 9 2 (Pi mr (fun r m => r = exam (mL mi) (mi 58 9) (mi 58 7) (mi 63 b) (mi 86 b) (mi 59 b) (mi 60 b) b t ∧ fr70 mi m)) 83 [(0, .ref 58), (1, iI b), (2, lL t), (4, iI t), (5, iI (t - mi 59 b)), (6, iI z)] [] m mr := by
  intro n
  induction n with
  | zero => intro m z hfr hz0 h2 h3; omega
  | succ n ih =>
    intro m z hfr hz0 h2 h3
    obtain ⟨k59, k60, k61, k62, k63, k86, k87, k88⟩ := hB.2.2 b hb.1 hb.2
    have hn := hB.1
    have hnw := hB.2.1
    have hc1 := ho.1
    have hln := mL_len ho
    have f18 : m 58 18 = mi 58 18 := hfr _ _ (by decide)
    have f9 : m 58 9 = mi 58 9 := hfr _ _ (by decide)
    have f7 : m 58 7 = mi 58 7 := hfr _ _ (by decide)
    have f59 : m 59 b = mi 59 b := hfr _ _ (by decide)
    have f60 : m 60 b = mi 60 b := hfr _ _ (by decide)
    refine aw_iload (i := 6) (q := 5) dX7_refuses_83 rfl ?_
    refine aw_bipush (x := 52) dX7_refuses_85 rfl ?_
    refine aw_icmp_ge (tgt := 104) dX7_refuses_87 (by decide) (by first | assumption | omega) (by decide) (fun c87 => ?_) (fun c87 => ?_)
    · refine aw_sub (lv' := [(0, .ref 58), (1, iI b), (2, lL t), (4, iI t), (5, iI (t - mi 59 b))]) [0, 1, 2, 3, 4] rfl ?_
      refine aw_iconst dX7_refuses_104 ?_
      refine aw_istore (i := 6) (lv' := [(0, .ref 58), (1, iI b), (2, lL t), (4, iI t), (5, iI (t - mi 59 b)), (6, iI 0)]) [1, 2, 3, 4, 5, 0] dX7_refuses_105 (by decide) rfl ?_
      exact l_ref2 hR hB ho hpl hb ht hsw hcm hfl hoc ((mi 58 18).toNat + 1) m 0 0 hfr (fun k hk => by rw [psum_zero (fun x a b => hz0 x a (by omega))]; rfl) (fun j j0 j1 => by rw [hz0 j j0 (by omega)]; omega) (fun j j0 j1 => by omega) rfl (by omega) (by omega)
    · refine aw_aload_n (i := 0) (q := 0) dX7_refuses_90 rfl rfl ?_
      refine aw_getR (r := 70) flX7_48 SH_58 (by decide) rfl (rk_58_17 hR) dX7_refuses_91 ?_
      refine aw_iload (i := 6) (q := 5) dX7_refuses_94 rfl ?_
      refine aw_iconst dX7_refuses_96 ?_
      refine aw_iast SH_70 (by decide) ⟨by omega, by omega⟩ (by decide) dX7_refuses_97 ?_
      refine aw_iinc (i := 6) (q := 5) (x := z) (lv' := [(0, .ref 58), (1, iI b), (2, lL t), (4, iI t), (5, iI (t - mi 59 b)), (6, iI (z + 1))]) [1, 2, 3, 4, 5, 0] dX7_refuses_98 rfl (by decide) rfl ?_
      refine aw_goto (tgt := 83) dX7_refuses_101 (by decide) ?_
      exact ih _ _ (fun x j hx => by rw [aup_a hx]; exact hfr x j hx) (fun j x1 x2 => by by_cases e : j = z; (subst e; exact aup_eq _ _ _ _); (rw [aup_k e]; exact hz0 j x1 (by omega))) (by omega) (by omega)
theorem s_X7_refuses {mr : aR} (hR : Rok mr) {mi : aM} {b t : Int} (hB : mB mi) (ho : mOk mi) (hpl : 1 ≤ mi 58 7 ∧ mi 58 7 ≤ 12) (hb : 0 ≤ b ∧ b < mi 58 6) (h_t : -3000000000 ≤ t ∧ t ≤ 3000000000) : SPg yX7_refuses cX7_refuses 9 (some .int) 2 [.ref 58, iI b, lL t] mi mr (Pi mr (fun r m => r = exam (mL mi) (mi 58 9) (mi 58 7) (mi 63 b) (mi 86 b) (mi 59 b) (mi 60 b) b t ∧ fr70 mi m)) := by
  refine SPg.int rfl (by decide +kernel) (Nat.le_of_ble_eq_true rfl) ?_
  show AWm RX7 cX7_refuses 9 2 _ 0 [(0, .ref 58), (1, iI b), (2, lL t)] [] mi mr
  obtain ⟨k59, k60, k61, k62, k63, k86, k87, k88⟩ := hB.2.2 b hb.1 hb.2
  have hn := hB.1
  have hnw := hB.2.1
  have hc1 := ho.1
  have hln := mL_len ho
  refine aw_lload_n (i := 2) (q := 2) dX7_refuses_0 rfl rfl ?_
  refine aw_lconst (x := 0) dX7_refuses_1 rfl ?_
  refine aw_ldc2 (x := 100000) coX7_169 rfl dX7_refuses_2 ?_
  refine aw_cSp (As := [lL t, lL 0, lL 100000]) (st := []) clX7_135 (s_X7_isIn hR (by omega) (by omega) (by omega)) rfl rfl (Nat.le_of_ble_eq_true rfl) (by decide) (by decide) (Nat.le_refl _) (Nat.le_refl _) dX7_refuses_5 (fun v5 hv5 => ?_)
  refine aw_if_ne (tgt := 14) dX7_refuses_8 (by decide) (by first | assumption | omega) (fun c8 => ?_) (fun c8 => ?_)
  · refine aw_aload_n (i := 0) (q := 0) dX7_refuses_14 rfl rfl ?_
    refine aw_getR (r := 86) flX7_99 SH_58 (by decide) rfl (rk_58_44 hR) dX7_refuses_15 ?_
    refine aw_iload_n (i := 1) (q := 1) dX7_refuses_18 rfl rfl ?_
    refine aw_zaldv (x := mi 86 b) SH_86 (by decide) ⟨by omega, by omega⟩ rfl dX7_refuses_19 (fun r19 => ?_)
    refine aw_if_eq (tgt := 26) dX7_refuses_20 (by decide) (by first | assumption | omega) (fun c20 => ?_) (fun c20 => ?_)
    · refine aw_lload_n (i := 2) (q := 2) dX7_refuses_26 rfl rfl ?_
      refine aw_l2i dX7_refuses_27 ?_
      refine aw_istore (i := 4) (lv' := [(0, .ref 58), (1, iI b), (2, lL t), (4, iI t)]) [1, 2, 3, 0] dX7_refuses_28 (by decide) rfl ?_
      refine aw_iload (i := 4) (q := 3) dX7_refuses_30 rfl ?_
      refine aw_aload_n (i := 0) (q := 0) dX7_refuses_32 rfl rfl ?_
      refine aw_getR (r := 59) flX7_13 SH_58 (by decide) rfl (rk_58_1 hR) dX7_refuses_33 ?_
      refine aw_iload_n (i := 1) (q := 1) dX7_refuses_36 rfl rfl ?_
      refine aw_ialdv (x := mi 59 b) SH_59 (by decide) ⟨by omega, by omega⟩ rfl dX7_refuses_37 (fun r37 => ?_)
      refine aw_isub dX7_refuses_38 ?_
      refine aw_istore (i := 5) (lv' := [(0, .ref 58), (1, iI b), (2, lL t), (4, iI t), (5, iI (t - (mi 59 b)))]) [1, 2, 3, 4, 0] dX7_refuses_39 (by decide) rfl ?_
      refine aw_iload (i := 5) (q := 4) dX7_refuses_41 rfl ?_
      refine aw_aload_n (i := 0) (q := 0) dX7_refuses_43 rfl rfl ?_
      refine aw_getIk (x := mi 58 9) 9 flX7_158 SH_58 (by decide) rfl rfl rfl dX7_refuses_44 (fun r44 => ?_)
      refine aw_icmp_ge (tgt := 53) dX7_refuses_47 (by decide) (by first | assumption | omega) (by first | assumption | omega) (fun c47 => ?_) (fun c47 => ?_)
      · refine aw_aload_n (i := 0) (q := 0) dX7_refuses_53 rfl rfl ?_
        refine aw_getIk (x := mi 58 18) 18 flX7_171 SH_58 (by decide) rfl rfl rfl dX7_refuses_54 (fun r54 => ?_)
        refine aw_sipush (x := 300) dX7_refuses_57 rfl ?_
        refine aw_icmp_ne (tgt := 66) dX7_refuses_60 (by decide) (by first | assumption | omega) (by decide) (fun c60 => ?_) (fun c60 => ?_)
        · refine aw_iload (i := 5) (q := 4) dX7_refuses_66 rfl ?_
          refine aw_aload_n (i := 0) (q := 0) dX7_refuses_68 rfl rfl ?_
          refine aw_getR (r := 63) flX7_26 SH_58 (by decide) rfl (rk_58_5 hR) dX7_refuses_69 ?_
          refine aw_iload_n (i := 1) (q := 1) dX7_refuses_72 rfl rfl ?_
          refine aw_ialdv (x := mi 63 b) SH_63 (by decide) ⟨by omega, by omega⟩ rfl dX7_refuses_73 (fun r73 => ?_)
          refine aw_icmp_ge (tgt := 80) dX7_refuses_74 (by decide) (by first | assumption | omega) (by first | assumption | omega) (fun c74 => ?_) (fun c74 => ?_)
          · refine aw_iconst dX7_refuses_80 ?_
            refine aw_istore (i := 6) (lv' := [(0, .ref 58), (1, iI b), (2, lL t), (4, iI t), (5, iI (t - (mi 59 b))), (6, iI 0)]) [1, 2, 3, 4, 5, 0] dX7_refuses_81 (by decide) rfl ?_
            exact l_ref1 hR hB ho hpl hb ⟨by omega, by omega⟩ (by omega) (by omega) (by omega) (by omega) 53 mi 0 (fun _ _ _ => rfl) (fun j j0 j1 => by omega) (by omega) (by omega)
          · refine aw_bipush (x := -7) dX7_refuses_77 rfl ?_
            exact aw_iret ⟨_, rfl, rfl, rfl, (by unfold exam; rw [pick_neg (by omega), pick_neg (by omega), pick_neg (by omega), pick_neg (by omega), pick_pos (Or.inl (by omega))]), (fun _ _ _ => rfl)⟩ (Nat.le_refl _) (Nat.le_refl _) dX7_refuses_79
        · refine aw_bipush (x := -4) dX7_refuses_63 rfl ?_
          exact aw_iret ⟨_, rfl, rfl, rfl, (by unfold exam; rw [pick_neg (by omega), pick_neg (by omega), pick_neg (by omega), pick_pos (by omega)]), (fun _ _ _ => rfl)⟩ (Nat.le_refl _) (Nat.le_refl _) dX7_refuses_65
      · refine aw_bipush (x := -5) dX7_refuses_50 rfl ?_
        exact aw_iret ⟨_, rfl, rfl, rfl, (by unfold exam; rw [pick_neg (by omega), pick_neg (by omega), pick_pos (by omega)]), (fun _ _ _ => rfl)⟩ (Nat.le_refl _) (Nat.le_refl _) dX7_refuses_52
    · refine aw_bipush (x := -6) dX7_refuses_23 rfl ?_
      exact aw_iret ⟨_, rfl, rfl, rfl, (by unfold exam; rw [pick_neg (by omega), pick_pos (by omega)]), (fun _ _ _ => rfl)⟩ (Nat.le_refl _) (Nat.le_refl _) dX7_refuses_25
  · refine aw_bipush (x := -3) dX7_refuses_11 rfl ?_
    exact aw_iret ⟨_, rfl, rfl, rfl, (by unfold exam; rw [pick_pos (by omega)]), (fun _ _ _ => rfl)⟩ (Nat.le_refl _) (Nat.le_refl _) dX7_refuses_13
