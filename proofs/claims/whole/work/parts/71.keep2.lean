-- part 71: the coupling is kept: addBell, entries, text, patterns (printed by wip/whole/gen/p71.py)
section KEEP
variable {c m : aM} {E : Int → Nat} {mr : aR}
/-- the memories with one bell more -/
def abC (c : aM) (n : Int) (d e w hh : Int) : aM := aup (aup (aup (aup (aup c (28 + n.toNat) 0 d) (28 + n.toNat) 1 e) (28 + n.toNat) 2 w) (28 + n.toNat) 3 hh) 1 11 (n + 1)
def abM (m : aM) (n : Int) (d e w hh : Int) : aM := aup (aup (aup (aup (aup m 59 n d) 60 n e) 61 n w) 62 n hh) 58 6 (n + 1)
theorem abC_o {n d e w hh : Int} {x : Nat} {j : Int} (h1 : x ≠ 1 ∨ j ≠ 11) (h2 : x ≠ 28 + n.toNat ∨ 3 < j ∨ j < 0) : abC c n d e w hh x j = c x j := by
  unfold abC
  have e1 : aup (aup (aup (aup c (28 + n.toNat) 0 d) (28 + n.toNat) 1 e) (28 + n.toNat) 2 w) (28 + n.toNat) 3 hh x j = c x j := by
    rcases h2 with q | q
    · rw [aup_a q, aup_a q, aup_a q, aup_a q]
    · rw [aup_k (by omega), aup_k (by omega), aup_k (by omega), aup_k (by omega)]
  rcases h1 with q | q
  · rw [aup_a q]; exact e1
  · rw [aup_k q]; exact e1
theorem abM_o {n d e w hh : Int} {x : Nat} {j : Int} (h1 : x ≠ 58 ∨ j ≠ 6) (h2 : (x < 59 ∨ 62 < x) ∨ j ≠ n) : abM m n d e w hh x j = m x j := by
  unfold abM
  have e1 : aup (aup (aup (aup m 59 n d) 60 n e) 61 n w) 62 n hh x j = m x j := by
    rcases h2 with q | q
    · rw [aup_a (by omega), aup_a (by omega), aup_a (by omega), aup_a (by omega)]
    · rw [aup_k q, aup_k q, aup_k q, aup_k q]
  rcases h1 with q | q
  · rw [aup_a q]; exact e1
  · rw [aup_k q]; exact e1
theorem abC_v {n d e w hh : Int} : abC c n d e w hh 1 11 = n + 1 ∧ abC c n d e w hh (28 + n.toNat) 0 = d ∧ abC c n d e w hh (28 + n.toNat) 1 = e ∧ abC c n d e w hh (28 + n.toNat) 2 = w ∧ abC c n d e w hh (28 + n.toNat) 3 = hh := by
  unfold abC
  refine ⟨aup_eq _ _ _ _, ?_, ?_, ?_, ?_⟩
  · rw [aup_a (by omega), aup_k (by decide), aup_k (by decide), aup_k (by decide), aup_eq]
  · rw [aup_a (by omega), aup_k (by decide), aup_k (by decide), aup_eq]
  · rw [aup_a (by omega), aup_k (by decide), aup_eq]
  · rw [aup_a (by omega), aup_eq]
theorem abM_v {n d e w hh : Int} : abM m n d e w hh 58 6 = n + 1 ∧ abM m n d e w hh 59 n = d ∧ abM m n d e w hh 60 n = e ∧ abM m n d e w hh 61 n = w ∧ abM m n d e w hh 62 n = hh := by
  unfold abM
  refine ⟨aup_eq _ _ _ _, ?_, ?_, ?_, ?_⟩
  · rw [aup_a (by decide), aup_a (by decide), aup_a (by decide), aup_a (by decide), aup_eq]
  · rw [aup_a (by decide), aup_a (by decide), aup_a (by decide), aup_eq]
  · rw [aup_a (by decide), aup_a (by decide), aup_eq]
  · rw [aup_a (by decide), aup_eq]
theorem st_addBell (hen : enI mr E) (h : KK c m E) {d e w hh : Int} (hn : c 1 11 < 12) (hd : 1 ≤ d ∧ d ≤ 50) (he : 0 ≤ e ∧ e ≤ 100) (hw : 1 ≤ w ∧ w ≤ 99) (hh9 : 10 ≤ hh ∧ hh ≤ 60) : KK (abC c (c 1 11) d e w hh) (abM m (c 1 11) d e w hh) E := by
  have hn0 := kc_n h
  obtain ⟨⟨⟨⟨a1, a2, a3, a4, a5, a6⟩, b1, b2, b3⟩, d1⟩, e1, e2, e3, e4, e5, e6, e7, e8⟩ := h
  generalize hN : c 1 11 = n at *
  have hs0 : c (28 + n.toNat) 6 = 0 := b3 n.toNat (by omega) (by omega)
  have g1 : ∀ j : Int, j ≠ 11 → abC c n d e w hh 1 j = c 1 j := fun j hj => abC_o (Or.inr hj) (by omega)
  have gx : ∀ (x : Nat) (j : Int), x ≠ 1 → (x < 28 ∨ 40 ≤ x) → abC c n d e w hh x j = c x j := fun x j q1 q2 => abC_o (Or.inl q1) (by omega)
  have fx : ∀ (x : Nat) (j : Int), (x < 58 ∨ 62 < x) → abM m n d e w hh x j = m x j := fun x j q => abM_o (by omega) (by omega)
  have f58 : ∀ j : Int, j ≠ 6 → abM m n d e w hh 58 j = m 58 j := fun j hj => abM_o (Or.inr hj) (by omega)
  obtain ⟨v0, v1, v2, v3, v4⟩ := abC_v (c := c) (n := n) (d := d) (e := e) (w := w) (hh := hh)
  obtain ⟨u0, u1, u2, u3, u4⟩ := abM_v (m := m) (n := n) (d := d) (e := e) (w := w) (hh := hh)
  obtain ⟨k1, k2, k3, k4, k5, k6⟩ := e1
  refine ⟨⟨⟨⟨⟨by rw [v0]; omega, by rw [g1 13 (by decide)]; exact a1.2.1, fun i hi => ?_⟩, by rw [g1 14 (by decide)]; exact a2, sOk_congr (fun j => ⟨gx _ _ (by omega) (by omega), gx _ _ (by omega) (by omega), gx _ _ (by omega) (by omega)⟩) (gx _ _ (by omega) (by omega)) a3, fun y y0 y1 => pOk_fr (fun j => gx _ _ (by omega) (by omega)) (fun j => gx _ _ (by omega) (by omega)) (a4 y y0 y1), by rw [g1 12 (by decide)]; exact a5, fun j j0 j1 => ?_⟩, ?_, by rw [g1 16 (by decide), g1 13 (by decide)]; exact b2, fun i hi i1 => ?_⟩, by rw [g1 15 (by decide)]; exact d1⟩, ⟨by rw [u0, v0], by rw [f58 7 (by decide), g1 14 (by decide)]; exact k2, by rw [f58 8 (by decide), g1 15 (by decide)]; exact k3, by rw [f58 9 (by decide), g1 13 (by decide)]; exact k4, by rw [f58 42 (by decide), g1 12 (by decide)]; exact k5, by rw [f58 43 (by decide), g1 16 (by decide)]; exact k6⟩, fun y y0 y1 => ?_, K3_fr (fun y j q1 q2 => gx _ _ (by omega) (by omega)) (f58 _ (by decide)) (f58 _ (by decide)) (fun y j q1 q2 => fx _ _ (by omega)) e3, K4_fr (gx _ _ (by omega) (by omega)) (fun y j q1 q2 => gx _ _ (by omega) (by omega)) (f58 _ (by decide)) (fun j _ _ => ⟨fx _ _ (by omega), fx _ _ (by omega), fx _ _ (by omega)⟩) e4, K5_fr (fun y j q1 q2 => gx _ _ (by omega) (by omega)) (fun y j q => fx _ _ (by omega)) e5, K6_fr hen a5.2 (g1 _ (by decide)) (fun y j q1 q2 => gx _ _ (by omega) (by omega)) (fun y j q1 q2 => fx _ _ (by omega)) e6, K7_fr (gx _ _ (by omega) (by omega)) (gx _ _ (by omega) (by omega)) (gx _ _ (by omega) (by omega)) (fun j => gx _ _ (by omega) (by omega)) (fun j q => f58 j (by omega)) (fun j => fx _ _ (by omega)) e7, fun i i0 i1 => ?_, fun i i0 i1 => ?_⟩
  · have q := a1.2.2 i hi
    have gs : ∀ j : Int, 3 < j → abC c n d e w hh (28 + i) j = c (28 + i) j := fun j hj => abC_o (by omega) (by omega)
    by_cases ei : i = n.toNat
    · subst ei
      have q1 := q.1
      unfold bOk at *
      rw [g1 13 (by decide), v1, v2, v3, v4, gs 4 (by decide), gs 5 (by decide), gs 6 (by decide), gs 7 (by decide), gs 8 (by decide), gs 9 (by decide), gs 10 (by decide), gs 11 (by decide)]
      exact ⟨⟨hd, he, hw, hh9, q1.2.2.2.2⟩, q.2.1, fun s => absurd hs0 s⟩
    · have gi : ∀ j : Int, abC c n d e w hh (28 + i) j = c (28 + i) j := fun j => abC_o (by omega) (by omega)
      rw [g1 13 (by decide), gi, gi, gi]
      exact ⟨bOk_fr gi q.1, q.2⟩
  · rw [g1 12 (by decide)] at j1
    have ej := (hen.1 j j0 (by omega)).2
    have q := a6 j j0 j1
    have g : ∀ z : Int, abC c n d e w hh (E j) z = c (E j) z := fun z => gx _ _ (by omega) (by omega)
    unfold eOk at *
    rw [g, g, g, g, g]
    exact q
  · unfold lgOk at *; rw [gx _ _ (by omega) (by omega), gx _ _ (by omega) (by omega)]; exact b1
  · rw [v0] at i1
    rw [abC_o (by omega) (by omega)]
    exact b3 i hi (by omega)
  · have q := e2 y y0 y1
    have gs : ∀ j : Int, 3 < j → abC c n d e w hh (28 + y.toNat) j = c (28 + y.toNat) j := fun j hj => abC_o (by omega) (by omega)
    refine ⟨by rw [gs 4 (by decide), gs 5 (by decide), gs 6 (by decide), fx 63 _ (by decide), fx 87 _ (by decide), fx 86 _ (by decide)]; exact q.1, fun hy => ?_⟩
    rw [v0] at hy
    by_cases ey : y = n
    · subst ey
      rw [u1, u2, u3, u4, v1, v2, v3, v4, gs 6 (by decide)]
      exact ⟨⟨rfl, rfl, rfl, rfl⟩, fun s => absurd hs0 s⟩
    · have gi : ∀ j : Int, abC c n d e w hh (28 + y.toNat) j = c (28 + y.toNat) j := fun j => abC_o (by omega) (by omega)
      rw [gi, gi, gi, gi, gi, gi, gi, gi, gi, gi, abM_o (x := 59) (by omega) (Or.inr ey), abM_o (x := 60) (by omega) (Or.inr ey), abM_o (x := 61) (by omega) (Or.inr ey), abM_o (x := 62) (by omega) (Or.inr ey), fx 88 _ (by decide), fx 89 _ (by decide), fx 90 _ (by decide), fx 91 _ (by decide), fx 92 _ (by decide)]
      exact q.2 (by rw [hN]; omega)
  · rw [u0] at i1
    rw [f58 9 (by decide), fx 89 _ (by decide), fx 90 _ (by decide), fx 86 _ (by decide), fx 91 _ (by decide), fx 92 _ (by decide)]
    by_cases ei : i = n
    · subst ei
      have z := e8.2 i i0 (by omega)
      have z6 : m 86 i = 0 := by rw [(e2 i i0 (by omega)).1.2.2]; exact hs0
      exact ⟨z.2.1, Or.inr (Or.inr z6), z.2.2.1, z.2.2.2, fun s => absurd z6 s⟩
    · rw [abM_o (x := 62) (by omega) (Or.inr ei)]
      exact e8.1 i i0 (by omega)
  · rw [fx 88 _ (by decide), fx 89 _ (by decide), fx 91 _ (by decide), fx 92 _ (by decide)]
    exact e8.2 i i0 i1
/-! entries -/
def aeC (c : aM) (e : Nat) (n w T P s W : Int) : aM := aup (aup (aup (aup (aup (aup (aup c e 0 w) e 1 T) e 2 P) e 3 s) e 4 W) e 5 (-1)) 1 12 (n + 1)
def aeM (m : aM) (n w T P s W : Int) : aM := aup (aup (aup (aup (aup (aup (aup m 80 n w) 81 n T) 82 n P) 83 n s) 84 n W) 85 n (-1)) 58 42 (n + 1)
theorem aeC_o {e : Nat} {n w T P s W : Int} {x : Nat} {j : Int} (h1 : x ≠ 1 ∨ j ≠ 12) (h2 : x ≠ e) : aeC c e n w T P s W x j = c x j := by
  unfold aeC
  rcases h1 with q | q
  · rw [aup_a q, aup_a h2, aup_a h2, aup_a h2, aup_a h2, aup_a h2, aup_a h2]
  · rw [aup_k q, aup_a h2, aup_a h2, aup_a h2, aup_a h2, aup_a h2, aup_a h2]
theorem aeM_o {n w T P s W : Int} {x : Nat} {j : Int} (h1 : x ≠ 58 ∨ j ≠ 42) (h2 : (x < 80 ∨ 85 < x) ∨ j ≠ n) : aeM m n w T P s W x j = m x j := by
  unfold aeM
  have e1 : aup (aup (aup (aup (aup (aup m 80 n w) 81 n T) 82 n P) 83 n s) 84 n W) 85 n (-1) x j = m x j := by
    rcases h2 with q | q
    · rw [aup_a (by omega), aup_a (by omega), aup_a (by omega), aup_a (by omega), aup_a (by omega), aup_a (by omega)]
    · rw [aup_k q, aup_k q, aup_k q, aup_k q, aup_k q, aup_k q]
  rcases h1 with q | q
  · rw [aup_a q]; exact e1
  · rw [aup_k q]; exact e1
theorem aeC_v {e : Nat} {n w T P s W : Int} (he : e ≠ 1) : aeC c e n w T P s W 1 12 = n + 1 ∧ aeC c e n w T P s W e 0 = w ∧ aeC c e n w T P s W e 1 = T ∧ aeC c e n w T P s W e 2 = P ∧ aeC c e n w T P s W e 3 = s ∧ aeC c e n w T P s W e 4 = W ∧ aeC c e n w T P s W e 5 = -1 := by
  unfold aeC
  refine ⟨aup_eq _ _ _ _, ?_, ?_, ?_, ?_, ?_, ?_⟩
  · rw [aup_a he, aup_k (by decide), aup_k (by decide), aup_k (by decide), aup_k (by decide), aup_k (by decide), aup_eq]
  · rw [aup_a he, aup_k (by decide), aup_k (by decide), aup_k (by decide), aup_k (by decide), aup_eq]
  · rw [aup_a he, aup_k (by decide), aup_k (by decide), aup_k (by decide), aup_eq]
  · rw [aup_a he, aup_k (by decide), aup_k (by decide), aup_eq]
  · rw [aup_a he, aup_k (by decide), aup_eq]
  · rw [aup_a he, aup_eq]
theorem aeM_v {n w T P s W : Int} : aeM m n w T P s W 58 42 = n + 1 ∧ aeM m n w T P s W 80 n = w ∧ aeM m n w T P s W 81 n = T ∧ aeM m n w T P s W 82 n = P ∧ aeM m n w T P s W 83 n = s ∧ aeM m n w T P s W 84 n = W ∧ aeM m n w T P s W 85 n = -1 := by
  unfold aeM
  refine ⟨aup_eq _ _ _ _, ?_, ?_, ?_, ?_, ?_, ?_⟩
  · rw [aup_a (by decide), aup_a (by decide), aup_a (by decide), aup_a (by decide), aup_a (by decide), aup_a (by decide), aup_eq]
  · rw [aup_a (by decide), aup_a (by decide), aup_a (by decide), aup_a (by decide), aup_a (by decide), aup_eq]
  · rw [aup_a (by decide), aup_a (by decide), aup_a (by decide), aup_a (by decide), aup_eq]
  · rw [aup_a (by decide), aup_a (by decide), aup_a (by decide), aup_eq]
  · rw [aup_a (by decide), aup_a (by decide), aup_eq]
  · rw [aup_a (by decide), aup_eq]
/-- where only entries (cells 50 to 57) and their count change -/
theorem KK_ent (h : KK c m E) {c1 m1 : aM} {F : Int → Nat} (fc : ∀ (x : Nat) (j : Int), x < 50 → (x ≠ 1 ∨ j ≠ 12) → c1 x j = c x j) (fm : ∀ (x : Nat) (j : Int), 58 ≤ x → (x < 80 ∨ 85 < x) → (x ≠ 58 ∨ j ≠ 42) → m1 x j = m x j) (h5 : 0 ≤ c1 1 12 ∧ c1 1 12 ≤ 8) (h42 : m1 58 42 = c1 1 12) (he : ∀ j : Int, 0 ≤ j → j < c1 1 12 → eOk c1 (F j)) (h6 : K6 c1 m1 F) : KK c1 m1 F := by
  obtain ⟨⟨⟨⟨a1, a2, a3, a4, a5, a6⟩, b1, b2, b3⟩, d1⟩, e1, e2, e3, e4, e5, e6, e7, e8⟩ := h
  have g1 : ∀ j : Int, j ≠ 12 → c1 1 j = c 1 j := fun j hj => fc 1 j (by decide) (Or.inr hj)
  have gx : ∀ (x : Nat) (j : Int), x < 50 → x ≠ 1 → c1 x j = c x j := fun x j q1 q2 => fc x j q1 (Or.inl q2)
  have f58 : ∀ j : Int, j ≠ 42 → m1 58 j = m 58 j := fun j hj => fm _ _ (by decide) (by decide) (Or.inr hj)
  have fx : ∀ (x : Nat) (j : Int), 59 ≤ x → (x < 80 ∨ 85 < x) → m1 x j = m x j := fun x j q1 q2 => fm x j (by omega) q2 (Or.inl (by omega))
  obtain ⟨k1, k2, k3, k4, k5, k6⟩ := e1
  refine ⟨⟨⟨⟨cB_fr a1 (g1 _ (by decide)) (g1 _ (by decide)) (fun i j hi => gx _ _ (by omega) (by omega)), by rw [g1 14 (by decide)]; exact a2, sOk_congr (fun j => ⟨gx _ _ (by omega) (by omega), gx _ _ (by omega) (by omega), gx _ _ (by omega) (by omega)⟩) (gx _ _ (by omega) (by omega)) a3, fun y y0 y1 => pOk_fr (fun j => gx _ _ (by omega) (by omega)) (fun j => gx _ _ (by omega) (by omega)) (a4 y y0 y1), h5, he⟩, ?_, by rw [g1 16 (by decide), g1 13 (by decide)]; exact b2, fun i hi i1 => by rw [g1 11 (by decide)] at i1; rw [gx _ _ (by omega) (by omega)]; exact b3 i hi i1⟩, by rw [g1 15 (by decide)]; exact d1⟩, ⟨by rw [f58 6 (by decide), g1 11 (by decide)]; exact k1, by rw [f58 7 (by decide), g1 14 (by decide)]; exact k2, by rw [f58 8 (by decide), g1 15 (by decide)]; exact k3, by rw [f58 9 (by decide), g1 13 (by decide)]; exact k4, h42, by rw [f58 43 (by decide), g1 16 (by decide)]; exact k6⟩, K2_fr (g1 _ (by decide)) (fun y j q1 q2 => gx _ _ (by omega) (by omega)) (fun y j q => fx _ _ (by omega) (by omega)) e2, K3_fr (fun y j q1 q2 => gx _ _ (by omega) (by omega)) (f58 _ (by decide)) (f58 _ (by decide)) (fun y j q1 q2 => fx _ _ (by omega) (by omega)) e3, K4_fr (gx _ _ (by omega) (by omega)) (fun y j q1 q2 => gx _ _ (by omega) (by omega)) (f58 _ (by decide)) (fun j _ _ => ⟨fx _ _ (by omega) (by omega), fx _ _ (by omega) (by omega), fx _ _ (by omega) (by omega)⟩) e4, K5_fr (fun y j q1 q2 => gx _ _ (by omega) (by omega)) (fun y j q => fx _ _ (by omega) (by omega)) e5, h6, K7_fr (gx _ _ (by omega) (by omega)) (gx _ _ (by omega) (by omega)) (gx _ _ (by omega) (by omega)) (fun j => gx _ _ (by omega) (by omega)) (fun j q => f58 j (by omega)) (fun j => fx _ _ (by omega) (by omega)) e7, mX_fr (f58 _ (by decide)) (f58 _ (by decide)) (fun y j q => fx _ _ (by omega) (by omega)) e8⟩
  unfold lgOk at *; rw [gx _ _ (by omega) (by omega), gx _ _ (by omega) (by omega)]; exact b1
theorem st_addEntry (hen : enI mr E) (h : KK c m E) {w T P s W : Int} (hn : c 1 12 < 8) (hw : 0 ≤ w ∧ w < 5) (hT : (0 ≤ T ∧ T ≤ 100000) ∧ (P = 0 ∨ (200 ≤ P ∧ P ≤ 50000)) ∧ (1 ≤ s ∧ s ≤ 200) ∧ (0 ≤ W ∧ W ≤ 500)) : KK (aeC c (E (c 1 12)) (c 1 12) w T P s W) (aeM m (c 1 12) w T P s W) E := by
  have hn0 := kc_e8 h
  have h6 := h.2.2.2.2.2.2.1
  have a6 := h.1.1.1.2.2.2.2.2
  have ee := (hen.1 (c 1 12) hn0.1 hn).2
  have hne : ∀ j : Int, 0 ≤ j → j < c 1 12 → E j ≠ E (c 1 12) := fun j j0 j1 q => by
    have := hen.2 j (c 1 12) j0 (by omega) hn0.1 hn q
    omega
  generalize hN : c 1 12 = n at *
  obtain ⟨v0, v1, v2, v3, v4, v5, v6⟩ := aeC_v (c := c) (e := E n) (n := n) (w := w) (T := T) (P := P) (s := s) (W := W) (by omega)
  obtain ⟨u0, u1, u2, u3, u4, u5, u6⟩ := aeM_v (m := m) (n := n) (w := w) (T := T) (P := P) (s := s) (W := W)
  refine KK_ent h (fun x j q1 q2 => aeC_o q2 (by omega)) (fun x j q1 q2 q3 => aeM_o q3 (Or.inl q2)) (by rw [v0]; omega) (by rw [u0, v0]) (fun j j0 j1 => ?_) (fun j j0 j1 => ?_)
  · rw [v0] at j1
    by_cases ej : j = n
    · subst ej
      unfold eOk
      rw [v1, v2, v3, v4, v5]
      exact ⟨hw, hT⟩
    · have q := a6 j j0 (by omega)
      have e5 := (hen.1 j j0 (by omega)).2
      have g : ∀ z : Int, aeC c (E n) n w T P s W (E j) z = c (E j) z := fun z => aeC_o (by omega) (hne j j0 (by omega))
      unfold eOk at *
      rw [g, g, g, g, g]
      exact q
  · rw [v0] at j1
    by_cases ej : j = n
    · subst ej
      rw [u1, u2, u3, u4, u5, u6, v1, v2, v3, v4, v5, v6]
      exact ⟨rfl, rfl, rfl, rfl, rfl, rfl⟩
    · have q := h6 j j0 (by omega)
      have e5 := (hen.1 j j0 (by omega)).2
      have g : ∀ z : Int, aeC c (E n) n w T P s W (E j) z = c (E j) z := fun z => aeC_o (by omega) (hne j j0 (by omega))
      rw [g, g, g, g, g, g, aeM_o (x := 80) (by omega) (Or.inr ej), aeM_o (x := 81) (by omega) (Or.inr ej), aeM_o (x := 82) (by omega) (Or.inr ej), aeM_o (x := 83) (by omega) (Or.inr ej), aeM_o (x := 84) (by omega) (Or.inr ej), aeM_o (x := 85) (by omega) (Or.inr ej)]
      exact q
theorem st_remove (hen : enI mr E) (h : KK c m E) {i : Int} (hi : 0 ≤ i ∧ i < c 1 12) {m1 : aM} (hm : deI m m1 i (m 58 42 - 1)) : KK (aup c 1 12 (c 1 12 - 1)) m1 (edr i (c 1 12) E) := by
  have hn0 := kc_e8 h
  have h6 := h.2.2.2.2.2.2.1
  have h42 := h.2.1.2.2.2.2.1
  have hpd := pgI_drop hen h.1.1.1 hi
  obtain ⟨m0, m2, m3⟩ := hm
  refine KK_ent h (fun x j q1 q2 => by rcases q2 with q2 | q2; (exact aup_a q2); (exact aup_k q2)) (fun x j q1 q2 q3 => m2 x j q2 q3) (by rw [aup_eq]; omega) (by rw [aup_eq, m0, h42]) hpd.2.2.2.2.2 (fun j j0 j1 => ?_)
  rw [aup_eq] at j1
  have hix : ∀ q : Int, 0 ≤ q → q < c 1 12 → 50 ≤ E q := fun q q0 q1 => (hen.1 q q0 (by omega)).2.1
  rw [m3 80 j (by decide) (by decide), m3 81 j (by decide) (by decide), m3 82 j (by decide) (by decide), m3 83 j (by decide) (by decide), m3 84 j (by decide) (by decide), m3 85 j (by decide) (by decide), h42]
  by_cases q : i ≤ j ∧ j < c 1 12 - 1
  · have e9 : edr i (c 1 12) E j = E (j + 1) := if_pos q
    have e8 := hix (j + 1) (by omega) (by omega)
    rw [if_pos q, if_pos q, if_pos q, if_pos q, if_pos q, if_pos q, e9, aup_a (by omega), aup_a (by omega), aup_a (by omega), aup_a (by omega), aup_a (by omega), aup_a (by omega)]
    exact h6 (j + 1) (by omega) (by omega)
  · have e9 : edr i (c 1 12) E j = E j := by unfold edr; rw [if_neg q, if_neg (by omega)]
    have e8 := hix j j0 (by omega)
    rw [if_neg q, if_neg q, if_neg q, if_neg q, if_neg q, if_neg q, e9, aup_a (by omega), aup_a (by omega), aup_a (by omega), aup_a (by omega), aup_a (by omega), aup_a (by omega)]
    exact h6 j j0 (by omega)
/-! text and patterns -/
/-- where only the text, its length, the error and the pattern w change -/
theorem KK_txt (hen : enI mr E) (h : KK c m E) {c1 m1 : aM} (fc : ∀ (x : Nat) (j : Int), x < 58 → x ≠ 18 → x ≠ 19 → x ≠ 20 → x ≠ 21 → x ≠ 22 → (x < 40 ∨ 50 ≤ x) → c1 x j = c x j) (fm : ∀ (x : Nat) (j : Int), 58 ≤ x → x ≠ 71 → x ≠ 72 → x ≠ 73 → x ≠ 74 → (x ≠ 58 ∨ j < 23 ∨ 30 < j) → m1 x j = m x j) (hp : ∀ x : Int, 0 ≤ x → x < 5 → pOk c1 (40 + 2 * x.toNat)) (h5 : K5 c1 m1) (h7 : K7 c1 m1) : KK c1 m1 E := by
  obtain ⟨⟨⟨⟨a1, a2, a3, a4, a5, a6⟩, b1, b2, b3⟩, d1⟩, e1, e2, e3, e4, e5, e6, e7, e8⟩ := h
  have gx : ∀ (x : Nat) (j : Int), (x < 18 ∨ (22 < x ∧ x < 40) ∨ (50 ≤ x ∧ x < 58)) → c1 x j = c x j := fun x j q => fc x j (by omega) (by omega) (by omega) (by omega) (by omega) (by omega) (by omega)
  have f58 : ∀ j : Int, (j < 23 ∨ 30 < j) → m1 58 j = m 58 j := fun j hj => fm _ _ (by decide) (by decide) (by decide) (by decide) (by decide) (Or.inr hj)
  have fx : ∀ (x : Nat) (j : Int), (59 ≤ x ∧ x < 71) ∨ 74 < x → m1 x j = m x j := fun x j q => fm x j (by omega) (by omega) (by omega) (by omega) (by omega) (Or.inl (by omega))
  refine ⟨⟨⟨⟨cB_fr a1 (gx _ _ (by decide)) (gx _ _ (by decide)) (fun i j hi => gx _ _ (by omega)), by rw [gx 1 14 (by decide)]; exact a2, sOk_congr (fun j => ⟨gx _ _ (by omega), gx _ _ (by omega), gx _ _ (by omega)⟩) (gx _ _ (by omega)) a3, hp, by rw [gx 1 12 (by decide)]; exact a5, fun j j0 j1 => ?_⟩, ?_, by rw [gx 1 16 (by decide), gx 1 13 (by decide)]; exact b2, fun i hi i1 => by rw [gx 1 11 (by decide)] at i1; rw [gx _ _ (by omega)]; exact b3 i hi i1⟩, by rw [gx 1 15 (by decide)]; exact d1⟩, K1_fr (fun j => gx _ _ (by omega)) (fun j q => f58 j (by omega)) e1, K2_fr (gx _ _ (by decide)) (fun y j q1 q2 => gx _ _ (by omega)) (fun y j q => fx _ _ (by omega)) e2, K3_fr (fun y j q1 q2 => gx _ _ (by omega)) (f58 _ (by decide)) (f58 _ (by decide)) (fun y j q1 q2 => fx _ _ (by omega)) e3, K4_fr (gx _ _ (by omega)) (fun y j q1 q2 => gx _ _ (by omega)) (f58 _ (by decide)) (fun j _ _ => ⟨fx _ _ (by omega), fx _ _ (by omega), fx _ _ (by omega)⟩) e4, h5, K6_fr hen a5.2 (gx _ _ (by decide)) (fun y j q1 q2 => gx _ _ (by omega)) (fun y j q1 q2 => fx _ _ (by omega)) e6, h7, mX_fr (f58 _ (by decide)) (f58 _ (by decide)) (fun y j q => fx _ _ (by omega)) e8⟩
  · rw [gx 1 12 (by decide)] at j1
    have ej := (hen.1 j j0 (by omega)).2
    have q := a6 j j0 j1
    have g : ∀ z : Int, c1 (E j) z = c (E j) z := fun z => gx _ _ (by omega)
    unfold eOk at *
    rw [g, g, g, g, g]
    exact q
  · unfold lgOk at *; rw [gx _ _ (by decide), gx _ _ (by decide)]; exact b1
theorem st_append (hen : enI mr E) (h : KK c m E) {c1 m1 : aM} {a b d e f : Int} (hl : c 18 1 ≤ 280) (hc : tx5 c c1 a b d e f) (hm : mx5 m m1 a b d e f 20) : KK c1 m1 E := by
  obtain ⟨t1, t2, t3⟩ := hc
  obtain ⟨m2, m3, m4⟩ := hm
  have h7 := h.2.2.2.2.2.2.2.1
  have hT := kc_T h
  rw [h7.1] at m2 m3 m4
  refine KK_txt hen h (fun x j q1 q2 q3 q4 q5 q6 q7 => t3 x j (Or.inl q3) (Or.inl q2)) (fun x j q1 q2 q3 q4 q5 q6 => m4 x j (Or.inl q2) (by omega)) (fun x x0 x1 => pOk_fr (fun j => t3 _ _ (by omega) (by omega)) (fun j => t3 _ _ (by omega) (by omega)) (kc_p h x x0 x1)) (K5_fr (fun x j q1 q2 => t3 _ _ (by omega) (by omega)) (fun x j q => m4 _ _ (by omega) (by omega)) h.2.2.2.2.2.1) ⟨by rw [t1, m2], by rw [t1]; omega, ?_, ?_, fun j j0 j1 => ?_⟩
  · rw [t3 18 4 (by omega) (by omega), m4 58 29 (by omega) (by omega)]; exact h7.2.2.1
  · rw [t3 18 5 (by omega) (by omega), m4 58 30 (by omega) (by omega)]; exact h7.2.2.2.1
  · rw [t1] at j1
    by_cases q : j < c 18 1
    · rw [t3 19 j (by omega) (by omega), m4 71 j (by omega) (by omega)]; exact h7.2.2.2.2 j j0 q
    · have e1 := t2 (j - c 18 1) (by omega) (by omega)
      have e2 := m3 (j - c 18 1) (by omega) (by omega)
      rw [show c 18 1 + (j - c 18 1) = j by omega] at e1 e2
      rw [e1, e2]
theorem kk_sg (h : KK c m E) {t : Int} (ht : t ≤ c 18 1) : sgF (fun j => m 71 j) t = sgF (fun j => c 19 j) t := by
  funext p
  unfold sgF
  by_cases q : 0 ≤ p ∧ p < t
  · rw [if_pos q, if_pos q]; exact h.2.2.2.2.2.2.2.1.2.2.2.2 p q.1 (by omega)
  · rw [if_neg q, if_neg q]
end KEEP
