-- part 70: the coupling is kept: bells, limits, entries, text, patterns (printed by wip/whole/gen/p70.py)
section KEEP
variable {c m : aM} {E : Int → Nat} {mr : aR}
theorem st_power (hen : enI mr E) (h : KK c m E) {x : Int} (hx : 1 ≤ x ∧ x ≤ 12) : KK (aup c 1 14 x) (aup m 58 7 x) E := by
  obtain ⟨⟨⟨⟨a1, a2, a3, a4, a5, a6⟩, b1, b2, b3⟩, d1⟩, h1, h2, h3, h4, h5, h6, h7, h8⟩ := h
  have g : ∀ (y : Nat) (j : Int), (y ≠ 1 ∨ j ≠ 14) → aup c 1 14 x y j = c y j := fun y j q => by rcases q with q | q; (exact aup_a q); (exact aup_k q)
  have f : ∀ (y : Nat) (j : Int), (y ≠ 58 ∨ j ≠ 7) → aup m 58 7 x y j = m y j := fun y j q => by rcases q with q | q; (exact aup_a q); (exact aup_k q)
  refine ⟨⟨⟨⟨cB_fr a1 (g _ _ (by omega)) (g _ _ (by omega)) (fun i j hi => g _ _ (by omega)), by rw [aup_eq]; exact hx, sOk_congr (fun j => ⟨g _ _ (by omega), g _ _ (by omega), g _ _ (by omega)⟩) (g _ _ (by omega)) a3, fun y y0 y1 => pOk_fr (fun j => g _ _ (by omega)) (fun j => g _ _ (by omega)) (a4 y y0 y1), by rw [g _ _ (by omega)]; exact a5, fun j j0 j1 => ?_⟩, ?_, by rw [g _ _ (by omega), g _ _ (by omega)]; exact b2, fun i hi i1 => by rw [g _ _ (by omega)] at i1; rw [g _ _ (by omega)]; exact b3 i hi i1⟩, by rw [g _ _ (by omega)]; exact d1⟩, ?_, K2_fr (g _ _ (by omega)) (fun y j q1 q2 => g _ _ (by omega)) (fun y j q => f _ _ (by omega)) h2, K3_fr (fun y j q1 q2 => g _ _ (by omega)) (f _ _ (by omega)) (f _ _ (by omega)) (fun y j q1 q2 => f _ _ (by omega)) h3, K4_fr (g _ _ (by omega)) (fun y j q1 q2 => g _ _ (by omega)) (f _ _ (by omega)) (fun j _ _ => ⟨f _ _ (by omega), f _ _ (by omega), f _ _ (by omega)⟩) h4, K5_fr (fun y j q1 q2 => g _ _ (by omega)) (fun y j q => f _ _ (by omega)) h5, K6_fr hen a5.2 (g _ _ (by omega)) (fun y j q1 q2 => g _ _ (by omega)) (fun y j q1 q2 => f _ _ (by omega)) h6, K7_fr (g _ _ (by omega)) (g _ _ (by omega)) (g _ _ (by omega)) (fun j => g _ _ (by omega)) (fun j q => f _ _ (by omega)) (fun j => f _ _ (by omega)) h7, mX_fr (f _ _ (by omega)) (f _ _ (by omega)) (fun y j q => f _ _ (by omega)) h8⟩
  · rw [g _ _ (by omega)] at j1
    have ej := (hen.1 j j0 (by omega)).2
    have k := a6 j j0 j1
    unfold eOk at *
    rw [g _ _ (by omega), g _ _ (by omega), g _ _ (by omega), g _ _ (by omega), g _ _ (by omega)]
    exact k
  · unfold lgOk at *; rw [g _ _ (by omega), g _ _ (by omega)]; exact b1
  · obtain ⟨k1, k2, k3, k4, k5, k6⟩ := h1
    exact ⟨by rw [f _ _ (by omega), g _ _ (by omega)]; exact k1, by rw [aup_eq, aup_eq], by rw [f _ _ (by omega), g _ _ (by omega)]; exact k3, by rw [f _ _ (by omega), g _ _ (by omega)]; exact k4, by rw [f _ _ (by omega), g _ _ (by omega)]; exact k5, by rw [f _ _ (by omega), g _ _ (by omega)]; exact k6⟩
theorem st_limit (hen : enI mr E) (h : KK c m E) {x : Int} (hx : 0 ≤ x ∧ x ≤ 100000) : KK (aup c 1 15 x) (aup m 58 8 x) E := by
  obtain ⟨⟨⟨⟨a1, a2, a3, a4, a5, a6⟩, b1, b2, b3⟩, d1⟩, h1, h2, h3, h4, h5, h6, h7, h8⟩ := h
  have g : ∀ (y : Nat) (j : Int), (y ≠ 1 ∨ j ≠ 15) → aup c 1 15 x y j = c y j := fun y j q => by rcases q with q | q; (exact aup_a q); (exact aup_k q)
  have f : ∀ (y : Nat) (j : Int), (y ≠ 58 ∨ j ≠ 8) → aup m 58 8 x y j = m y j := fun y j q => by rcases q with q | q; (exact aup_a q); (exact aup_k q)
  refine ⟨⟨⟨⟨cB_fr a1 (g _ _ (by omega)) (g _ _ (by omega)) (fun i j hi => g _ _ (by omega)), by rw [g _ _ (by omega)]; exact a2, sOk_congr (fun j => ⟨g _ _ (by omega), g _ _ (by omega), g _ _ (by omega)⟩) (g _ _ (by omega)) a3, fun y y0 y1 => pOk_fr (fun j => g _ _ (by omega)) (fun j => g _ _ (by omega)) (a4 y y0 y1), by rw [g _ _ (by omega)]; exact a5, fun j j0 j1 => ?_⟩, ?_, by rw [g _ _ (by omega), g _ _ (by omega)]; exact b2, fun i hi i1 => by rw [g _ _ (by omega)] at i1; rw [g _ _ (by omega)]; exact b3 i hi i1⟩, by rw [aup_eq]; exact hx⟩, ?_, K2_fr (g _ _ (by omega)) (fun y j q1 q2 => g _ _ (by omega)) (fun y j q => f _ _ (by omega)) h2, K3_fr (fun y j q1 q2 => g _ _ (by omega)) (f _ _ (by omega)) (f _ _ (by omega)) (fun y j q1 q2 => f _ _ (by omega)) h3, K4_fr (g _ _ (by omega)) (fun y j q1 q2 => g _ _ (by omega)) (f _ _ (by omega)) (fun j _ _ => ⟨f _ _ (by omega), f _ _ (by omega), f _ _ (by omega)⟩) h4, K5_fr (fun y j q1 q2 => g _ _ (by omega)) (fun y j q => f _ _ (by omega)) h5, K6_fr hen a5.2 (g _ _ (by omega)) (fun y j q1 q2 => g _ _ (by omega)) (fun y j q1 q2 => f _ _ (by omega)) h6, K7_fr (g _ _ (by omega)) (g _ _ (by omega)) (g _ _ (by omega)) (fun j => g _ _ (by omega)) (fun j q => f _ _ (by omega)) (fun j => f _ _ (by omega)) h7, mX_fr (f _ _ (by omega)) (f _ _ (by omega)) (fun y j q => f _ _ (by omega)) h8⟩
  · rw [g _ _ (by omega)] at j1
    have ej := (hen.1 j j0 (by omega)).2
    have k := a6 j j0 j1
    unfold eOk at *
    rw [g _ _ (by omega), g _ _ (by omega), g _ _ (by omega), g _ _ (by omega), g _ _ (by omega)]
    exact k
  · unfold lgOk at *; rw [g _ _ (by omega), g _ _ (by omega)]; exact b1
  · obtain ⟨k1, k2, k3, k4, k5, k6⟩ := h1
    exact ⟨by rw [f _ _ (by omega), g _ _ (by omega)]; exact k1, by rw [f _ _ (by omega), g _ _ (by omega)]; exact k2, by rw [aup_eq, aup_eq], by rw [f _ _ (by omega), g _ _ (by omega)]; exact k4, by rw [f _ _ (by omega), g _ _ (by omega)]; exact k5, by rw [f _ _ (by omega), g _ _ (by omega)]; exact k6⟩
/-- one bell changes -/
theorem KK_bell (hen : enI mr E) (h : KK c m E) {c1 m1 : aM} {b : Int} (hb : 0 ≤ b ∧ b < c 1 11) (fc : ∀ (x : Nat) (j : Int), x ≠ 28 + b.toNat → c1 x j = c x j) (fm : ∀ (x : Nat) (j : Int), (x < 59 ∨ (63 < x ∧ x < 86) ∨ 92 < x) ∨ j ≠ b → m1 x j = m x j) (h1 : bOk c1 (28 + b.toNat)) (h2 : c1 (28 + b.toNat) 11 ≤ c 1 13) (h3 : c1 (28 + b.toNat) 6 ≠ 0 → c 1 13 < c1 (28 + b.toNat) 11 + c1 (28 + b.toNat) 3) (k : (m1 63 b = c1 (28 + b.toNat) 4 ∧ m1 87 b = c1 (28 + b.toNat) 5 ∧ m1 86 b = c1 (28 + b.toNat) 6) ∧ (m1 59 b = c1 (28 + b.toNat) 0 ∧ m1 60 b = c1 (28 + b.toNat) 1 ∧ m1 61 b = c1 (28 + b.toNat) 2 ∧ m1 62 b = c1 (28 + b.toNat) 3) ∧ (c1 (28 + b.toNat) 6 ≠ 0 → m1 88 b = c1 (28 + b.toNat) 7 ∧ m1 89 b = c1 (28 + b.toNat) 8 ∧ m1 90 b = c1 (28 + b.toNat) 9 ∧ m1 91 b = c1 (28 + b.toNat) 10 ∧ m1 92 b = c1 (28 + b.toNat) 11 + c1 (28 + b.toNat) 3)) (x1 : (m1 88 b = 0 ∨ m1 88 b = 1) ∧ (0 ≤ m1 89 b ∧ m1 89 b ≤ 1000) ∧ (0 ≤ m1 91 b ∧ m1 91 b ≤ 1000) ∧ (0 ≤ m1 92 b ∧ m1 92 b ≤ 200100)) : KK c1 m1 E := by
  have hn := kc_n h
  obtain ⟨⟨⟨⟨a1, a2, a3, a4, a5, a6⟩, b1, b2, b3⟩, d1⟩, e1, e2, e3, e4, e5, e6, e7, e8⟩ := h
  have g1 : ∀ j : Int, c1 1 j = c 1 j := fun j => fc _ _ (by omega)
  have fb : ∀ (i : Nat) (j : Int), i ≠ b.toNat → c1 (28 + i) j = c (28 + i) j := fun i j hi => fc _ _ (by omega)
  have f58 : ∀ j : Int, m1 58 j = m 58 j := fun j => fm _ _ (by omega)
  refine ⟨⟨⟨⟨⟨by rw [g1]; exact a1.1, by rw [g1]; exact a1.2.1, fun i hi => ?_⟩, by rw [g1]; exact a2, sOk_congr (fun j => ⟨fc _ _ (by omega), fc _ _ (by omega), fc _ _ (by omega)⟩) (fc _ _ (by omega)) a3, fun y y0 y1 => pOk_fr (fun j => fc _ _ (by omega)) (fun j => fc _ _ (by omega)) (a4 y y0 y1), by rw [g1]; exact a5, fun j j0 j1 => ?_⟩, ?_, by rw [g1, g1]; exact b2, fun i hi i1 => ?_⟩, by rw [g1]; exact d1⟩, K1_fr g1 (fun j _ => f58 j) e1, fun y y0 y1 => ?_, K3_fr (fun y j q1 q2 => fc _ _ (by omega)) (f58 _) (f58 _) (fun y j q1 q2 => fm _ _ (by omega)) e3, K4_fr (fc _ _ (by omega)) (fun y j q1 q2 => fc _ _ (by omega)) (f58 _) (fun j _ _ => ⟨fm _ _ (by omega), fm _ _ (by omega), fm _ _ (by omega)⟩) e4, K5_fr (fun y j q1 q2 => fc _ _ (by omega)) (fun y j q => fm _ _ (by omega)) e5, K6_fr hen a5.2 (g1 _) (fun y j q1 q2 => fc _ _ (by omega)) (fun y j q1 q2 => fm _ _ (by omega)) e6, K7_fr (fc _ _ (by omega)) (fc _ _ (by omega)) (fc _ _ (by omega)) (fun j => fc _ _ (by omega)) (fun j _ => f58 j) (fun j => fm _ _ (by omega)) e7, fun i i0 i1 => ?_, fun i i0 i1 => ?_⟩
  · by_cases e : i = b.toNat
    · subst e; rw [g1]; exact ⟨h1, h2, h3⟩
    · have q := a1.2.2 i hi
      rw [g1, fb i _ e, fb i _ e, fb i _ e]
      exact ⟨bOk_fr (fun j => fb i j e) q.1, q.2⟩
  · rw [g1] at j1
    have ej := (hen.1 j j0 (by omega)).2
    have q := a6 j j0 j1
    have g : ∀ z : Int, c1 (E j) z = c (E j) z := fun z => fc _ _ (by omega)
    unfold eOk at *
    rw [g, g, g, g, g]
    exact q
  · unfold lgOk at *; rw [fc _ _ (by omega), fc _ _ (by omega)]; exact b1
  · rw [g1] at i1
    rw [fb i _ (by omega)]
    exact b3 i hi i1
  · by_cases e : y = b
    · subst e; exact ⟨k.1, fun _ => k.2⟩
    · have q := e2 y y0 y1
      have hne : y.toNat ≠ b.toNat := by omega
      have g : ∀ j : Int, c1 (28 + y.toNat) j = c (28 + y.toNat) j := fun j => fb _ j hne
      rw [g, g, g, g, g, g, g, g, g, g, g, g, g1, fm 63 y (Or.inr e), fm 87 y (Or.inr e), fm 86 y (Or.inr e), fm 59 y (Or.inr e), fm 60 y (Or.inr e), fm 61 y (Or.inr e), fm 62 y (Or.inr e), fm 88 y (Or.inr e), fm 89 y (Or.inr e), fm 90 y (Or.inr e), fm 91 y (Or.inr e), fm 92 y (Or.inr e)]
      exact q
  · rw [f58] at i1
    by_cases e : i = b
    · subst e
      refine ⟨x1.2.1, ?_, x1.2.2.1, x1.2.2.2, fun hs => ?_⟩
      · by_cases s : c1 (28 + i.toNat) 6 = 0
        · right; right; rw [k.1.2.2]; exact s
        · have q := h1.2.2.2.2.2.2.2.2.2.1
          rw [(k.2.2 s).2.2.1]
          omega
      · have s : c1 (28 + i.toNat) 6 ≠ 0 := by rw [← k.1.2.2]; exact hs
        rw [f58, (k.2.2 s).2.2.2.2, k.2.1.2.2.2, e1.2.2.2.1]
        have := h3 s
        omega
    · have q := e8.1 i i0 i1
      rw [f58, fm 89 i (Or.inr e), fm 90 i (Or.inr e), fm 86 i (Or.inr e), fm 91 i (Or.inr e), fm 92 i (Or.inr e), fm 62 i (Or.inr e)]
      exact q
  · by_cases e : i = b
    · subst e; exact x1
    · rw [fm 88 i (Or.inr e), fm 89 i (Or.inr e), fm 91 i (Or.inr e), fm 92 i (Or.inr e)]
      exact e8.2 i i0 i1
theorem st_cell (hen : enI mr E) (h : KK c m E) {b f x : Int} {a : Nat} (hb : 0 ≤ b ∧ b < c 1 11) (hf : (f = 5 ∧ a = 87 ∧ (x = 0 ∨ x = 1)) ∨ (f = 7 ∧ a = 88 ∧ x = 0) ∨ (f = 0 ∧ a = 59 ∧ 1 ≤ x ∧ x ≤ 50)) : KK (aup c (28 + b.toNat) f x) (aup m a b x) E := by
  have hn := kc_n h
  have q := kk_bell h (b := b) ⟨hb.1, by omega⟩
  have k2 := kk2 h hb.1 hb.2
  have t := (kc_B h).2.2 b.toNat (by omega)
  have x8 := h.2.2.2.2.2.2.2.2.2 b hb.1 (by omega)
  have g : ∀ j : Int, j ≠ f → aup c (28 + b.toNat) f x (28 + b.toNat) j = c (28 + b.toNat) j := fun j hj => aup_k hj
  have w : ∀ y : Nat, y ≠ a → aup m a b x y b = m y b := fun y hy => aup_a hy
  refine KK_bell hen h hb (fun y j hy => aup_a hy) (fun y j hy => ?_) ?_ ?_ ?_ ?_ ?_
  · by_cases e : y = a
    · exact aup_k (by omega)
    · exact aup_a e
  · unfold bOk at *
    rcases hf with ⟨rfl, rfl, hx⟩ | ⟨rfl, rfl, hx⟩ | ⟨rfl, rfl, hx⟩
    · rw [aup_eq, g 0 (by decide), g 1 (by decide), g 2 (by decide), g 3 (by decide), g 4 (by decide), g 6 (by decide), g 7 (by decide), g 8 (by decide), g 9 (by decide), g 10 (by decide), g 11 (by decide)]
      exact ⟨q.1, q.2.1, q.2.2.1, q.2.2.2.1, q.2.2.2.2.1, hx, q.2.2.2.2.2.2⟩
    · rw [aup_eq, g 0 (by decide), g 1 (by decide), g 2 (by decide), g 3 (by decide), g 4 (by decide), g 6 (by decide), g 5 (by decide), g 8 (by decide), g 9 (by decide), g 10 (by decide), g 11 (by decide)]
      exact ⟨q.1, q.2.1, q.2.2.1, q.2.2.2.1, q.2.2.2.2.1, q.2.2.2.2.2.1, q.2.2.2.2.2.2.1, Or.inl hx, q.2.2.2.2.2.2.2.2⟩
    · rw [aup_eq, g 7 (by decide), g 1 (by decide), g 2 (by decide), g 3 (by decide), g 4 (by decide), g 6 (by decide), g 5 (by decide), g 8 (by decide), g 9 (by decide), g 10 (by decide), g 11 (by decide)]
      exact ⟨hx, q.2⟩
  · rw [g 11 (by omega)]; exact t.2.1
  · rw [g 11 (by omega), g 6 (by omega), g 3 (by omega)]; exact t.2.2
  · rcases hf with ⟨rfl, rfl, hx⟩ | ⟨rfl, rfl, hx⟩ | ⟨rfl, rfl, hx⟩
    · rw [aup_eq, aup_eq, g 0 (by decide), g 1 (by decide), g 2 (by decide), g 3 (by decide), g 4 (by decide), g 6 (by decide), g 7 (by decide), g 8 (by decide), g 9 (by decide), g 10 (by decide), g 11 (by decide), w 63 (by decide), w 86 (by decide), w 59 (by decide), w 60 (by decide), w 61 (by decide), w 62 (by decide), w 88 (by decide), w 89 (by decide), w 90 (by decide), w 91 (by decide), w 92 (by decide)]
      exact ⟨⟨k2.1.1, rfl, k2.1.2.2⟩, k2.2⟩
    · rw [aup_eq, aup_eq, g 0 (by decide), g 1 (by decide), g 2 (by decide), g 3 (by decide), g 4 (by decide), g 6 (by decide), g 5 (by decide), g 8 (by decide), g 9 (by decide), g 10 (by decide), g 11 (by decide), w 63 (by decide), w 86 (by decide), w 59 (by decide), w 60 (by decide), w 61 (by decide), w 62 (by decide), w 87 (by decide), w 89 (by decide), w 90 (by decide), w 91 (by decide), w 92 (by decide)]
      exact ⟨k2.1, k2.2.1, fun s => ⟨rfl, (k2.2.2 s).2⟩⟩
    · rw [aup_eq, aup_eq, g 7 (by decide), g 1 (by decide), g 2 (by decide), g 3 (by decide), g 4 (by decide), g 6 (by decide), g 5 (by decide), g 8 (by decide), g 9 (by decide), g 10 (by decide), g 11 (by decide), w 63 (by decide), w 86 (by decide), w 88 (by decide), w 60 (by decide), w 61 (by decide), w 62 (by decide), w 87 (by decide), w 89 (by decide), w 90 (by decide), w 91 (by decide), w 92 (by decide)]
      exact ⟨k2.1, ⟨rfl, k2.2.1.2⟩, k2.2.2⟩
  · rw [w 89 (by omega), w 91 (by omega), w 92 (by omega)]
    refine ⟨?_, x8.2⟩
    rcases hf with ⟨rfl, rfl, hx⟩ | ⟨rfl, rfl, hx⟩ | ⟨rfl, rfl, hx⟩
    · rw [w 88 (by decide)]; exact x8.1
    · rw [aup_eq]; exact Or.inl hx
    · rw [w 88 (by decide)]; exact x8.1
theorem st_start (hen : enI mr E) (h : KK c m E) {b g : Int} (hb : 0 ≤ b ∧ b < c 1 11) (hg : 1 ≤ g ∧ g ≤ 1000) : KK (stB c (28 + b.toNat) (c 1 13) g) (stA m b g) E := by
  have hn := kc_n h
  have q := kk_bell h (b := b) ⟨hb.1, by omega⟩
  have k2 := kk2 h hb.1 hb.2
  have hnw := (kc_B h).2.1
  obtain ⟨s6, s7, s8, s9, s10, s11⟩ := stB_v c (28 + b.toNat) (c 1 13) g
  have sk : ∀ j : Int, j < 6 → stB c (28 + b.toNat) (c 1 13) g (28 + b.toNat) j = c (28 + b.toNat) j := fun j hj => stB_k (Or.inl hj) _
  have tA : ∀ (x : Nat) (j : Int), (x < 86 ∨ 92 < x ∨ x = 87) ∨ j ≠ b → stA m b g x j = m x j := fun x j hx => by
    unfold stA
    rcases hx with hx | hx
    · rw [aup_a (by omega), aup_a (by omega), aup_a (by omega), aup_a (by omega), aup_a (by omega), aup_a (by omega)]
    · rw [aup_k hx, aup_k hx, aup_k hx, aup_k hx, aup_k hx, aup_k hx]
  have t86 : stA m b g 86 b = 1 := by unfold stA; rw [aup_a (by decide), aup_a (by decide), aup_a (by decide), aup_a (by decide), aup_a (by decide), aup_eq]
  have t88 : stA m b g 88 b = 1 := by unfold stA; rw [aup_a (by decide), aup_a (by decide), aup_a (by decide), aup_a (by decide), aup_eq]
  have t89 : stA m b g 89 b = 0 := by unfold stA; rw [aup_a (by decide), aup_a (by decide), aup_a (by decide), aup_eq]
  have t90 : stA m b g 90 b = 1 := by unfold stA; rw [aup_a (by decide), aup_a (by decide), aup_eq]
  have t91 : stA m b g 91 b = g := by unfold stA; rw [aup_a (by decide), aup_eq]
  have t92 : stA m b g 92 b = m 58 9 + m 62 b := by unfold stA; rw [aup_eq]
  refine KK_bell hen h hb (fun y j hy => stB_o hy j) (fun y j hy => tA y j (by omega)) ?_ ?_ ?_ ?_ ?_
  · unfold bOk at *
    rw [s6, s7, s8, s9, s10, s11, sk 0 (by decide), sk 1 (by decide), sk 2 (by decide), sk 3 (by decide), sk 4 (by decide), sk 5 (by decide)]
    exact ⟨q.1, q.2.1, q.2.2.1, q.2.2.2.1, q.2.2.2.2.1, q.2.2.2.2.2.1, Or.inr rfl, Or.inr rfl, by decide, Or.inl rfl, by omega, by omega⟩
  · rw [s11]; exact Int.le_refl _
  · intro _
    rw [s11, sk 3 (by decide)]
    have := q.2.2.2.1
    omega
  · rw [s6, s7, s8, s9, s10, s11, sk 0 (by decide), sk 1 (by decide), sk 2 (by decide), sk 3 (by decide), sk 4 (by decide), sk 5 (by decide), t86, t88, t89, t90, t91, t92, tA 63 b (by omega), tA 87 b (by omega), tA 59 b (by omega), tA 60 b (by omega), tA 61 b (by omega), tA 62 b (by omega), h.2.1.2.2.2.1, k2.2.1.2.2.2]
    exact ⟨⟨k2.1.1, k2.1.2.1, rfl⟩, ⟨k2.2.1.1, k2.2.1.2.1, k2.2.1.2.2.1, rfl⟩, fun _ => ⟨rfl, rfl, rfl, rfl, rfl⟩⟩
  · rw [t88, t89, t91, t92, h.2.1.2.2.2.1, k2.2.1.2.2.2]
    have := q.2.2.2.1
    exact ⟨Or.inr rfl, by decide, by omega, by omega⟩
end KEEP
