-- part 69: equal answers: fastestTicks, turnsUntilLoud, shakes (printed by wip/whole/gen/p69.py)
section ANS
variable {c m : aM} {E : Int → Nat}
theorem clash_mv {M : List Str} {b k t e v : Int} : clash (mvs v M) b (k + v) (t + v) e ↔ clash M b k t e := by
  unfold clash
  constructor
  · rintro ⟨s, h1, h2, h3, h4⟩
    obtain ⟨a, ha, rfl⟩ := List.mem_map.mp h1
    exact ⟨a, ha, h2, by dsimp only at h3; omega, by dsimp only at h4; omega⟩
  · rintro ⟨s, h1, h2, h3, h4⟩
    exact ⟨(s.1, s.2.1 + v, s.2.2 + v), List.mem_map.mpr ⟨s, h1, rfl⟩, h2, by dsimp only; omega, by dsimp only; omega⟩
theorem over_mv {M : List Str} {k t pl v : Int} : over (mvs v M) (k + v) (t + v) pl ↔ over M k t pl := by
  unfold over
  constructor
  · rintro ⟨x, h1, h2, h3⟩
    refine ⟨x - v, by omega, by omega, ?_⟩
    have := cov_mv v (x - v) M
    rw [Int.sub_add_cancel] at this
    rw [← this]; exact h3
  · rintro ⟨x, h1, h2, h3⟩
    refine ⟨x + v, by omega, by omega, ?_⟩
    rw [cov_mv]; exact h3
theorem mvs_len (v : Int) (M : List Str) : (mvs v M).length = M.length := by simp [mvs]
theorem eZ_e0 (h : KK c m E) {M : List Str} {b t : Int} (b0 : 0 ≤ b) (b1 : b < c 1 11) (t0 : 0 ≤ t ∧ t ≤ 90000) : eZ m (mvs 1000 M) b (t + 1000) = 0 ↔ e0C c M b t = 0 := by
  have k := (kk2 h b0 b1).2.1
  have hd := (kk_bell h (b := b) ⟨b0, by have := kc_n h; omega⟩).1
  unfold eZ
  rw [exam_0, e0C_0, k.1, k.2.1, h.2.1.2.1, mvs_len, show t + 1000 - c (28 + b.toNat) 0 = (t - c (28 + b.toNat) 0) + 1000 by omega, clash_mv, over_mv]
  constructor
  · rintro ⟨-, -, -, q1, -, q2, q3⟩; exact ⟨q1, q2, q3⟩
  · rintro ⟨q1, q2, q3⟩; exact ⟨by omega, rfl, by omega, q1, by omega, q2, q3⟩
theorem plZ (h : KK c m E) : ∀ (q : List (Int × Int)) (M : List Str), (∀ x ∈ q, 0 ≤ x.1 ∧ x.1 < c 1 11 ∧ 0 ≤ x.2 ∧ x.2 ≤ 90000) → ((plL (eZ m) (dM m) (mvq 1000 q) (mvs 1000 M)).1 = 0 ↔ (plL (e0C c) (dC c) q M).1 = 0)
  | [], _, _ => Iff.rfl
  | y :: r, M, hq => by
    have hy := hq y List.mem_cons_self
    have e : mvq 1000 (y :: r) = (y.1, y.2 + 1000) :: mvq 1000 r := rfl
    have ez := eZ_e0 h (M := M) hy.1 hy.2.1 hy.2.2
    rw [e]
    by_cases h0 : e0C c M y.1 y.2 = 0
    · rw [plL_ok h0, plL_ok (by exact ez.mpr h0)]
      have ih := plZ h r ((y.1, y.2 - dC c y.1, y.2) :: M) (fun x hx => hq x (List.mem_cons_of_mem _ hx))
      rw [← ih]
      have e2 : mvs 1000 ((y.1, y.2 - dC c y.1, y.2) :: M) = (y.1, y.2 + 1000 - dM m y.1, y.2 + 1000) :: mvs 1000 M := by
        show (y.1, y.2 - dC c y.1 + 1000, y.2 + 1000) :: mvs 1000 M = _
        rw [show dM m y.1 = dC c y.1 from (kk2 h hy.1 hy.2.1).2.1.1, show y.2 - dC c y.1 + 1000 = y.2 + 1000 - dC c y.1 by omega]
      rw [e2]
    · rw [plL_no h0, plL_no (by exact fun z => h0 (ez.mp z))]
      exact ⟨fun z => absurd (ez.mp z) h0, fun z => absurd z h0⟩
theorem okF_eq (h : KK c m E) {w s : Int} (w0 : 0 ≤ w) (w1 : w < 5) (hs : 1 ≤ s ∧ s ≤ 200) : okF m w s = 0 ↔ (plL (e0C c) (dC c) (outL (fun k => c (40 + 2 * w.toNat + 1) k) (c 1 11).toNat 0 s (c (40 + 2 * w.toNat) 1).toNat 0) []).1 = 0 := by
  have hp := (kc_p h w w0 w1).1
  have hn := kc_n h
  unfold okF
  rw [kk_out h w0 w1, show (1000 : Int) = 0 + 1000 from rfl, outL_mv]
  refine plZ h _ [] (fun x hx => ?_)
  obtain ⟨a1, a2, j, a3, a4, a5, a6⟩ := outL_mem _ _ hx
  have hm := mul_rng (x := (j : Int)) (y := s) (A := 100) (B := 200) (by omega) (by omega) (by decide) (by decide)
  have hm0 : 0 ≤ (j : Int) * s := Int.mul_nonneg (by omega) (by omega)
  refine ⟨a1, by omega, by omega, by omega⟩
theorem an_fast (h : KK c m E) {w r q : Int} (hP : (¬ (0 ≤ w ∧ w < 5) ∧ r = -2) ∨ ((0 ≤ w ∧ w < 5) ∧ ((c (40 + 2 * w.toNat) 1 = 0 ∧ r = -9) ∨ (c (40 + 2 * w.toNat) 1 ≠ 0 ∧ frsT (fun s => (plL (e0C c) (dC c) (outL (fun k => c (40 + 2 * w.toNat + 1) k) (c 1 11).toNat 0 s (c (40 + 2 * w.toNat) 1).toNat 0) []).1) 1 200 r)))) {m' : aM} (hQ : (¬ (0 ≤ w ∧ w < 5) ∧ q = -2 ∧ m' = m) ∨ ((0 ≤ w ∧ w < 5) ∧ ((m 73 w = 0 ∧ q = -9 ∧ m' = m) ∨ (m 73 w ≠ 0 ∧ frK m m' ∧ ((q = -1 ∧ ∀ u : Int, 1 ≤ u → u ≤ 200 → okF m w u ≠ 0) ∨ (1 ≤ q ∧ q ≤ 200 ∧ okF m w q = 0 ∧ ∀ u : Int, 1 ≤ u → u < q → okF m w u ≠ 0)))))) : q = r ∧ frK m m' := by
  rcases hP with ⟨p1, p2⟩ | ⟨p1, p2⟩
  · rcases hQ with ⟨-, q2, q3⟩ | ⟨q1, -⟩
    · exact ⟨by rw [p2, q2], by rw [q3]; exact ⟨fun _ _ _ => rfl, fun _ _ _ => ⟨rfl, rfl, rfl⟩⟩⟩
    · exact absurd q1 p1
  rcases hQ with ⟨q1, -⟩ | ⟨-, q2⟩
  · exact absurd p1 q1
  rw [(kk_S h p1.1 p1.2).1] at q2
  rcases p2 with ⟨a1, a2⟩ | ⟨a1, a2⟩
  · rcases q2 with ⟨-, b2, b3⟩ | ⟨b1, -⟩
    · exact ⟨by rw [a2, b2], by rw [b3]; exact ⟨fun _ _ _ => rfl, fun _ _ _ => ⟨rfl, rfl, rfl⟩⟩⟩
    · exact absurd a1 b1
  rcases q2 with ⟨b1, -⟩ | ⟨-, b2, b3⟩
  · exact absurd b1 a1
  refine ⟨?_, b2⟩
  have hq : frsT (okF m w) 1 200 q := by
    rcases b3 with ⟨b4, b5⟩ | ⟨b4, b5, b6, b7⟩
    · exact Or.inr ⟨b4, b5⟩
    · exact Or.inl ⟨b4, b5, b6, b7⟩
  exact frsT_det (fun _ => rfl) a2 (frsT_iff (fun s s0 s1 => okF_eq h p1.1 p1.2 ⟨s0, s1⟩) hq)
theorem loud_det {A B : Nat → Int} (e : ∀ k, A k = B k) {r q : Int} (hP : (r = -1 ∧ ∀ k : Nat, 1 ≤ k → k ≤ 200 → A k < 400) ∨ (1 ≤ r ∧ r ≤ 200 ∧ 400 ≤ A r.toNat ∧ ∀ k : Nat, 1 ≤ k → (k : Int) < r → A k < 400)) (hQ : (q = -1 ∧ ∀ k : Nat, 1 ≤ k → k ≤ 200 → B k < 400) ∨ (1 ≤ q ∧ q ≤ 200 ∧ 400 ≤ B q.toNat ∧ ∀ k : Nat, 1 ≤ k → (k : Int) < q → B k < 400)) : q = r := by
  rcases hP with ⟨a1, a2⟩ | ⟨a1, a2, a3, a4⟩
  · rcases hQ with ⟨b1, -⟩ | ⟨b1, b2, b3, -⟩
    · omega
    · have := a2 q.toNat (by omega) (by omega); rw [e] at this; omega
  · rcases hQ with ⟨b1, b2⟩ | ⟨b1, b2, b3, b4⟩
    · have := b2 r.toNat (by omega) (by omega); rw [← e] at this; omega
    · by_cases x : q < r
      · have := a4 q.toNat (by omega) (by omega); rw [e] at this; omega
      · by_cases y : r < q
        · have := b4 r.toNat (by omega) (by omega); rw [← e] at this; omega
        · omega
theorem an_loud (h : KK c m E) {b r q : Int} (hP : (¬ (0 ≤ b ∧ b < c 1 11) ∧ r = -2) ∨ ((0 ≤ b ∧ b < c 1 11) ∧ ((c (28 + b.toNat) 6 = 0 ∧ r = -1) ∨ (c (28 + b.toNat) 6 ≠ 0 ∧ ((r = -1 ∧ ∀ k : Nat, 1 ≤ k → k ≤ 200 → ampF (c (28 + b.toNat) 8) (c (28 + b.toNat) 7) (c (28 + b.toNat) 10) k < 400) ∨ (1 ≤ r ∧ r ≤ 200 ∧ 400 ≤ ampF (c (28 + b.toNat) 8) (c (28 + b.toNat) 7) (c (28 + b.toNat) 10) r.toNat ∧ ∀ k : Nat, 1 ≤ k → (k : Int) < r → ampF (c (28 + b.toNat) 8) (c (28 + b.toNat) 7) (c (28 + b.toNat) 10) k < 400)))))) (hQ : (¬ (0 ≤ b ∧ b < m 58 6) ∧ q = -2) ∨ ((0 ≤ b ∧ b < m 58 6) ∧ ((m 86 b = 0 ∧ q = -1) ∨ (m 86 b ≠ 0 ∧ ((q = -1 ∧ ∀ k : Nat, 1 ≤ k → k ≤ 200 → ampF (m 89 b) (m 88 b) (m 91 b) k < 400) ∨ (1 ≤ q ∧ q ≤ 200 ∧ 400 ≤ ampF (m 89 b) (m 88 b) (m 91 b) q.toNat ∧ ∀ k : Nat, 1 ≤ k → (k : Int) < q → ampF (m 89 b) (m 88 b) (m 91 b) k < 400)))))) : q = r := by
  rw [h.2.1.1] at hQ
  rcases hP with ⟨p1, p2⟩ | ⟨p1, p2⟩
  · rcases hQ with ⟨-, q2⟩ | ⟨q1, -⟩
    · rw [p2, q2]
    · exact absurd q1 p1
  rcases hQ with ⟨q1, -⟩ | ⟨-, q2⟩
  · exact absurd p1 q1
  have k := kk2 h p1.1 p1.2
  rw [k.1.2.2] at q2
  rcases p2 with ⟨a1, a2⟩ | ⟨a1, a2⟩
  · rcases q2 with ⟨-, b2⟩ | ⟨b1, -⟩
    · rw [a2, b2]
    · exact absurd a1 b1
  rcases q2 with ⟨b1, -⟩ | ⟨-, b2⟩
  · exact absurd b1 a1
  have ks := k.2.2 a1
  rw [ks.1, ks.2.1, ks.2.2.2.1] at b2
  exact loud_det (fun _ => rfl) a2 b2
/-! shakes -/
theorem fK_eq (h : KK c m E) {b : Int} (b0 : 0 ≤ b) (b1 : b < c 1 11) (k : Nat) : fKb c b.toNat (c 1 13) k = fKm m b k := by
  have q := kk2 h b0 b1
  unfold fKb fKm
  by_cases s : c (28 + b.toNat) 6 = 0
  · rw [fK_dead (by exact s), fK_dead (by show m 86 b = 0; rw [q.1.2.2]; exact s)]
  · have ks := q.2.2 s
    have e : bqM m b = bqOf c (28 + b.toNat) := by
      unfold bqM bqOf
      rw [q.1.2.2, ks.2.1, ks.2.2.1, ks.2.2.2.2, q.2.1.2.2.2, show c (28 + b.toNat) 11 + c (28 + b.toNat) 3 - c (28 + b.toNat) 3 = c (28 + b.toNat) 11 by omega]
    rw [e, q.2.1.2.2.1, q.2.1.2.2.2, ks.1, ks.2.2.2.1, h.2.1.2.2.2.1]
theorem sh_eq (h : KK c m E) (k : Nat) : ∀ n : Nat, (n : Int) ≤ c 1 11 → shC c (c 1 13) k n = shM m k n
  | 0, _ => rfl
  | n + 1, hn => by
    have ih := sh_eq h k n (by omega)
    have e := fK_eq h (b := (n : Int)) (by omega) (by omega) k
    rw [Int.toNat_natCast] at e
    show shC c (c 1 13) k n + fKb c n (c 1 13) k = shM m k n + fKm m n k
    rw [ih, e]
theorem sh_all (h : KK c m E) (k : Nat) : shC c (c 1 13) k (c 1 11).toNat = shM m k (m 58 6).toNat := by
  have hn := kc_n h
  rw [h.2.1.1]
  exact sh_eq h k _ (by omega)
theorem st_eq (h : KK c m E) {b g : Int} (b0 : 0 ≤ b) (b1 : b < c 1 11) (k : Nat) : stF c b g k = stM m b g k := by
  have q := (kk2 h b0 b1).2.1
  unfold stF stM
  rw [q.2.2.1, q.2.2.2, h.2.1.2.2.2.1]
theorem gs_eq (h : KK c m E) {b g : Int} (b0 : 0 ≤ b) (b1 : b < c 1 11) (w : Nat) : gsW c b g w = gsM m b g w := mxA_congr (fun k _ => by rw [sh_all h, st_eq h b0 b1])
theorem an_shake (h : KK c m E) {k : Int} : (if 0 ≤ k ∧ k ≤ 600 then shM m k.toNat (m 58 6).toNat + 100000 else -3) = (if 0 ≤ k ∧ k ≤ 600 then shC c (c 1 13) (k.toNat) (c 1 11).toNat + 100000 else -3) := by rw [sh_all h]
theorem an_great (h : KK c m E) {k : Int} : (if 0 ≤ k ∧ k ≤ 600 then mxA (fun j => shM m j (m 58 6).toNat) (k + 1).toNat else -3) = (if 0 ≤ k ∧ k ≤ 600 then mxA (fun j => shC c (c 1 13) (j) (c 1 11).toNat) (k + 1).toNat else -3) := by
  congr 1
  exact mxA_congr (fun j _ => (sh_all h j).symm)
theorem an_calm (h : KK c m E) {b g r q : Int} (hP : (¬ (0 ≤ b ∧ b < c 1 11) ∧ r = -2) ∨ ((0 ≤ b ∧ b < c 1 11) ∧ ((¬ (1 ≤ g ∧ g ≤ 1000) ∧ r = -3) ∨ ((1 ≤ g ∧ g ≤ 1000) ∧ ((c (28 + b.toNat) 6 ≠ 0 ∧ r = -6) ∨ (c (28 + b.toNat) 6 = 0 ∧ (0 ≤ r ∧ r ≤ 2 * c (28 + b.toNat) 3 - 1) ∧ (∀ j : Nat, (j : Int) < r → gsW c b g (r.toNat) < gsW c b g (j)) ∧ ∀ j : Nat, (j : Int) ≤ 2 * c (28 + b.toNat) 3 - 1 → gsW c b g (r.toNat) ≤ gsW c b g (j))))))) (hQ : (¬ (0 ≤ b ∧ b < m 58 6) ∧ q = -2) ∨ ((0 ≤ b ∧ b < m 58 6) ∧ ((¬ (1 ≤ g ∧ g ≤ 1000) ∧ q = -3) ∨ ((1 ≤ g ∧ g ≤ 1000) ∧ ((m 86 b ≠ 0 ∧ q = -6) ∨ (m 86 b = 0 ∧ (0 ≤ q ∧ q ≤ 2 * m 62 b - 1) ∧ (∀ j : Nat, (j : Int) < q → gsM m b g (q.toNat) < gsM m b g (j)) ∧ ∀ j : Nat, (j : Int) ≤ 2 * m 62 b - 1 → gsM m b g (q.toNat) ≤ gsM m b g (j))))))) : q = r := by
  rw [h.2.1.1] at hQ
  rcases hP with ⟨p1, p2⟩ | ⟨p1, p2⟩
  · rcases hQ with ⟨-, q2⟩ | ⟨q1, -⟩
    · rw [p2, q2]
    · exact absurd q1 p1
  rcases hQ with ⟨q1, -⟩ | ⟨-, q2⟩
  · exact absurd p1 q1
  have k := kk2 h p1.1 p1.2
  rw [k.1.2.2, k.2.1.2.2.2] at q2
  rcases p2 with ⟨a1, a2⟩ | ⟨a1, a2⟩
  · rcases q2 with ⟨-, b2⟩ | ⟨b1, -⟩
    · rw [a2, b2]
    · exact absurd b1 a1
  rcases q2 with ⟨b1, -⟩ | ⟨-, b2⟩
  · exact absurd a1 b1
  rcases a2 with ⟨a3, a4⟩ | ⟨a3, a4, a5, a6⟩
  · rcases b2 with ⟨-, b4⟩ | ⟨b3, -⟩
    · rw [a4, b4]
    · exact absurd b3 a3
  rcases b2 with ⟨b3, -⟩ | ⟨-, b4, b5, b6⟩
  · exact absurd a3 b3
  have ge := fun w => gs_eq h (g := g) p1.1 p1.2 w
  by_cases x : q < r
  · have e1 := a5 q.toNat (by omega)
    have e2 := b6 r.toNat (by omega)
    rw [ge, ge] at e1
    omega
  · by_cases y : r < q
    · have e1 := b5 r.toNat (by omega)
      have e2 := a6 q.toNat (by omega)
      rw [ge, ge] at e2
      omega
    · omega
end ANS
