-- part 68: equal answers of the calls that ask only (printed by wip/whole/gen/p68.py)
section ANS
variable {c m : aM} {E : Int → Nat}
theorem if_b (h : KK c m E) {b x y z : Int} (e : 0 ≤ b → b < c 1 11 → x = y) : (if 0 ≤ b ∧ b < m 58 6 then x else z) = (if 0 ≤ b ∧ b < c 1 11 then y else z) := by
  rw [h.2.1.1]
  by_cases q : 0 ≤ b ∧ b < c 1 11
  · rw [if_pos q, if_pos q]; exact e q.1 q.2
  · rw [if_neg q, if_neg q]
theorem if_en (h : KK c m E) {b x y z : Int} (e : 0 ≤ b → b < c 1 12 → x = y) : (if 0 ≤ b ∧ b < m 58 42 then x else z) = (if 0 ≤ b ∧ b < c 1 12 then y else z) := by
  rw [h.2.1.2.2.2.2.1]
  by_cases q : 0 ≤ b ∧ b < c 1 12
  · rw [if_pos q, if_pos q]; exact e q.1 q.2
  · rw [if_neg q, if_neg q]
theorem kk2 (h : KK c m E) {b : Int} (b0 : 0 ≤ b) (b1 : b < c 1 11) : (m 63 b = c (28 + b.toNat) 4 ∧ m 87 b = c (28 + b.toNat) 5 ∧ m 86 b = c (28 + b.toNat) 6) ∧ (m 59 b = c (28 + b.toNat) 0 ∧ m 60 b = c (28 + b.toNat) 1 ∧ m 61 b = c (28 + b.toNat) 2 ∧ m 62 b = c (28 + b.toNat) 3) ∧ (c (28 + b.toNat) 6 ≠ 0 → m 88 b = c (28 + b.toNat) 7 ∧ m 89 b = c (28 + b.toNat) 8 ∧ m 90 b = c (28 + b.toNat) 9 ∧ m 91 b = c (28 + b.toNat) 10 ∧ m 92 b = c (28 + b.toNat) 11 + c (28 + b.toNat) 3) := by
  have hn := kc_n h
  have k := h.2.2.1 b b0 (by omega)
  exact ⟨k.1, k.2 b1⟩
theorem an_delay (h : KK c m E) {b : Int} : (if 0 ≤ b ∧ b < m 58 6 then m 59 b else -2) = (if 0 ≤ b ∧ b < c 1 11 then c (28 + b.toNat) 0 else -2) := if_b h (fun b0 b1 => (kk2 h b0 b1).2.1.1)
theorem an_swing (h : KK c m E) {b x y z : Int} (b0 : 0 ≤ b) (b1 : b < c 1 11) (e : c (28 + b.toNat) 6 ≠ 0 → x = y) : (if m 86 b = 0 then z else x) = (if c (28 + b.toNat) 6 = 0 then z else y) := by
  rw [(kk2 h b0 b1).1.2.2]
  by_cases q : c (28 + b.toNat) 6 = 0
  · rw [if_pos q, if_pos q]
  · rw [if_neg q, if_neg q]; exact e q
theorem an_amplitude (h : KK c m E) {b : Int} : (if 0 ≤ b ∧ b < m 58 6 then (if m 86 b = 0 then -1 else m 89 b) else -2) = (if 0 ≤ b ∧ b < c 1 11 then (if c (28 + b.toNat) 6 = 0 then -1 else c (28 + b.toNat) 8) else -2) := if_b h (fun b0 b1 => an_swing h b0 b1 (fun q => ((kk2 h b0 b1).2.2 q).2.1))
theorem an_nextTurn (h : KK c m E) {b : Int} : (if 0 ≤ b ∧ b < m 58 6 then (if m 86 b = 0 then -1 else m 92 b) else -2) = (if 0 ≤ b ∧ b < c 1 11 then (if c (28 + b.toNat) 6 = 0 then -1 else c (28 + b.toNat) 11 + c (28 + b.toNat) 3) else -2) := if_b h (fun b0 b1 => an_swing h b0 b1 (fun q => ((kk2 h b0 b1).2.2 q).2.2.2.2))
theorem an_ampAfter (h : KK c m E) {b t : Int} : (if 0 ≤ b ∧ b < m 58 6 then (if 0 ≤ t ∧ t ≤ 200 then (if m 86 b = 0 then -1 else ampF (m 89 b) (m 88 b) (m 91 b) t.toNat) else -3) else -2) = (if 0 ≤ b ∧ b < c 1 11 then (if 0 ≤ t ∧ t ≤ 200 then (if c (28 + b.toNat) 6 = 0 then -1 else ampF (c (28 + b.toNat) 8) (c (28 + b.toNat) 7) (c (28 + b.toNat) 10) t.toNat) else -3) else -2) := if_b h (fun b0 b1 => by
  congr 1
  exact an_swing h b0 b1 (fun q => by
    have k := (kk2 h b0 b1).2.2 q
    rw [k.1, k.2.1, k.2.2.2.1]))
theorem an_force (h : KK c m E) {b : Int} : (if 0 ≤ b ∧ b < m 58 6 then (if m 86 b = 0 then 0 else frc (m 90 b) (m 61 b) (m 89 b) (m 62 b) (m 58 9 - (m 92 b - m 62 b))) + 100000 else -2) = (if 0 ≤ b ∧ b < c 1 11 then fF (c (28 + b.toNat) 2) (c (28 + b.toNat) 3) (bqOf c (28 + b.toNat)) (c 1 13) + 100000 else -2) := if_b h (fun b0 b1 => by
  congr 1
  refine an_swing h b0 b1 (fun q => ?_)
  have k2 := kk2 h b0 b1
  have k := k2.2.2 q
  rw [k.2.1, k.2.2.1, k.2.2.2.2, k2.2.1.2.2.1, k2.2.1.2.2.2, h.2.1.2.2.2.1]
  show frc _ _ _ _ _ = frc _ _ _ _ _
  congr 1
  show _ = c 1 13 - c (28 + b.toNat) 11
  omega)
/-! the record -/
theorem an_rec (h : KK c m E) {i x : Int} (h0 : ¬ i < 0) (h1 : ¬ (if m 58 13 < 200 then m 58 13 else 200) ≤ i) {a b : Nat} (e : ∀ k : Int, 0 ≤ k → k < 200 → m a k = c b k) : m a ((m 58 13 - 1 - i) % 200) = (if c 4 4 - 1 - i < 0 then c b (c 4 4 - 1 - i + 200) else c b (c 4 4 - 1 - i)) := by
  obtain ⟨k1, k2, k3, -⟩ := h.2.2.2.1
  have hi : i < 200 ∧ i < m 58 13 := by
    by_cases q : m 58 13 < 200
    · rw [if_pos q] at h1; omega
    · rw [if_neg q] at h1; omega
  rw [e _ (by omega) (by omega)]
  by_cases q : c 4 4 - 1 - i < 0
  · rw [if_pos q]; congr 1; omega
  · rw [if_neg q]; congr 1; omega
theorem an_record (h : KK c m E) {i : Int} {a b : Nat} (e : ∀ k : Int, 0 ≤ k → k < 200 → m a k = c b k) : (if i < 0 then -3 else if (if m 58 13 < 200 then m 58 13 else 200) ≤ i then -1 else m a ((m 58 13 - 1 - i) % 200)) = (if i < 0 then -3 else if c 4 3 ≤ i then -1 else if c 4 4 - 1 - i < 0 then c b (c 4 4 - 1 - i + 200) else c b (c 4 4 - 1 - i)) := by
  by_cases q : i < 0
  · rw [if_pos q, if_pos q]
  · rw [if_neg q, if_neg q, h.2.2.2.1.1]
    by_cases q2 : (if m 58 13 < 200 then m 58 13 else 200) ≤ i
    · rw [if_pos q2, if_pos q2]
    · rw [if_neg q2, if_neg q2]
      exact an_rec (x := 0) h q q2 e
/-! strokes -/
theorem disL_mem {L : List Str} : disL L → ∀ s ∈ L, ∀ t ∈ L, s = t ∨ disS s t := by
  induction L with
  | nil => intro _ s hs; cases hs
  | cons a L ih =>
    intro h s hs t ht
    rcases List.mem_cons.mp hs with hs2 | hs2
    · rcases List.mem_cons.mp ht with ht2 | ht2
      · left; rw [hs2, ht2]
      · right; rw [hs2]; exact h.1 t ht2
    · rcases List.mem_cons.mp ht with ht2 | ht2
      · right; rw [ht2]; exact disS_sym (h.1 s hs2)
      · exact ih h.2 s hs2 t ht2
theorem an_next (h : KK c m E) {b r q : Int} (hP : (¬ (0 ≤ b ∧ b < c 1 11) ∧ r = -2) ∨ ((0 ≤ b ∧ b < c 1 11) ∧ ((∃ k : Int, 0 ≤ k ∧ k < c 8 4 ∧ c 9 k = b ∧ r = c 11 k ∧ ∀ i : Int, 0 ≤ i → i < k → c 9 i ≠ b) ∨ (r = -1 ∧ ∀ i : Int, 0 ≤ i → i < c 8 4 → c 9 i ≠ b)))) (hQ : (¬ (0 ≤ b ∧ b < m 58 6) ∧ q = -2) ∨ ((0 ≤ b ∧ b < m 58 6) ∧ ((∃ k : Int, 0 ≤ k ∧ k < m 58 18 ∧ m 67 k = b ∧ q = m 68 k ∧ ∀ i : Int, 0 ≤ i → i < m 58 18 → m 67 i = b → q ≤ m 68 i) ∨ (q = -1 ∧ ∀ i : Int, 0 ≤ i → i < m 58 18 → m 67 i ≠ b)))) : q = r := by
  rw [h.2.1.1] at hQ
  have ho := kc_o h
  have hm := km_o h
  obtain ⟨hp, h18, hd, -⟩ := h.2.2.2.2.1
  have toM : ∀ i : Int, 0 ≤ i → i < c 8 4 → ∃ j : Int, 0 ≤ j ∧ j < m 58 18 ∧ m 67 j = c 9 i ∧ m 68 j = c 11 i := fun i i0 i1 => by
    have h9 : sF c 8 i ∈ mL m := hp.mem_iff.mp ((sL_mem ho).mpr ⟨i, i0, i1, rfl⟩)
    obtain ⟨j, j0, j1, j2⟩ := (mL_mem hm).mp h9
    unfold mS sF at j2
    rw [Prod.mk.injEq, Prod.mk.injEq] at j2
    exact ⟨j, j0, j1, j2.1, j2.2.2⟩
  have toC : ∀ j : Int, 0 ≤ j → j < m 58 18 → ∃ i : Int, 0 ≤ i ∧ i < c 8 4 ∧ c 9 i = m 67 j ∧ c 11 i = m 68 j := fun j j0 j1 => by
    have h9 : mS m j ∈ sL c 8 := hp.mem_iff.mpr ((mL_mem hm).mpr ⟨j, j0, j1, rfl⟩)
    obtain ⟨i, i0, i1, i2⟩ := (sL_mem ho).mp h9
    unfold mS sF at i2
    rw [Prod.mk.injEq, Prod.mk.injEq] at i2
    exact ⟨i, i0, i1, i2.1, i2.2.2⟩
  rcases hP with ⟨p1, p2⟩ | ⟨p1, p2⟩
  · rcases hQ with ⟨q1, q2⟩ | ⟨q1, -⟩
    · omega
    · exact absurd q1 p1
  · rcases hQ with ⟨q1, -⟩ | ⟨-, q2⟩
    · exact absurd p1 q1
    · rcases p2 with ⟨k, k0, k1, k2, k3, k4⟩ | ⟨k3, k4⟩
      · rcases q2 with ⟨l, l0, l1, l2, l3, l4⟩ | ⟨-, l4⟩
        · obtain ⟨j, j0, j1, j2, j3⟩ := toM k k0 k1
          have a1 := l4 j j0 j1 (by omega)
          obtain ⟨i, i0, i1, i2, i3⟩ := toC l l0 l1
          by_cases e : i < k
          · exact absurd (i2.trans l2) (k4 i i0 e)
          · by_cases e2 : i = k
            · subst e2; omega
            · have hs := disL_mem hd (sF c 8 k) ((sL_mem ho).mpr ⟨k, k0, k1, rfl⟩) (sF c 8 i) ((sL_mem ho).mpr ⟨i, i0, i1, rfl⟩)
              have hmo := sOk_mono ho k0 (show k ≤ i by omega) i1
              have hmo : c 10 k ≤ c 10 i := hmo
              have hi := (ho.2.1 i i0 i1).2.2
              have hi : c 10 i < c 11 i ∧ c 11 i ≤ c 10 i + 50 := hi
              rcases hs with hs | hs
              · have e9 : c 11 k = c 11 i := congrArg (fun z : Str => z.2.2) hs
                omega
              · have hs := hs (show c 9 k = c 9 i by omega)
                have hs : c 11 k ≤ c 10 i ∨ c 11 i ≤ c 10 k := hs
                omega
        · obtain ⟨j, j0, j1, j2, j3⟩ := toM k k0 k1
          exact absurd (j2.trans k2) (l4 j j0 j1)
      · rcases q2 with ⟨l, l0, l1, l2, l3, l4⟩ | ⟨l3, -⟩
        · obtain ⟨i, i0, i1, i2, i3⟩ := toC l l0 l1
          exact absurd (i2.trans l2) (k4 i i0 i1)
        · omega
/-- the place of a stroke in a schedule is its rank -/
theorem rk_lst {f : Int → Str} {N : Nat} (hs : ∀ i j : Int, 0 ≤ i → i < j → j < N → (f i).2.1 < (f j).2.1 ∨ ((f i).2.1 = (f j).2.1 ∧ (f i).1 < (f j).1)) {i : Int} (i0 : 0 ≤ i) (i1 : i < N) : ∀ n : Nat, n ≤ N → rkL (lst f n) (f i) = if (n : Int) ≤ i then (n : Int) else i
  | 0, _ => by rw [if_pos (show ((0 : Nat) : Int) ≤ i from i0)]; rfl
  | n + 1, h => by
    have ih := rk_lst hs i0 i1 n (by omega)
    rw [rkL_succ, ih]
    by_cases q : (n : Int) < i
    · rw [if_pos (by omega), if_pos (hs n i (by omega) q i1), if_pos (by omega)]; rfl
    · have hn : ¬ ((f n).2.1 < (f i).2.1 ∨ ((f n).2.1 = (f i).2.1 ∧ (f n).1 < (f i).1)) := by
        by_cases e : (n : Int) = i
        · rw [e]; omega
        · have := hs i n i0 (by omega) (by omega); omega
      rw [if_neg hn, if_neg (show ¬ ((n + 1 : Nat) : Int) ≤ i by omega)]
      split <;> omega
theorem rk_sL {a : Nat} (ho : sOk c a) {i : Int} (i0 : 0 ≤ i) (i1 : i < c a 4) : rkL (sL c a) (sF c a i) = i := by
  have hc := ho.1
  have := rk_lst (f := sF c a) (N := (c a 4).toNat) (fun i j a0 a1 a2 => ho.2.2 i j a0 a1 (by omega)) i0 (by omega) (c a 4).toNat (Nat.le_refl _)
  rw [if_neg (by omega)] at this
  exact this
theorem an_rank (h : KK c m E) {x q r : Int} (pj : Str → Int) (hP : r = if x < 0 then -3 else if x < c 8 4 then pj (sF c 8 x) else -1) (hQ : (x < 0 ∧ q = -3) ∨ (0 ≤ x ∧ ((∃ s ∈ mL m, rkL (mL m) s = x ∧ q = pj s) ∨ (q = -1 ∧ ∀ s ∈ mL m, rkL (mL m) s ≠ x)))) : q = r := by
  have ho := kc_o h
  have hp := h.2.2.2.2.1.1
  by_cases x0 : x < 0
  · rw [if_pos x0] at hP
    rcases hQ with ⟨-, e⟩ | ⟨e, -⟩
    · rw [e, hP]
    · omega
  · rw [if_neg x0] at hP
    by_cases x1 : x < c 8 4
    · rw [if_pos x1] at hP
      have hmm : sF c 8 x ∈ mL m := hp.mem_iff.mp ((sL_mem ho).mpr ⟨x, by omega, x1, rfl⟩)
      rcases hQ with ⟨e, -⟩ | ⟨-, ⟨s, hs, e1, e2⟩ | ⟨-, e2⟩⟩
      · omega
      · obtain ⟨i, i0, i1, i2⟩ := (sL_mem ho).mp (hp.mem_iff.mpr hs)
        rw [← rkL_perm hp, ← i2, rk_sL ho i0 i1] at e1
        rw [e2, hP, ← i2, e1]
      · refine absurd ?_ (e2 _ hmm)
        rw [← rkL_perm hp, rk_sL ho (by omega) x1]
    · rw [if_neg x1] at hP
      rcases hQ with ⟨e, -⟩ | ⟨-, ⟨s, hs, e1, e2⟩ | ⟨e2, -⟩⟩
      · omega
      · obtain ⟨i, i0, i1, i2⟩ := (sL_mem ho).mp (hp.mem_iff.mpr hs)
        rw [← rkL_perm hp, ← i2, rk_sL ho i0 i1] at e1
        omega
      · rw [e2, hP]
/-- both decide alike on a stroke of a bell that is there -/
theorem kk_e (h : KK c m E) {L M : List Str} (hp : L.Perm M) {b t : Int} (b0 : 0 ≤ b) (b1 : b < c 1 11) : eC c L b t = eM m M b t := by
  have k := kk2 h b0 b1
  unfold eC eM
  rw [k.1.1, k.1.2.2, k.2.1.1, k.2.1.2.1, h.2.1.2.2.2.1, h.2.1.2.1]
  exact exam_perm hp _ _ _ _ _ _ _ _
theorem frsT_det {F G : Int → Int} {f l r q : Int} (e : ∀ t, F t = G t) (h1 : frsT F f l r) (h2 : frsT G f l q) : q = r := by
  rcases h1 with ⟨a1, a2, a3, a4⟩ | ⟨a1, a2⟩
  · rcases h2 with ⟨b1, b2, b3, b4⟩ | ⟨b1, b2⟩
    · by_cases x : q < r
      · exact absurd ((e q).trans b3) (a4 q b1 x)
      · by_cases y : r < q
        · exact absurd ((e r).symm.trans a3) (b4 r a1 y)
        · omega
    · exact absurd ((e r).symm.trans a3) (b2 r a1 a2)
  · rcases h2 with ⟨b1, b2, b3, b4⟩ | ⟨b1, b2⟩
    · exact absurd ((e q).trans b3) (a2 q b1 b2)
    · omega
theorem frsT_iff {F G : Int → Int} {f l r : Int} (e : ∀ t, f ≤ t → t ≤ l → (F t = 0 ↔ G t = 0)) (h1 : frsT F f l r) : frsT G f l r := by
  rcases h1 with ⟨a1, a2, a3, a4⟩ | ⟨a1, a2⟩
  · exact Or.inl ⟨a1, a2, (e r a1 a2).mp a3, fun t t0 t1 q => a4 t t0 t1 ((e t t0 (by omega)).mpr q)⟩
  · exact Or.inr ⟨a1, fun t t0 t1 q => a2 t t0 t1 ((e t t0 t1).mpr q)⟩
/-! patterns -/
theorem outL_congr {S S' : Int → Int} {NB : Nat} {T s : Int} : ∀ (n k : Nat), (∀ j : Nat, k ≤ j → j < k + n → S j = S' j) → outL S NB T s n k = outL S' NB T s n k
  | 0, _, _ => rfl
  | n + 1, k, h => by
    rw [outL_s, outL_s, h k (Nat.le_refl _) (by omega), outL_congr n (k + 1) (fun j a b => h j (by omega) (by omega))]
theorem kk_S (h : KK c m E) {w : Int} (w0 : 0 ≤ w) (w1 : w < 5) : m 73 w = c (40 + 2 * w.toNat) 1 ∧ ∀ j : Nat, j < (c (40 + 2 * w.toNat) 1).toNat → m 72 (100 * w + j) = c (40 + 2 * w.toNat + 1) j := by
  have k := h.2.2.2.2.2.1 w w0 w1
  have p := (kc_p h w w0 w1).1
  exact ⟨k.1, fun j hj => k.2 j (by omega) (by omega)⟩
theorem kk_out (h : KK c m E) {w T s : Int} (w0 : 0 ≤ w) (w1 : w < 5) : outL (fun k => m 72 (100 * w + k)) (m 58 6).toNat T s (m 73 w).toNat 0 = outL (fun k => c (40 + 2 * w.toNat + 1) k) (c 1 11).toNat T s (c (40 + 2 * w.toNat) 1).toNat 0 := by
  have k := kk_S h w0 w1
  rw [h.2.1.1, k.1]
  exact outL_congr _ 0 (fun j _ hj => k.2 j (by omega))
theorem kk_pl (h : KK c m E) {w T s : Int} (w0 : 0 ≤ w) (w1 : w < 5) {L M : List Str} (hp : L.Perm M) : (plL (eM m) (dM m) (outL (fun k => m 72 (100 * w + k)) (m 58 6).toNat T s (m 73 w).toNat 0) M).1 = (plL (eC c) (dC c) (outL (fun k => c (40 + 2 * w.toNat + 1) k) (c 1 11).toNat T s (c (40 + 2 * w.toNat) 1).toNat 0) L).1 ∧ ((plL (eC c) (dC c) (outL (fun k => c (40 + 2 * w.toNat + 1) k) (c 1 11).toNat T s (c (40 + 2 * w.toNat) 1).toNat 0) L).2).Perm (plL (eM m) (dM m) (outL (fun k => m 72 (100 * w + k)) (m 58 6).toNat T s (m 73 w).toNat 0) M).2 := by
  have hn := kc_n h
  rw [kk_out h w0 w1]
  have e := plL_congr (E := eM m) (F := eC c) (dl := dM m) (dk := dC c) (outL (fun k => c (40 + 2 * w.toNat + 1) k) (c 1 11).toNat T s (c (40 + 2 * w.toNat) 1).toNat 0) M (fun x hx => by
    have hb := outL_mem _ _ hx
    have b1 : x.1 < c 1 11 := by omega
    exact ⟨fun L t => (kk_e h (List.Perm.refl L) hb.1 b1).symm, (kk2 h hb.1 b1).2.1.1⟩)
  rw [e]
  have q := plL_perm (dl := dC c) (eC_perm c) (outL (fun k => c (40 + 2 * w.toNat + 1) k) (c 1 11).toNat T s (c (40 + 2 * w.toNat) 1).toNat 0) L M hp
  exact ⟨q.1.symm, q.2⟩
theorem if_w {w x y z : Int} (e : 0 ≤ w → w < 5 → x = y) : (if 0 ≤ w ∧ w < 5 then x else z) = (if 0 ≤ w ∧ w < 5 then y else z) := by
  by_cases q : 0 ≤ w ∧ w < 5
  · rw [if_pos q, if_pos q]; exact e q.1 q.2
  · rw [if_neg q, if_neg q]
theorem an_step (h : KK c m E) {w k : Int} : (if 0 ≤ w ∧ w < 5 then (if m 73 w = 0 then -9 else if 0 ≤ k ∧ k < m 73 w then m 72 (100 * w + k) else -1) else -2) = (if 0 ≤ w ∧ w < 5 then (if c (40 + 2 * w.toNat) 1 = 0 then -9 else if 0 ≤ k ∧ k < c (40 + 2 * w.toNat) 1 then c (40 + 2 * w.toNat + 1) k else -1) else -2) := if_w (fun w0 w1 => by
  have q := h.2.2.2.2.2.1 w w0 w1
  rw [q.1]
  congr 1
  by_cases z : 0 ≤ k ∧ k < c (40 + 2 * w.toNat) 1
  · rw [if_pos z, if_pos z]; exact q.2 k z.1 z.2
  · rw [if_neg z, if_neg z])
theorem an_pstr (h : KK c m E) {w : Int} : (if 0 ≤ w ∧ w < 5 then (if m 73 w = 0 then -9 else ((outL (fun k => m 72 (100 * w + k)) (m 58 6).toNat 0 0 (m 73 w).toNat 0).length : Int)) else -2) = (if 0 ≤ w ∧ w < 5 then (if c (40 + 2 * w.toNat) 1 = 0 then -9 else ptS (fun k => c (40 + 2 * w.toNat + 1) k) (((2 ^ (c 1 11).toNat : Nat) : Int) - 1) (c (40 + 2 * w.toNat) 1).toNat) else -2) := if_w (fun w0 w1 => by
  have q := kc_p h w w0 w1
  have hq := q.1
  rw [kk_out h w0 w1, (kk_S h w0 w1).1]
  congr 1
  exact (ptS_len (kc_n h) (fun k k0 k1 => q.2 k k0 (by omega)) 0 0).symm)
theorem cnJ_congr {S S' d d' : Int → Int} {s x j : Int} (e : S j = S' j) : ∀ b : Nat, (∀ q : Nat, q < b → d q = d' q) → cnJ S d s x j b = cnJ S' d' s x j b
  | 0, _ => rfl
  | b + 1, h => by
    show cnJ S d s x j b + _ = cnJ S' d' s x j b + _
    rw [cnJ_congr e b (fun q hq => h q (by omega)), e, h b (by omega)]
theorem cnK_congr {S S' d d' : Int → Int} {s x : Int} {NB : Nat} (hd : ∀ q : Nat, q < NB → d q = d' q) : ∀ k : Nat, (∀ j : Nat, j < k → S j = S' j) → cnK S d s x NB k = cnK S' d' s x NB k
  | 0, _ => rfl
  | k + 1, h => by
    show cnK S d s x NB k + _ = cnK S' d' s x NB k + _
    rw [cnK_congr hd k (fun j hj => h j (by omega)), cnJ_congr (h k (by omega)) NB hd]
theorem an_power (h : KK c m E) {w s r q : Int} (hP : (¬ (0 ≤ w ∧ w < 5) ∧ r = -2) ∨ ((0 ≤ w ∧ w < 5) ∧ ((c (40 + 2 * w.toNat) 1 = 0 ∧ r = -9) ∨ (c (40 + 2 * w.toNat) 1 ≠ 0 ∧ ((¬ (1 ≤ s ∧ s ≤ 200) ∧ r = -3) ∨ ((1 ≤ s ∧ s ≤ 200) ∧ mxE (fun x => cnK (fun k => c (40 + 2 * w.toNat + 1) k) (dC c) s x (c 1 11).toNat (c (40 + 2 * w.toNat) 1).toNat) s (c (40 + 2 * w.toNat) 1).toNat r)))))) (hQ : (¬ (0 ≤ w ∧ w < 5) ∧ q = -2) ∨ ((0 ≤ w ∧ w < 5) ∧ ((m 73 w = 0 ∧ q = -9) ∨ (m 73 w ≠ 0 ∧ ((¬ (1 ≤ s ∧ s ≤ 200) ∧ q = -3) ∨ ((1 ≤ s ∧ s ≤ 200) ∧ mxS (fun x => cnK (fun k => m 72 (100 * w + k)) (dM m) s x (m 58 6).toNat (m 73 w).toNat) (fun k => m 72 (100 * w + k)) (dM m) s (m 58 6).toNat (m 73 w).toNat q)))))) : q = r := by
  have hn := kc_n h
  rcases hP with ⟨p1, p2⟩ | ⟨p1, p2⟩
  · rcases hQ with ⟨-, q2⟩ | ⟨q1, -⟩
    · rw [p2, q2]
    · exact absurd q1 p1
  rcases hQ with ⟨q1, -⟩ | ⟨-, q2⟩
  · exact absurd p1 q1
  have kS := kk_S h p1.1 p1.2
  rw [kS.1, h.2.1.1] at q2
  rcases p2 with ⟨a1, a2⟩ | ⟨a1, a2⟩
  · rcases q2 with ⟨-, b2⟩ | ⟨b1, -⟩
    · rw [a2, b2]
    · exact absurd a1 b1
  rcases q2 with ⟨b1, -⟩ | ⟨-, b2⟩
  · exact absurd b1 a1
  rcases a2 with ⟨a3, a4⟩ | ⟨a3, a4⟩
  · rcases b2 with ⟨-, b4⟩ | ⟨b3, -⟩
    · rw [a4, b4]
    · exact absurd b3 a3
  rcases b2 with ⟨b3, -⟩ | ⟨-, b4⟩
  · exact absurd a3 b3
  refine (mx_eq a3.1 a4 ?_).symm
  have hd : ∀ x : Nat, x < (c 1 11).toNat → dM m x = dC c x := fun x hx => (kk2 h (b := (x : Int)) (by omega) (by omega)).2.1.1
  have hK : ∀ x : Int, cnK (fun k => m 72 (100 * w + k)) (dM m) s x (c 1 11).toNat (c (40 + 2 * w.toNat) 1).toNat = cnK (fun k => c (40 + 2 * w.toNat + 1) k) (dC c) s x (c 1 11).toNat (c (40 + 2 * w.toNat) 1).toNat := fun x => cnK_congr hd _ (fun j hj => kS.2 j hj)
  obtain ⟨c1, c2, c3⟩ := b4
  refine ⟨?_, c2, fun k b hk hb hbit => ?_⟩
  · rcases c1 with c1 | ⟨k, b, hk, hb, hbit, e⟩
    · exact Or.inl c1
    · refine Or.inr ⟨k, b, hk, hb, by show bit (c (40 + 2 * w.toNat + 1) k) b; rw [← kS.2 k hk]; exact hbit, ?_⟩
      rw [e, hd b hb]
      exact hK _
  · have := c3 k b hk hb (by show bit (m 72 (100 * w + k)) b; rw [kS.2 k hk]; exact hbit)
    rw [hd b hb] at this
    have e9 := hK (k * s - dC c b)
    dsimp only at this ⊢
    rw [← e9]
    exact this
end ANS
