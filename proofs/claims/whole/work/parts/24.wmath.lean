-- part 24: what the spared tries of weaving rest on (printed by wip/whole/gen/p24.py)
theorem innL_has {x t : Int} : ∀ (c b j : Nat), b ≤ j → j < b + c → x.toNat.testBit j = true → ((j : Int), t) ∈ innL x t c b
  | 0, b, j, h1, h2, _ => by omega
  | c + 1, b, j, h1, h2, h => by
    by_cases e : j = b
    · subst e
      rw [innL_yes h]
      exact List.mem_cons_self
    · have ih := innL_has (x := x) (t := t) c (b + 1) j (by omega) (by omega) h
      by_cases q : x.toNat.testBit b = true
      · rw [innL_yes q]; exact List.mem_cons_of_mem _ ih
      · rw [innL_not q]; exact ih
theorem outL_has {S : Int → Int} {NB : Nat} {T s b : Int} : ∀ (c k j : Nat), k ≤ j → j < k + c → 0 ≤ b → b < NB → bit (S j) b → (b, T + j * s) ∈ outL S NB T s c k
  | 0, k, j, h1, h2, _, _, _ => by omega
  | c + 1, k, j, h1, h2, h3, h4, h5 => by
    unfold outL
    by_cases e : j = k
    · subst e
      have := innL_has (x := S j) (t := T + j * s) NB 0 b.toNat (Nat.zero_le _) (by omega) h5
      rw [Int.toNat_of_nonneg h3] at this
      exact List.mem_append_left _ this
    · exact List.mem_append_right _ (outL_has c (k + 1) j (by omega) (by omega) h3 h4 h5)
theorem outL_mem {S : Int → Int} {NB : Nat} {T s : Int} {q : Int × Int} : ∀ (c k : Nat), q ∈ outL S NB T s c k → 0 ≤ q.1 ∧ q.1 < NB ∧ ∃ j : Nat, k ≤ j ∧ j < k + c ∧ q.2 = T + j * s ∧ bit (S j) q.1
  | 0, _, h => by cases h
  | c + 1, k, h => by
    unfold outL at h
    rcases List.mem_append.mp h with h | h
    · have := innL_mem _ _ _ h
      exact ⟨by omega, by omega, k, Nat.le_refl _, by omega, this.2.2.1, this.2.2.2⟩
    · obtain ⟨h1, h2, j, h3, h4, h5, h6⟩ := outL_mem c (k + 1) h
      exact ⟨h1, h2, j, by omega, by omega, h5, h6⟩
/-- the strokes of a list moved by v -/
def mvq (v : Int) (q : List (Int × Int)) : List (Int × Int) := q.map (fun x => (x.1, x.2 + v))
theorem innL_mv (x t v : Int) : ∀ c b : Nat, innL x (t + v) c b = mvq v (innL x t c b)
  | 0, _ => rfl
  | c + 1, b => by
    unfold innL
    split
    · rw [innL_mv x t v c (b + 1)]; rfl
    · exact innL_mv x t v c (b + 1)
theorem outL_mv (S : Int → Int) (NB : Nat) (T s v : Int) : ∀ c k : Nat, outL S NB (T + v) s c k = mvq v (outL S NB T s c k)
  | 0, _ => rfl
  | c + 1, k => by
    unfold outL
    rw [show T + v + (k : Int) * s = T + k * s + v by omega, innL_mv, outL_mv S NB T s v c (k + 1)]
    unfold mvq
    rw [List.map_append]
/-- every stroke of a play that succeeds was examined with 0, over a list that has all of L -/
theorem plL_each {E : List Str → Int → Int → Int} {dl : Int → Int} : ∀ (q : List (Int × Int)) (L : List Str), (plL E dl q L).1 = 0 → ∀ x ∈ q, ∃ M : List Str, E (M ++ L) x.1 x.2 = 0
  | [], _, _, x, hx => by cases hx
  | y :: r, L, h, x, hx => by
    by_cases h0 : E L y.1 y.2 = 0
    · rcases List.mem_cons.mp hx with rfl | hx
      · exact ⟨[], h0⟩
      · rw [plL_ok h0] at h
        obtain ⟨M, hM⟩ := plL_each r _ h x hx
        exact ⟨M ++ [(y.1, y.2 - dl y.1, y.2)], by rw [List.append_assoc]; exact hM⟩
    · rw [plL_no h0] at h
      exact absurd h h0
theorem plL_size {E : List Str → Int → Int → Int} {dl : Int → Int} : ∀ (q : List (Int × Int)) (L : List Str), (plL E dl q L).1 = 0 → (plL E dl q L).2.length = q.length + L.length
  | [], _, _ => by show _ = 0 + _; rw [Nat.zero_add]; rfl
  | y :: r, L, h => by
    by_cases h0 : E L y.1 y.2 = 0
    · rw [plL_ok h0] at h ⊢
      rw [plL_size r _ h, List.length_cons, List.length_cons]
      omega
    · rw [plL_no h0] at h
      exact absurd h h0
/-- no more than 300 fit -/
theorem plL_300 {E : List Str → Int → Int → Int} {dl : Int → Int} (hE : ∀ L b t, E L b t = 0 → L.length < 300) : ∀ (q : List (Int × Int)) (L : List Str), L.length ≤ 300 → (plL E dl q L).1 = 0 → q.length + L.length ≤ 300
  | [], L, h, _ => by rw [List.length_nil]; omega
  | y :: r, L, h, h1 => by
    by_cases h0 : E L y.1 y.2 = 0
    · rw [plL_ok h0] at h1
      have h2 := hE L _ _ h0
      have := plL_300 hE r _ (by rw [List.length_cons]; omega) h1
      rw [List.length_cons] at this ⊢
      omega
    · rw [plL_no h0] at h1
      exact absurd h1 h0
/-- the examination where nothing but the strokes themselves counts -/
noncomputable def e0C (mi : aM) : List Str → Int → Int → Int := fun L b t => pick (300 ≤ L.length ∨ clash L b (t - mi (28 + b.toNat) 0) t (mi (28 + b.toNat) 1) ∨ over L (t - mi (28 + b.toNat) 0) t (mi 1 14)) 1 0
theorem e0C_0 {mi : aM} {L : List Str} {b t : Int} : e0C mi L b t = 0 ↔ L.length < 300 ∧ ¬ clash L b (t - mi (28 + b.toNat) 0) t (mi (28 + b.toNat) 1) ∧ ¬ over L (t - mi (28 + b.toNat) 0) t (mi 1 14) := by
  unfold e0C
  by_cases h : 300 ≤ L.length ∨ clash L b (t - mi (28 + b.toNat) 0) t (mi (28 + b.toNat) 1) ∨ over L (t - mi (28 + b.toNat) 0) t (mi 1 14)
  · rw [pick_pos h]
    constructor
    · intro q; omega
    · rintro ⟨q1, q2, q3⟩
      rcases h with h | h | h
      · omega
      · exact absurd h q2
      · exact absurd h q3
  · rw [pick_neg h]
    exact ⟨fun _ => ⟨by have : ¬ 300 ≤ L.length := fun q => h (Or.inl q); omega, fun q => h (Or.inr (Or.inl q)), fun q => h (Or.inr (Or.inr q))⟩, fun _ => rfl⟩
def mvs (v : Int) (L : List Str) : List Str := L.map (fun s => (s.1, s.2.1 + v, s.2.2 + v))
theorem cov_app (A B : List Str) (k : Int) : cov (A ++ B) k = cov A k + cov B k := by
  unfold cov
  rw [List.countP_append]
  rfl
theorem cov_mv (v k : Int) (L : List Str) : cov (mvs v L) (k + v) = cov L k := by
  induction L with
  | nil => rfl
  | cons s L ih =>
    show cov ((s.1, s.2.1 + v, s.2.2 + v) :: mvs v L) (k + v) = _
    rw [cov_cons, cov_cons, ih]
    dsimp only
    by_cases h : s.2.1 ≤ k ∧ k < s.2.2
    · rw [if_pos h, if_pos (by omega)]
    · rw [if_neg h, if_neg (by omega)]
/-- what a full schedule lets in, the strokes alone let in too, moved back -/
theorem e0C_of {mi : aM} {L M R : List Str} {b t v : Int} (hL : L.Perm (mvs v M ++ R)) (h : eC mi L b (t + v) = 0) : e0C mi M b t = 0 := by
  unfold eC at h
  have h2 := exam_0.mp h
  obtain ⟨-, -, -, h3, -, h4, h5⟩ := h2
  rw [e0C_0]
  refine ⟨?_, fun q => h4 ?_, fun q => h5 ?_⟩
  · rw [hL.length_eq, List.length_append] at h3
    have : (mvs v M).length = M.length := by simp [mvs]
    omega
  · obtain ⟨s, q1, q2, q3, q4⟩ := q
    refine ⟨(s.1, s.2.1 + v, s.2.2 + v), hL.mem_iff.mpr (List.mem_append_left _ (List.mem_map.mpr ⟨s, q1, rfl⟩)), q2, ?_, ?_⟩
    · dsimp only; omega
    · dsimp only; omega
  · obtain ⟨k, q1, q2, q3⟩ := q
    refine ⟨k + v, by omega, by omega, ?_⟩
    rw [cov_perm hL, cov_app, cov_mv]
    have := cov_nn R (k + v)
    omega
theorem plL_alone {mi : aM} {v : Int} : ∀ (q : List (Int × Int)) (L M R : List Str), L.Perm (mvs v M ++ R) → (plL (eC mi) (dC mi) (mvq v q) L).1 = 0 → (plL (e0C mi) (dC mi) q M).1 = 0
  | [], _, _, _, _, _ => rfl
  | y :: r, L, M, R, hL, h => by
    have e : mvq v (y :: r) = (y.1, y.2 + v) :: mvq v r := rfl
    rw [e] at h
    by_cases h0 : eC mi L y.1 (y.2 + v) = 0
    · rw [plL_ok (by exact h0)] at h
      have h1 := e0C_of hL h0
      rw [plL_ok h1]
      refine plL_alone r _ _ R ?_ h
      show ((y.1, y.2 + v - dC mi y.1, y.2 + v) :: L).Perm ((y.1, y.2 - dC mi y.1 + v, y.2 + v) :: (mvs v M ++ R))
      rw [show y.2 + v - dC mi y.1 = y.2 - dC mi y.1 + v by omega]
      exact hL.cons _
    · rw [plL_no (by exact h0)] at h
      exact absurd h h0
/-- a pattern that doesn't fit alone can't be played at any time -/
theorem alone_no {mi : aM} {S : Int → Int} {NB n : Nat} {s : Int} (h : (plL (e0C mi) (dC mi) (outL S NB 0 s n 0) []).1 ≠ 0) (T : Int) (L : List Str) : (plL (eC mi) (dC mi) (outL S NB T s n 0) L).1 ≠ 0 := by
  intro q
  apply h
  have e := outL_mv S NB 0 s T n 0
  rw [Int.zero_add] at e
  rw [e] at q
  exact plL_alone _ L [] L (List.Perm.refl _) q
theorem e0C_perm (mi : aM) : ∀ (L M : List Str), L.Perm M → ∀ b t, e0C mi L b t = e0C mi M b t := fun _ _ h _ _ => by
  unfold e0C
  rw [h.length_eq, propext (clash_perm h), propext (over_perm h)]
/-- a stroke whose command is too early, or whose bell swings, stops every play -/
theorem early_no {mi : aM} {S : Int → Int} {NB n : Nat} {T s b : Int} {k : Nat} (hk : k < n) (hb : 0 ≤ b ∧ b < NB) (hbit : bit (S k) b) (h : T + k * s - dC mi b < mi 1 13 ∨ T + k * s - dC mi b < mi (28 + b.toNat) 4 ∨ mi (28 + b.toNat) 6 ≠ 0) (L : List Str) : (plL (eC mi) (dC mi) (outL S NB T s n 0) L).1 ≠ 0 := by
  intro q
  obtain ⟨M, hM⟩ := plL_each _ _ q _ (outL_has n 0 k (Nat.zero_le _) (by omega) hb.1 hb.2 hbit)
  unfold eC at hM
  have h2 := exam_0.mp hM
  dsimp only at h2
  unfold dC at h
  rcases h with h | h | h
  · have := h2.2.2.1; omega
  · have := h2.2.2.2.2.1; omega
  · exact h h2.2.1
theorem many_no {mi : aM} {q : List (Int × Int)} {L : List Str} (hL : L.length ≤ 300) (h : 300 < q.length + L.length) : (plL (eC mi) (dC mi) q L).1 ≠ 0 := fun z => by
  have := plL_300 (E := eC mi) (dl := dC mi) (fun L b t h => (eC_t h).2.2.2.1) q L hL z
  omega
/-- the first shift up to m with a success; -1 -/
noncomputable def okT (mi : aM) (S : Int → Int) (NB n : Nat) (s : Int) (T : Int) : Int := (plL (eC mi) (dC mi) (outL S NB T s n 0) (sL mi 8)).1
theorem ptS_len {S : Int → Int} {NB : Int} (hNB : 0 ≤ NB ∧ NB ≤ 12) {n : Nat} (hS : ∀ k : Int, 0 ≤ k → k < n → 0 ≤ S k ∧ S k < 4096) (T s : Int) : ptS S (((2 ^ NB.toNat : Nat) : Int) - 1) n = ((outL S NB.toNat T s n 0).length : Int) := by
  have key : ∀ c k : Nat, k + c ≤ n → ptS S (((2 ^ NB.toNat : Nat) : Int) - 1) k + ((outL S NB.toNat T s c k).length : Int) = ptS S (((2 ^ NB.toNat : Nat) : Int) - 1) (k + c) := by
    intro c
    induction c with
    | zero => intro k _; show _ + ((0 : Nat) : Int) = _; simp
    | succ c ih =>
      intro k hk
      have h1 := ih (k + 1) (by omega)
      have h2 := pcn_len (x := S k) (NB := NB) (t := T + k * s) (hS k (by omega) (by omega)) hNB
      have e : (outL S NB.toNat T s (c + 1) k).length = (innL (S k) (T + k * s) NB.toNat 0).length + (outL S NB.toNat T s c (k + 1)).length := by
        show (innL _ _ _ _ ++ _).length = _
        rw [List.length_append]
      have e2 : ptS S (((2 ^ NB.toNat : Nat) : Int) - 1) (k + 1) = ptS S (((2 ^ NB.toNat : Nat) : Int) - 1) k + (pcn ((S k).toNat &&& (((2 ^ NB.toNat : Nat) : Int) - 1).toNat) : Int) := rfl
      rw [show k + (c + 1) = k + 1 + c by omega, ← h1, e2, h2, e]
      omega
  have := key n 0 (by omega)
  rw [Nat.zero_add] at this
  rw [← this]
  show (0 : Int) + _ = _
  omega
