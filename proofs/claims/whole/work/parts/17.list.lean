-- part 17: strokes as lists, the decision about a stroke (printed by wip/whole/gen/p17.py)
abbrev Str : Type := Int × Int × Int
/-- the list of n things that f tells -/
def lst (f : Int → Str) (n : Nat) : List Str := (List.range n).map (fun i : Nat => f (i : Int))
theorem lst_succ (f : Int → Str) (n : Nat) : lst f (n + 1) = lst f n ++ [f n] := by simp [lst, List.range_succ]
theorem lst_len (f : Int → Str) (n : Nat) : (lst f n).length = n := by simp [lst]
theorem lst_congr {f g : Int → Str} {n : Nat} (h : ∀ i : Int, 0 ≤ i → i < n → f i = g i) : lst f n = lst g n := by
  unfold lst
  apply List.map_congr_left
  intro i hi
  have := List.mem_range.mp hi
  exact h i (by omega) (by omega)
theorem lst_mem {f : Int → Str} {n : Nat} {s : Str} : s ∈ lst f n ↔ ∃ i : Int, 0 ≤ i ∧ i < n ∧ f i = s := by
  unfold lst
  constructor
  · intro h
    obtain ⟨i, hi, e⟩ := List.mem_map.mp h
    have := List.mem_range.mp hi
    exact ⟨i, by omega, by omega, e⟩
  · rintro ⟨i, h0, h1, e⟩
    exact List.mem_map.mpr ⟨i.toNat, List.mem_range.mpr (by omega), by rw [show ((i.toNat : Nat) : Int) = i by omega]; exact e⟩
/-- one thing more, at the place k -/
theorem lst_ins {f g : Int → Str} {n k : Nat} (hk : k ≤ n) (h1 : ∀ i : Int, 0 ≤ i → i < k → f i = g i) (h2 : ∀ i : Int, k ≤ i → i < n → f (i + 1) = g i) : (lst f (n + 1)).Perm (f k :: lst g n) := by
  induction n with
  | zero =>
    have : k = 0 := by omega
    subst this
    exact List.Perm.refl _
  | succ n ih =>
    by_cases hkn : k = n + 1
    · subst hkn
      rw [lst_succ, lst_congr (g := g) (n := n + 1) (fun i a b => h1 i a (by omega))]
      exact List.perm_append_singleton _ _
    · rw [lst_succ, lst_succ g n]
      have e : f ((n + 1 : Nat) : Int) = g n := by
        have := h2 n (by omega) (by omega)
        rw [← this]
        rfl
      rw [e]
      exact (ih (by omega) (fun i a b => h2 i a (by omega))).append_right [g n]
/-- the last thing into the place k, one thing less -/
theorem lst_swap {f g : Int → Str} {n k : Nat} (hk : k ≤ n) (h1 : ∀ i : Int, 0 ≤ i → i < n → i ≠ k → g i = f i) (h2 : k < n → g k = f n) : (lst f (n + 1)).Perm (f k :: lst g n) := by
  by_cases hkn : k = n
  · subst hkn
    rw [lst_succ, lst_congr (g := g) (n := k) (fun i a b => (h1 i a b (by omega)).symm)]
    exact List.perm_append_singleton _ _
  · have hlt : k < n := by omega
    obtain ⟨m, rfl⟩ : ∃ m, n = m + 1 := ⟨n - 1, by omega⟩
    -- both lists without the place k
    have a1 := lst_ins (f := f) (g := fun i => if i < k then f i else f (i + 1)) (n := m) (k := k) (by omega) (fun i x y => by rw [if_pos y]) (fun i x y => by rw [if_neg (by omega)])
    have a2 := lst_ins (f := g) (g := fun i => if i < k then f i else f (i + 1)) (n := m) (k := k) (by omega) (fun i x y => by rw [if_pos y]; exact h1 i x (by omega) (by omega)) (fun i x y => by rw [if_neg (by omega)]; exact h1 (i + 1) (by omega) (by omega) (by omega))
    rw [lst_succ]
    have a3 : (lst f (m + 1) ++ [f ((m + 1 : Nat) : Int)]).Perm (f ((m + 1 : Nat) : Int) :: (f k :: lst (fun i => if i < k then f i else f (i + 1)) m)) := (List.perm_append_singleton _ _).trans (a1.cons _)
    refine a3.trans ((List.Perm.swap _ _ _).trans (List.Perm.cons _ ?_))
    rw [← h2 hlt]
    exact a2.symm
/-- how many strokes of a list move at a tick -/
def cov (L : List Str) (k : Int) : Int := ((L.countP (fun s => decide (s.2.1 ≤ k ∧ k < s.2.2)) : Nat) : Int)
theorem cov_perm {L M : List Str} (h : L.Perm M) (k : Int) : cov L k = cov M k := by unfold cov; rw [h.countP_eq]
theorem cov_nil (k : Int) : cov [] k = 0 := rfl
theorem cov_cons (s : Str) (L : List Str) (k : Int) : cov (s :: L) k = cov L k + (if s.2.1 ≤ k ∧ k < s.2.2 then 1 else 0) := by
  unfold cov
  rw [List.countP_cons]
  by_cases h : s.2.1 ≤ k ∧ k < s.2.2
  · simp [h]
  · simp [h]
theorem cov_nn (L : List Str) (k : Int) : 0 ≤ cov L k := by unfold cov; omega
theorem cov_lst_succ (f : Int → Str) (n : Nat) (k : Int) : cov (lst f (n + 1)) k = cov (lst f n) k + (if (f n).2.1 ≤ k ∧ k < (f n).2.2 then 1 else 0) := by
  rw [lst_succ, cov_perm (List.perm_append_singleton _ _), cov_cons]
def clash (L : List Str) (b c t e : Int) : Prop := ∃ s ∈ L, s.1 = b ∧ s.2.1 < t + e ∧ c < s.2.2 + e
def over (L : List Str) (c t pl : Int) : Prop := ∃ k : Int, c ≤ k ∧ k < t ∧ pl < 1 + cov L k
theorem clash_perm {L M : List Str} (h : L.Perm M) {b c t e : Int} : clash L b c t e ↔ clash M b c t e := by
  unfold clash
  constructor
  · rintro ⟨s, h1, h2⟩; exact ⟨s, h.mem_iff.mp h1, h2⟩
  · rintro ⟨s, h1, h2⟩; exact ⟨s, h.mem_iff.mpr h1, h2⟩
theorem over_perm {L M : List Str} (h : L.Perm M) {c t pl : Int} : over L c t pl ↔ over M c t pl := by
  unfold over
  constructor
  · rintro ⟨k, h1, h2, h3⟩; exact ⟨k, h1, h2, by rw [← cov_perm h]; exact h3⟩
  · rintro ⟨k, h1, h2, h3⟩; exact ⟨k, h1, h2, by rw [cov_perm h]; exact h3⟩
noncomputable def pick (P : Prop) (a b : Int) : Int := @ite Int P (Classical.propDecidable P) a b
theorem pick_pos {P : Prop} {a b : Int} (h : P) : pick P a b = a := by unfold pick; exact if_pos h
theorem pick_neg {P : Prop} {a b : Int} (h : ¬ P) : pick P a b = b := by unfold pick; exact if_neg h
theorem pick_congr {P Q : Prop} {a b : Int} (h : P ↔ Q) : pick P a b = pick Q a b := by rw [propext h]
/-- what the examination of a stroke of the bell b (delay d, recovery e, occupied up to occ, sw: swings) at the time t answers, where L is scheduled -/
noncomputable def exam (L : List Str) (now pl occ sw d e b t : Int) : Int :=
  pick (t < 0 ∨ 100000 < t) (-3) (pick (sw ≠ 0) (-6) (pick (t - d < now) (-5) (pick (300 ≤ L.length) (-4) (pick (t - d < occ ∨ clash L b (t - d) t e) (-7) (pick (over L (t - d) t pl) (-8) 0)))))
theorem exam_perm {L M : List Str} (h : L.Perm M) (now pl occ sw d e b t : Int) : exam L now pl occ sw d e b t = exam M now pl occ sw d e b t := by
  unfold exam
  rw [h.length_eq, propext (clash_perm h), propext (over_perm h)]
theorem exam_rng (L : List Str) (now pl occ sw d e b t : Int) : -8 ≤ exam L now pl occ sw d e b t ∧ exam L now pl occ sw d e b t ≤ 0 := by
  unfold exam pick
  repeat (first | (split; omega) | (split; skip) | omega)
theorem exam_0 {L : List Str} {now pl occ sw d e b t : Int} : exam L now pl occ sw d e b t = 0 ↔ (0 ≤ t ∧ t ≤ 100000) ∧ sw = 0 ∧ now ≤ t - d ∧ L.length < 300 ∧ occ ≤ t - d ∧ ¬ clash L b (t - d) t e ∧ ¬ over L (t - d) t pl := by
  unfold exam
  by_cases h1 : t < 0 ∨ 100000 < t
  · rw [pick_pos h1]; constructor
    · intro h; omega
    · intro h; omega
  rw [pick_neg h1]
  by_cases h2 : sw ≠ 0
  · rw [pick_pos h2]; constructor
    · intro h; omega
    · intro h; omega
  rw [pick_neg h2]
  by_cases h3 : t - d < now
  · rw [pick_pos h3]; constructor
    · intro h; omega
    · intro h; omega
  rw [pick_neg h3]
  by_cases h4 : 300 ≤ L.length
  · rw [pick_pos h4]; constructor
    · intro h; omega
    · intro h; omega
  rw [pick_neg h4]
  by_cases h5 : t - d < occ ∨ clash L b (t - d) t e
  · rw [pick_pos h5]; constructor
    · intro h; omega
    · intro h
      rcases h5 with h5 | h5
      · omega
      · exact absurd h5 h.2.2.2.2.2.1
  rw [pick_neg h5]
  have h5a : ¬ t - d < occ := fun q => h5 (Or.inl q)
  have h5b : ¬ clash L b (t - d) t e := fun q => h5 (Or.inr q)
  by_cases h6 : over L (t - d) t pl
  · rw [pick_pos h6]; constructor
    · intro h; omega
    · intro h; exact absurd h6 h.2.2.2.2.2.2
  rw [pick_neg h6]
  exact ⟨fun _ => ⟨by omega, by omega, by omega, by omega, by omega, h5b, h6⟩, fun _ => rfl⟩
/-- the class's strokes -/
def sF (mi : aM) (a : Nat) : Int → Str := fun i => (mi (a + 1) i, mi (a + 2) i, mi (a + 3) i)
def sL (mi : aM) (a : Nat) : List Str := lst (sF mi a) (mi a 4).toNat
theorem covI_lst (mi : aM) (a : Nat) (k : Int) (n : Nat) : covI mi a k n = cov (lst (sF mi a) n) k := by
  induction n with
  | zero => rfl
  | succ n ih => rw [cov_lst_succ, ← ih]; rfl
theorem sL_congr {mi m : aM} {a : Nat} (h : ∀ j : Int, m (a + 1) j = mi (a + 1) j ∧ m (a + 2) j = mi (a + 2) j ∧ m (a + 3) j = mi (a + 3) j) (h4 : m a 4 = mi a 4) : sL m a = sL mi a := by
  unfold sL
  rw [h4]
  exact lst_congr (fun i _ _ => by unfold sF; rw [(h i).1, (h i).2.1, (h i).2.2])
theorem sOk_congr {mi m : aM} {a : Nat} (h : ∀ j : Int, m (a + 1) j = mi (a + 1) j ∧ m (a + 2) j = mi (a + 2) j ∧ m (a + 3) j = mi (a + 3) j) (h4 : m a 4 = mi a 4) (ho : sOk mi a) : sOk m a := by
  unfold sOk at *
  rw [h4]
  refine ⟨ho.1, fun i a b => ?_, fun i j a b c => ?_⟩
  · rw [(h i).1, (h i).2.1, (h i).2.2]; exact ho.2.1 i a b
  · rw [(h i).1, (h i).2.1, (h j).1, (h j).2.1]; exact ho.2.2 i j a b c
