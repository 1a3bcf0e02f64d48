-- part 57: the reader of patterns, as steps (printed by wip/whole/gen/p57.py)
/-- the groups that are open, the latest first: place of the ( and length there -/
abbrev rSt : Type := List (Int × Nat)
abbrev rQ : Type := Int × List Int × rSt
def sgF (X : Int → Int) (E p : Int) : Int := if 0 ≤ p ∧ p < E then X p else -1
theorem sgF_in {X : Int → Int} {E p : Int} (h : 0 ≤ p ∧ p < E) : sgF X E p = X p := if_pos h
theorem sgF_out {X : Int → Int} {E p : Int} (h : p < 0 ∨ E ≤ p) : sgF X E p = -1 := if_neg (by omega)
theorem sgF_lt {X : Int → Int} {E p : Int} (h : 0 ≤ sgF X E p) : 0 ≤ p ∧ p < E := by
  unfold sgF at h
  split at h
  · assumption
  · omega
/-- a number of one or two digits that begins at p: its value, its end -/
def nuV (s : Int → Int) (p : Int) : Int := if 48 ≤ s (p + 1) ∧ s (p + 1) ≤ 57 then 10 * (s p - 48) + (s (p + 1) - 48) else s p - 48
def nuP (s : Int → Int) (p : Int) : Int := if 48 ≤ s (p + 1) ∧ s (p + 1) ≤ 57 then p + 2 else p + 1
theorem nuV_rng {s : Int → Int} {p : Int} (h : 48 ≤ s p ∧ s p ≤ 57) : 0 ≤ nuV s p ∧ nuV s p ≤ 99 := by
  unfold nuV
  split <;> omega
/-- letters from p on: their end, their bells -/
def leP (s : Int → Int) : Nat → Int → Int
  | 0, p => p
  | f + 1, p => if 97 ≤ s p ∧ s p ≤ 108 then leP s f (p + 1) else p
def leS (s : Int → Int) : Nat → Int → Int → Int
  | 0, _, g => g
  | f + 1, p, g => if 97 ≤ s p ∧ s p ≤ 108 then leS s f (p + 1) ((g.toNat ||| (((2 ^ (s p - 97).toNat : Nat) : Int)).toNat : Nat) : Int) else g
theorem leP_y {s : Int → Int} {f : Nat} {p : Int} (h : 97 ≤ s p ∧ s p ≤ 108) : leP s (f + 1) p = leP s f (p + 1) := if_pos h
theorem leS_y {s : Int → Int} {f : Nat} {p g : Int} (h : 97 ≤ s p ∧ s p ≤ 108) : leS s (f + 1) p g = leS s f (p + 1) ((g.toNat ||| (((2 ^ (s p - 97).toNat : Nat) : Int)).toNat : Nat) : Int) := if_pos h
theorem leP_n {s : Int → Int} {f : Nat} {p : Int} (h : ¬ (97 ≤ s p ∧ s p ≤ 108)) : leP s f p = p := by
  cases f with
  | zero => rfl
  | succ f => exact if_neg h
theorem leS_n {s : Int → Int} {f : Nat} {p g : Int} (h : ¬ (97 ≤ s p ∧ s p ≤ 108)) : leS s f p g = g := by
  cases f with
  | zero => rfl
  | succ f => exact if_neg h
theorem leP_rng {X : Int → Int} {E : Int} : ∀ (f : Nat) (p : Int), 0 ≤ p → p ≤ E → p ≤ leP (sgF X E) f p ∧ leP (sgF X E) f p ≤ E
  | 0, p, _, h => ⟨Int.le_refl _, h⟩
  | f + 1, p, h0, h => by
    by_cases q : 97 ≤ sgF X E p ∧ sgF X E p ≤ 108
    · rw [leP_y q]
      have h1 := sgF_lt (X := X) (E := E) (p := p) (by omega)
      have := leP_rng (X := X) (E := E) f (p + 1) (by omega) (by omega)
      omega
    · rw [leP_n q]; omega
theorem leS_rng {s : Int → Int} : ∀ (f : Nat) (p g : Int), 0 ≤ g ∧ g < 4096 → 0 ≤ leS s f p g ∧ leS s f p g < 4096
  | 0, p, g, h => h
  | f + 1, p, g, h => by
    by_cases q : 97 ≤ s p ∧ s p ≤ 108
    · rw [leS_y q]
      exact leS_rng f (p + 1) _ (or_rng h (pow_rng (by omega)))
    · rw [leS_n q]; exact h
/-- an item that is no group: end of its sign or letters, its bells, its number, its end -/
def itP (s : Int → Int) (p : Int) : Int := if s p = 45 then p + 1 else leP s 301 p
def itS (s : Int → Int) (p : Int) : Int := if s p = 45 then 0 else leS s 301 p 0
def itN (s : Int → Int) (p : Int) : Int := if 48 ≤ s p ∧ s p ≤ 57 then nuV s p else 1
def itE (s : Int → Int) (p : Int) : Int := if 48 ≤ s p ∧ s p ≤ 57 then nuP s p else p
def spr (x : Int) : Nat → List Int
  | 0 => []
  | n + 1 => x :: List.replicate n 0
def repL (b : List Int) : Nat → List Int
  | 0 => []
  | n + 1 => b ++ repL b n
theorem spr_len (x : Int) (n : Nat) : (spr x n).length = n := by cases n <;> simp [spr]
theorem spr_snoc (x : Int) (n : Nat) : spr x (n + 1) = spr x n ++ [if n = 0 then x else 0] := by
  cases n with
  | zero => rfl
  | succ n =>
    show x :: List.replicate (n + 1) 0 = (x :: List.replicate n 0) ++ [0]
    rw [List.replicate_succ', List.cons_append]
theorem spr_mem {x y : Int} {n : Nat} (h : y ∈ spr x n) : y = x ∨ y = 0 := by
  cases n with
  | zero => cases h
  | succ n =>
    rcases List.mem_cons.mp h with h | h
    · exact Or.inl h
    · exact Or.inr (List.eq_of_mem_replicate h)
theorem repL_len (b : List Int) : ∀ n : Nat, (repL b n).length = n * b.length
  | 0 => by simp [repL]
  | n + 1 => by
    show (b ++ repL b n).length = _
    rw [List.length_append, repL_len b n, Nat.add_mul]
    omega
theorem repL_snoc (b : List Int) : ∀ n : Nat, repL b (n + 1) = repL b n ++ b
  | 0 => by simp [repL]
  | n + 1 => by
    show b ++ repL b (n + 1) = (b ++ repL b n) ++ b
    rw [List.append_assoc, ← repL_snoc b n]
theorem repL_mem {b : List Int} {y : Int} : ∀ n : Nat, y ∈ repL b n → y ∈ b
  | 0, h => by cases h
  | n + 1, h => by
    rcases List.mem_append.mp h with h | h
    · exact h
    · exact repL_mem n h
theorem repL_get (b : List Int) : ∀ (n j : Nat), j < n * b.length → (repL b n).getD j 0 = b.getD (j % b.length) 0
  | 0, j, h => by omega
  | n + 1, j, h => by
    show (b ++ repL b n).getD j 0 = _
    rw [List.getD_eq_getElem?_getD, List.getD_eq_getElem?_getD, List.getElem?_append]
    by_cases q : j < b.length
    · rw [if_pos q, Nat.mod_eq_of_lt q]
    · rw [if_neg q, ← List.getD_eq_getElem?_getD, ← List.getD_eq_getElem?_getD]
      rw [Nat.add_mul] at h
      rw [repL_get b n (j - b.length) (by omega)]
      congr 1
      exact (Nat.mod_eq_sub_mod (by omega)).symm
/-- one sign, item or bracket read: error code (0: none), its place, the state behind it -/
def rStep (s : Int → Int) (q : rQ) : Int × Int × rQ :=
  if s q.1 = 32 then (0, -1, (q.1 + 1, q.2.1, q.2.2))
  else if s q.1 = 40 then (if 3 ≤ q.2.2.length then (3, q.1, q) else (0, -1, (q.1 + 1, q.2.1, (q.1, q.2.1.length) :: q.2.2)))
  else if s q.1 = 41 then (match q.2.2 with
    | [] => (1, q.1, q)
    | g :: r => if q.2.1.length = g.2 then (5, q.1, q) else if ¬ (48 ≤ s (q.1 + 1) ∧ s (q.1 + 1) ≤ 57) then (1, q.1 + 1, q) else if nuV s (q.1 + 1) < 1 ∨ 20 < nuV s (q.1 + 1) then (2, q.1 + 1, q) else if 100 < (g.2 : Int) + ((q.2.1.length : Int) - g.2) * nuV s (q.1 + 1) then (4, g.1, q) else (0, -1, (nuP s (q.1 + 1), q.2.1 ++ repL (q.2.1.drop g.2) (nuV s (q.1 + 1) - 1).toNat, r)))
  else if s q.1 = 45 ∨ (97 ≤ s q.1 ∧ s q.1 ≤ 108) then (if (48 ≤ s (itP s q.1) ∧ s (itP s q.1) ≤ 57) ∧ (nuV s (itP s q.1) < 1 ∨ 20 < nuV s (itP s q.1)) then (2, itP s q.1, q) else if 100 < (q.2.1.length : Int) + itN s (itP s q.1) then (4, q.1, q) else (0, -1, (itE s (itP s q.1), q.2.1 ++ spr (itS s q.1) (itN s (itP s q.1)).toNat, q.2.2)))
  else (1, q.1, q)
section RSTEP
variable {s : Int → Int} {p : Int} {o : List Int} {k : rSt} {g : Int × Nat}
theorem rs_sp (h : s p = 32) : rStep s (p, o, k) = (0, -1, (p + 1, o, k)) := if_pos h
theorem rs_open3 (h : s p = 40) (h3 : 3 ≤ k.length) : rStep s (p, o, k) = (3, p, (p, o, k)) := by
  unfold rStep
  dsimp only
  rw [if_neg (by omega), if_pos h, if_pos h3]
theorem rs_open (h : s p = 40) (h3 : ¬ 3 ≤ k.length) : rStep s (p, o, k) = (0, -1, (p + 1, o, (p, o.length) :: k)) := by
  unfold rStep
  dsimp only
  rw [if_neg (by omega), if_pos h, if_neg h3]
theorem rs_close0 (h : s p = 41) : rStep s (p, o, []) = (1, p, (p, o, [])) := by
  unfold rStep
  dsimp only
  rw [if_neg (by omega), if_neg (by omega), if_pos h]
theorem rs_close5 (h : s p = 41) (h5 : o.length = g.2) : rStep s (p, o, g :: k) = (5, p, (p, o, g :: k)) := by
  unfold rStep
  dsimp only
  rw [if_neg (by omega), if_neg (by omega), if_pos h, if_pos h5]
theorem rs_close1 (h : s p = 41) (h5 : ¬ o.length = g.2) (hd : ¬ (48 ≤ s (p + 1) ∧ s (p + 1) ≤ 57)) : rStep s (p, o, g :: k) = (1, p + 1, (p, o, g :: k)) := by
  unfold rStep
  dsimp only
  rw [if_neg (by omega), if_neg (by omega), if_pos h, if_neg h5, if_pos hd]
theorem rs_close2 (h : s p = 41) (h5 : ¬ o.length = g.2) (hd : 48 ≤ s (p + 1) ∧ s (p + 1) ≤ 57) (hv : nuV s (p + 1) < 1 ∨ 20 < nuV s (p + 1)) : rStep s (p, o, g :: k) = (2, p + 1, (p, o, g :: k)) := by
  unfold rStep
  dsimp only
  rw [if_neg (by omega), if_neg (by omega), if_pos h, if_neg h5, if_neg (fun z => z hd), if_pos hv]
theorem rs_close4 (h : s p = 41) (h5 : ¬ o.length = g.2) (hd : 48 ≤ s (p + 1) ∧ s (p + 1) ≤ 57) (hv : ¬ (nuV s (p + 1) < 1 ∨ 20 < nuV s (p + 1))) (h4 : 100 < (g.2 : Int) + ((o.length : Int) - g.2) * nuV s (p + 1)) : rStep s (p, o, g :: k) = (4, g.1, (p, o, g :: k)) := by
  unfold rStep
  dsimp only
  rw [if_neg (by omega), if_neg (by omega), if_pos h, if_neg h5, if_neg (fun z => z hd), if_neg hv, if_pos h4]
theorem rs_close (h : s p = 41) (h5 : ¬ o.length = g.2) (hd : 48 ≤ s (p + 1) ∧ s (p + 1) ≤ 57) (hv : ¬ (nuV s (p + 1) < 1 ∨ 20 < nuV s (p + 1))) (h4 : ¬ 100 < (g.2 : Int) + ((o.length : Int) - g.2) * nuV s (p + 1)) : rStep s (p, o, g :: k) = (0, -1, (nuP s (p + 1), o ++ repL (o.drop g.2) (nuV s (p + 1) - 1).toNat, k)) := by
  unfold rStep
  dsimp only
  rw [if_neg (by omega), if_neg (by omega), if_pos h, if_neg h5, if_neg (fun z => z hd), if_neg hv, if_neg h4]
theorem rs_it2 (h : s p = 45 ∨ (97 ≤ s p ∧ s p ≤ 108)) (hd : 48 ≤ s (itP s p) ∧ s (itP s p) ≤ 57) (hv : nuV s (itP s p) < 1 ∨ 20 < nuV s (itP s p)) : rStep s (p, o, k) = (2, itP s p, (p, o, k)) := by
  unfold rStep
  dsimp only
  rw [if_neg (by omega), if_neg (by omega), if_neg (by omega), if_pos h, if_pos ⟨hd, hv⟩]
theorem rs_it4 (h : s p = 45 ∨ (97 ≤ s p ∧ s p ≤ 108)) (hv : ¬ ((48 ≤ s (itP s p) ∧ s (itP s p) ≤ 57) ∧ (nuV s (itP s p) < 1 ∨ 20 < nuV s (itP s p)))) (h4 : 100 < (o.length : Int) + itN s (itP s p)) : rStep s (p, o, k) = (4, p, (p, o, k)) := by
  unfold rStep
  dsimp only
  rw [if_neg (by omega), if_neg (by omega), if_neg (by omega), if_pos h, if_neg hv, if_pos h4]
theorem rs_it (h : s p = 45 ∨ (97 ≤ s p ∧ s p ≤ 108)) (hv : ¬ ((48 ≤ s (itP s p) ∧ s (itP s p) ≤ 57) ∧ (nuV s (itP s p) < 1 ∨ 20 < nuV s (itP s p)))) (h4 : ¬ 100 < (o.length : Int) + itN s (itP s p)) : rStep s (p, o, k) = (0, -1, (itE s (itP s p), o ++ spr (itS s p) (itN s (itP s p)).toNat, k)) := by
  unfold rStep
  dsimp only
  rw [if_neg (by omega), if_neg (by omega), if_neg (by omega), if_pos h, if_neg hv, if_neg h4]
theorem rs_bad (h : s p ≠ 32) (h2 : s p ≠ 40) (h3 : s p ≠ 41) (h4 : ¬ (s p = 45 ∨ (97 ≤ s p ∧ s p ≤ 108))) : rStep s (p, o, k) = (1, p, (p, o, k)) := by
  unfold rStep
  dsimp only
  rw [if_neg h, if_neg h2, if_neg h3, if_neg h4]
end RSTEP
/-- one step without error; many; the verdict where no more step is done -/
def okS (s : Int → Int) (E : Int) (q q' : rQ) : Prop := q.1 < E ∧ rStep s q = (0, -1, q')
def rch (s : Int → Int) (E : Int) : Nat → rQ → rQ → Prop
  | 0, q, q' => q' = q
  | k + 1, q, q' => ∃ q1, okS s E q q1 ∧ rch s E k q1 q'
def Rch (s : Int → Int) (E : Int) (q q' : rQ) : Prop := ∃ k, rch s E k q q'
theorem Rch_refl (s : Int → Int) (E : Int) (q : rQ) : Rch s E q q := ⟨0, rfl⟩
theorem rch_add {s : Int → Int} {E : Int} : ∀ (k l : Nat) (q q1 q2 : rQ), rch s E k q q1 → rch s E l q1 q2 → rch s E (k + l) q q2
  | 0, l, q, q1, q2, h1, h2 => by rw [show q1 = q from h1] at h2; rw [Nat.zero_add]; exact h2
  | k + 1, l, q, q1, q2, ⟨q9, h1, h3⟩, h2 => by rw [show k + 1 + l = (k + l) + 1 by omega]; exact ⟨q9, h1, rch_add k l q9 q1 q2 h3 h2⟩
theorem Rch_tr {s : Int → Int} {E : Int} {q q1 q2 : rQ} (h1 : Rch s E q q1) (h2 : Rch s E q1 q2) : Rch s E q q2 := by
  obtain ⟨k, h1⟩ := h1
  obtain ⟨l, h2⟩ := h2
  exact ⟨k + l, rch_add k l q q1 q2 h1 h2⟩
theorem Rch_ok {s : Int → Int} {E : Int} {q q1 q2 : rQ} (h1 : Rch s E q q1) (h2 : okS s E q1 q2) : Rch s E q q2 := Rch_tr h1 ⟨1, q2, h2, rfl⟩
def tml (s : Int → Int) (E : Int) (q : rQ) (e ep : Int) : Prop := (q.1 < E ∧ e ≠ 0 ∧ ∃ q', rStep s q = (e, ep, q')) ∨ (E ≤ q.1 ∧ ((q.2.2 ≠ [] ∧ e = 1 ∧ ep = E) ∨ (q.2.2 = [] ∧ q.2.1 = [] ∧ e = 5 ∧ ep = E) ∨ (q.2.2 = [] ∧ q.2.1 ≠ [] ∧ e = 0 ∧ ep = -1)))
def Fin9 (s : Int → Int) (E : Int) (q : rQ) (e ep : Int) (o : List Int) : Prop := ∃ q', Rch s E q q' ∧ tml s E q' e ep ∧ (e = 0 → o = q'.2.1)
theorem tml_no {s : Int → Int} {E : Int} {q q1 : rQ} {e ep : Int} (h : tml s E q e ep) (h1 : okS s E q q1) : False := by
  obtain ⟨a, b⟩ := h1
  rcases h with ⟨-, c, q', d⟩ | ⟨c, -⟩
  · rw [b] at d
    exact c (congrArg (fun z => z.1) d).symm
  · omega
theorem tml_det {s : Int → Int} {E : Int} {q : rQ} {e ep e' ep' : Int} (h : tml s E q e ep) (h1 : tml s E q e' ep') : e = e' ∧ ep = ep' := by
  rcases h with ⟨a, -, q1, b⟩ | ⟨a, b⟩
  · rcases h1 with ⟨-, -, q2, c⟩ | ⟨c, -⟩
    · rw [b] at c
      exact ⟨congrArg (fun z => z.1) c, congrArg (fun z => z.2.1) c⟩
    · omega
  · rcases h1 with ⟨c, -⟩ | ⟨-, c⟩
    · omega
    · rcases b with ⟨b1, b2, b3⟩ | ⟨b1, b4, b2, b3⟩ | ⟨b1, b4, b2, b3⟩ <;> rcases c with ⟨c1, c2, c3⟩ | ⟨c1, c4, c2, c3⟩ | ⟨c1, c4, c2, c3⟩ <;> first | exact ⟨b2.trans c2.symm, b3.trans c3.symm⟩ | exact absurd b1 c1 | exact absurd c1 b1 | exact absurd b4 c4 | exact absurd c4 b4
theorem rch_det {s : Int → Int} {E : Int} : ∀ (k l : Nat) (q a b : rQ) {e ep e' ep' : Int}, rch s E k q a → tml s E a e ep → rch s E l q b → tml s E b e' ep' → a = b
  | 0, 0, q, a, b, _, _, _, _, h1, _, h2, _ => by rw [show a = q from h1, show b = q from h2]
  | 0, l + 1, q, a, b, _, _, _, _, h1, t1, ⟨q1, h2, _⟩, _ => by rw [show a = q from h1] at t1; exact (tml_no t1 h2).elim
  | k + 1, 0, q, a, b, _, _, _, _, ⟨q1, h1, _⟩, _, h2, t2 => by rw [show b = q from h2] at t2; exact (tml_no t2 h1).elim
  | k + 1, l + 1, q, a, b, _, _, _, _, ⟨q1, h1, h3⟩, t1, ⟨q2, h2, h4⟩, t2 => by
    have e : q1 = q2 := by
      have := h1.2.symm.trans h2.2
      exact congrArg (fun z => z.2.2) this
    subst e
    exact rch_det k l q1 a b h3 t1 h4 t2
theorem Fin9_det {s : Int → Int} {E : Int} {q : rQ} {e ep e' ep' : Int} {o o' : List Int} (h : Fin9 s E q e ep o) (h1 : Fin9 s E q e' ep' o') : e = e' ∧ ep = ep' ∧ (e = 0 → o = o') := by
  obtain ⟨a, ⟨k, h2⟩, h3, h4⟩ := h
  obtain ⟨b, ⟨l, g2⟩, g3, g4⟩ := h1
  have := rch_det k l q a b h2 h3 g2 g3
  subst this
  have h5 := tml_det h3 g3
  exact ⟨h5.1, h5.2, fun z => (h4 z).trans (g4 (h5.1.symm.trans z)).symm⟩
theorem Fin9_tr {s : Int → Int} {E : Int} {q q1 : rQ} {e ep : Int} {o : List Int} (h : Rch s E q q1) (h1 : Fin9 s E q1 e ep o) : Fin9 s E q e ep o := by
  obtain ⟨a, h2, h3⟩ := h1
  exact ⟨a, Rch_tr h h2, h3⟩
/-- an error at once -/
theorem Fin9_er {s : Int → Int} {E : Int} {q q' : rQ} {e ep : Int} {o : List Int} (hE : q.1 < E) (h0 : e ≠ 0) (h : rStep s q = (e, ep, q')) : Fin9 s E q e ep o := ⟨q, Rch_refl _ _ _, Or.inl ⟨hE, h0, q', h⟩, fun z => absurd z h0⟩
/-- what a state keeps -/
def wfQ (E : Int) (q : rQ) : Prop := 0 ≤ q.1 ∧ q.1 ≤ E ∧ q.2.1.length ≤ 100 ∧ q.2.2.length ≤ 3 ∧ (∀ x ∈ q.2.1, 0 ≤ x ∧ x < 4096) ∧ ∀ g ∈ q.2.2, 0 ≤ g.1 ∧ g.1 ≤ 300 ∧ g.2 ≤ q.2.1.length
/-- places of an array hold a list -/
def AR (m : aM) (a : Nat) (l : List Int) : Prop := ∀ i : Nat, i < l.length → m a i = l.getD i 0
theorem AR_congr {m m' : aM} {a : Nat} {l : List Int} (h : AR m a l) (e : ∀ j : Int, m' a j = m a j) : AR m' a l := fun i hi => (e i).trans (h i hi)
theorem AR_snoc {m m' : aM} {a : Nat} {l : List Int} {v : Int} (h : AR m a l) (e : ∀ j : Int, j ≠ l.length → m' a j = m a j) (hv : m' a l.length = v) : AR m' a (l ++ [v]) := by
  intro i hi
  rw [List.length_append, List.length_singleton] at hi
  rw [List.getD_eq_getElem?_getD, List.getElem?_append]
  by_cases q : i < l.length
  · rw [if_pos q, ← List.getD_eq_getElem?_getD, e i (by omega)]
    exact h i q
  · rw [if_neg q, show i = l.length by omega, hv]
    simp
theorem AR_app {m m' : aM} {a : Nat} {l b : List Int} (h : AR m a l) (e : ∀ i : Nat, i < l.length → m' a i = m a i) (hb : ∀ j : Nat, j < b.length → m' a (l.length + j : Nat) = b.getD j 0) : AR m' a (l ++ b) := by
  intro i hi
  rw [List.length_append] at hi
  rw [List.getD_eq_getElem?_getD, List.getElem?_append]
  by_cases q : i < l.length
  · rw [if_pos q, ← List.getD_eq_getElem?_getD, e i q]
    exact h i q
  · rw [if_neg q, ← List.getD_eq_getElem?_getD, ← hb (i - l.length) (by omega), show l.length + (i - l.length) = i by omega]
theorem AR_left {m : aM} {a : Nat} {l b : List Int} (h : AR m a (l ++ b)) : AR m a l := by
  intro i hi
  rw [h i (by rw [List.length_append]; omega), List.getD_eq_getElem?_getD, List.getElem?_append, if_pos hi, ← List.getD_eq_getElem?_getD]
theorem AR_drop {m : aM} {a : Nat} {l : List Int} {g : Nat} (h : AR m a l) (j : Nat) (hj : j < (l.drop g).length) : m a (g + j : Nat) = (l.drop g).getD j 0 := by
  rw [List.length_drop] at hj
  rw [h (g + j) (by omega), List.getD_eq_getElem?_getD, List.getD_eq_getElem?_getD, List.getElem?_drop]
theorem AR_mem {m : aM} {a : Nat} {l : List Int} (h : AR m a l) (hl : ∀ x ∈ l, 0 ≤ x ∧ x < 4096) (i : Nat) (hi : i < l.length) : 0 ≤ m a i ∧ m a i < 4096 := by
  rw [h i hi, List.getD_eq_getElem?_getD, List.getElem?_eq_getElem hi, Option.getD_some]
  exact hl _ (List.getElem_mem hi)
theorem nuP_rng {X : Int → Int} {E p : Int} (h : 48 ≤ sgF X E p) : p < nuP (sgF X E) p ∧ nuP (sgF X E) p ≤ E ∧ 0 ≤ p := by
  have h0 := sgF_lt (X := X) (E := E) (p := p) (by omega)
  unfold nuP
  split
  · rename_i h1
    have := sgF_lt (X := X) (E := E) (p := p + 1) (by omega)
    omega
  · omega
theorem itP_rng {X : Int → Int} {E p : Int} (hE : E ≤ 300) (h : sgF X E p = 45 ∨ (97 ≤ sgF X E p ∧ sgF X E p ≤ 108)) : p < itP (sgF X E) p ∧ itP (sgF X E) p ≤ E ∧ 0 ≤ p := by
  have h0 := sgF_lt (X := X) (E := E) (p := p) (by omega)
  unfold itP
  split
  · omega
  · rw [leP_y (by omega)]
    have := leP_rng (X := X) (E := E) 300 (p + 1) (by omega) (by omega)
    omega
theorem itE_rng {X : Int → Int} {E p : Int} (h : 0 ≤ p ∧ p ≤ E) : p ≤ itE (sgF X E) p ∧ itE (sgF X E) p ≤ E := by
  unfold itE
  split
  · rename_i h1
    have := nuP_rng (X := X) (E := E) (p := p) h1.1
    omega
  · omega
theorem itN_rng {s : Int → Int} {p : Int} (h : ¬ ((48 ≤ s p ∧ s p ≤ 57) ∧ (nuV s p < 1 ∨ 20 < nuV s p))) : 1 ≤ itN s p ∧ itN s p ≤ 20 := by
  unfold itN
  split <;> omega
theorem itS_rng {s : Int → Int} {p : Int} : 0 ≤ itS s p ∧ itS s p < 4096 := by
  unfold itS
  split
  · omega
  · exact leS_rng _ _ _ (by omega)
/-- a step without error keeps the form and goes on -/
theorem wf_step {X : Int → Int} {E : Int} {q q' : rQ} (hE : E ≤ 300) (hw : wfQ E q) (h : okS (sgF X E) E q q') : wfQ E q' ∧ q.1 < q'.1 := by
  obtain ⟨p, o, k⟩ := q
  obtain ⟨w1, w2, w3, w4, w5, w6⟩ := hw
  obtain ⟨hp, h⟩ := h
  dsimp only at w1 w2 w3 w4 w5 w6 hp
  by_cases c1 : sgF X E p = 32
  · rw [rs_sp c1] at h
    have e : q' = (p + 1, o, k) := (congrArg (fun z => z.2.2) h).symm
    subst e
    exact ⟨⟨by show 0 ≤ p + 1; omega, by show p + 1 ≤ E; omega, w3, w4, w5, w6⟩, by show p < p + 1; omega⟩
  by_cases c2 : sgF X E p = 40
  · by_cases c3 : 3 ≤ k.length
    · rw [rs_open3 c2 c3] at h
      have : (3 : Int) = 0 := congrArg (fun z => z.1) h
      omega
    · rw [rs_open c2 c3] at h
      have e : q' = (p + 1, o, (p, o.length) :: k) := (congrArg (fun z => z.2.2) h).symm
      subst e
      refine ⟨⟨by show 0 ≤ p + 1; omega, by show p + 1 ≤ E; omega, w3, by show ((p, o.length) :: k).length ≤ 3; rw [List.length_cons]; omega, w5, fun g hg => ?_⟩, by show p < p + 1; omega⟩
      rcases List.mem_cons.mp hg with rfl | hg
      · exact ⟨w1, by show p ≤ 300; omega, Nat.le_refl _⟩
      · exact w6 g hg
  by_cases c3 : sgF X E p = 41
  · cases k with
    | nil =>
      rw [rs_close0 c3] at h
      have : (1 : Int) = 0 := congrArg (fun z => z.1) h
      omega
    | cons g k =>
      by_cases d1 : o.length = g.2
      · rw [rs_close5 c3 d1] at h
        have : (5 : Int) = 0 := congrArg (fun z => z.1) h
        omega
      by_cases d2 : 48 ≤ sgF X E (p + 1) ∧ sgF X E (p + 1) ≤ 57
      · by_cases d3 : nuV (sgF X E) (p + 1) < 1 ∨ 20 < nuV (sgF X E) (p + 1)
        · rw [rs_close2 c3 d1 d2 d3] at h
          have : (2 : Int) = 0 := congrArg (fun z => z.1) h
          omega
        by_cases d4 : 100 < (g.2 : Int) + ((o.length : Int) - g.2) * nuV (sgF X E) (p + 1)
        · rw [rs_close4 c3 d1 d2 d3 d4] at h
          have : (4 : Int) = 0 := congrArg (fun z => z.1) h
          omega
        rw [rs_close c3 d1 d2 d3 d4] at h
        have e := (congrArg (fun z => z.2.2) h).symm
        dsimp only at e
        subst e
        have hn := nuP_rng (X := X) (E := E) (p := p + 1) d2.1
        have hg := w6 g List.mem_cons_self
        have hl : (o ++ repL (o.drop g.2) (nuV (sgF X E) (p + 1) - 1).toNat).length ≤ 100 := by
          rw [List.length_append, repL_len, List.length_drop]
          have e1 : ((o.length : Int) - g.2) * nuV (sgF X E) (p + 1) = ((o.length - g.2 : Nat) : Int) * (((nuV (sgF X E) (p + 1) - 1).toNat : Nat) : Int) + ((o.length : Int) - g.2) := by
            have e2 : nuV (sgF X E) (p + 1) = (((nuV (sgF X E) (p + 1) - 1).toNat : Nat) : Int) + 1 := by omega
            have e3 : (o.length : Int) - g.2 = ((o.length - g.2 : Nat) : Int) := by omega
            rw [e3]
            conv => lhs; rw [e2]
            rw [Int.mul_add, Int.mul_one]
          rw [e1, ← Int.natCast_mul] at d4
          rw [Nat.mul_comm]
          omega
        refine ⟨⟨by show 0 ≤ nuP _ _; omega, hn.2.1, hl, by have : (g :: k).length ≤ 3 := w4; rw [List.length_cons] at this; show k.length ≤ 3; omega, fun x hx => ?_, fun g' hg' => ?_⟩, by show p < nuP _ _; omega⟩
        · rcases List.mem_append.mp hx with hx | hx
          · exact w5 x hx
          · exact w5 x (List.mem_of_mem_drop (repL_mem _ hx))
        · have := w6 g' (List.mem_cons_of_mem _ hg')
          refine ⟨this.1, this.2.1, ?_⟩
          show g'.2 ≤ (o ++ _).length
          rw [List.length_append]
          have h9 : g'.2 ≤ o.length := this.2.2
          omega
      · rw [rs_close1 c3 d1 d2] at h
        have : (1 : Int) = 0 := congrArg (fun z => z.1) h
        omega
  by_cases c4 : sgF X E p = 45 ∨ (97 ≤ sgF X E p ∧ sgF X E p ≤ 108)
  · by_cases d1 : (48 ≤ sgF X E (itP (sgF X E) p) ∧ sgF X E (itP (sgF X E) p) ≤ 57) ∧ (nuV (sgF X E) (itP (sgF X E) p) < 1 ∨ 20 < nuV (sgF X E) (itP (sgF X E) p))
    · rw [rs_it2 c4 d1.1 d1.2] at h
      have : (2 : Int) = 0 := congrArg (fun z => z.1) h
      omega
    by_cases d2 : 100 < (o.length : Int) + itN (sgF X E) (itP (sgF X E) p)
    · rw [rs_it4 c4 d1 d2] at h
      have : (4 : Int) = 0 := congrArg (fun z => z.1) h
      omega
    rw [rs_it c4 d1 d2] at h
    have e := (congrArg (fun z => z.2.2) h).symm
    dsimp only at e
    subst e
    have h1 := itP_rng (X := X) (E := E) hE c4
    have h2 := itE_rng (X := X) (E := E) (p := itP (sgF X E) p) ⟨by omega, h1.2.1⟩
    have h3 := itN_rng d1
    have h4 := itS_rng (s := sgF X E) (p := p)
    refine ⟨⟨by show 0 ≤ itE _ _; omega, h2.2, ?_, w4, fun x hx => ?_, fun g hg => ?_⟩, by show p < itE _ _; omega⟩
    · show (o ++ spr _ _).length ≤ 100
      rw [List.length_append, spr_len]
      omega
    · rcases List.mem_append.mp hx with hx | hx
      · exact w5 x hx
      · rcases spr_mem hx with rfl | rfl
        · exact h4
        · decide
    · have := w6 g hg
      refine ⟨this.1, this.2.1, ?_⟩
      show g.2 ≤ (o ++ _).length
      rw [List.length_append]
      have h9 : g.2 ≤ o.length := this.2.2
      omega
  · rw [rs_bad c1 c2 c3 c4] at h
    have : (1 : Int) = 0 := congrArg (fun z => z.1) h
    omega
theorem wf_rch {X : Int → Int} {E : Int} (hE : E ≤ 300) : ∀ (k : Nat) (q q' : rQ), wfQ E q → rch (sgF X E) E k q q' → wfQ E q'
  | 0, q, q', hw, h => by rw [show q' = q from h]; exact hw
  | k + 1, q, q', hw, ⟨q1, h1, h2⟩ => wf_rch hE k q1 q' (wf_step hE hw h1).1 h2
