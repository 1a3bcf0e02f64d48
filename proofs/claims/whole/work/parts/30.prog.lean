-- part 30: dropEntry, carryOut, runProgramme (printed by wip/whole/gen/p30.py)
theorem SH_en {e : Nat} (h : 50 ≤ e ∧ e ≤ 57) : SH e = (0, 1) := by
  have := SH_ent (j := e - 50) (by omega)
  rw [show 50 + (e - 50) = e by omega] at this
  exact this
/-- the entries' order -/
def enI (mr : aR) (E : Int → Nat) : Prop := (∀ j : Int, 0 ≤ j → j < 8 → mr 24 j = some (E j) ∧ (50 ≤ E j ∧ E j ≤ 57)) ∧ ∀ i j : Int, 0 ≤ i → i < 8 → 0 ≤ j → j < 8 → E i = E j → i = j
def fr24 (mr r : aR) : Prop := ∀ (a : Nat) (j : Int), a ≠ 24 → r a j = mr a j
theorem Rok_fr {mr r : aR} (h : Rok mr) (hf : fr24 mr r) : Rok r := by
  obtain ⟨h1, h2, h3⟩ := h
  refine ⟨fun q hq => ?_, fun i h0 h1 => by rw [hf _ _ (by decide)]; exact h2 i h0 h1, fun i h0 h1 => by rw [hf _ _ (by decide)]; exact h3 i h0 h1⟩
  have key : ∀ q ∈ R0L, q.1 ≠ 24 := by decide
  rw [hf _ _ (key q hq)]
  exact h1 q hq
/-- the order without the place i, whose entry goes behind the last of c -/
def edr (i c : Int) (E : Int → Nat) : Int → Nat := fun j => if i ≤ j ∧ j < c - 1 then E (j + 1) else if j = c - 1 then E i else E j
def edx (i c j : Int) : Int := if i ≤ j ∧ j < c - 1 then j + 1 else if j = c - 1 then i else j
theorem edr_ix (i c : Int) (E : Int → Nat) (j : Int) : edr i c E j = E (edx i c j) := by
  unfold edr edx
  split
  · rfl
  · split <;> rfl
theorem edx_rng {i c j : Int} (hi : 0 ≤ i ∧ i < c) (hc : c ≤ 8) (hj : 0 ≤ j ∧ j < 8) : 0 ≤ edx i c j ∧ edx i c j < 8 := by
  unfold edx
  split
  · omega
  · split <;> omega
theorem edr_ok {mr r : aR} {i c : Int} {E : Int → Nat} (h : enI mr E) (hi : 0 ≤ i ∧ i < c) (hc : c ≤ 8) (hr : ∀ j : Int, 0 ≤ j → j < 8 → r 24 j = some (edr i c E j)) : enI r (edr i c E) := by
  refine ⟨fun j j0 j1 => ⟨hr j j0 j1, ?_⟩, fun a b a0 a1 b0 b1 q => ?_⟩
  · unfold edr
    split
    · exact (h.1 (j + 1) (by omega) (by omega)).2
    · split
      · exact (h.1 i (by omega) (by omega)).2
      · exact (h.1 j j0 j1).2
  · rw [edr_ix, edr_ix] at q
    have h9 := h.2 _ _ (edx_rng hi hc ⟨a0, a1⟩).1 (edx_rng hi hc ⟨a0, a1⟩).2 (edx_rng hi hc ⟨b0, b1⟩).1 (edx_rng hi hc ⟨b0, b1⟩).2 q
    unfold edx at h9
    (repeat' split at h9) <;> omega
def edz (i z : Int) (E : Int → Nat) : Int → Nat := fun j => if i ≤ j ∧ j < z - 1 then E (j + 1) else E j
theorem edz_rng {mr : aR} {i z j : Int} {E : Int → Nat} (h : enI mr E) (hi : 0 ≤ i) (hz : z ≤ 8) (hj : 0 ≤ j ∧ j < 8) : 50 ≤ edz i z E j ∧ edz i z E j ≤ 57 := by
  unfold edz
  split
  · exact (h.1 (j + 1) (by omega) (by omega)).2
  · exact (h.1 j (by omega) (by omega)).2
theorem ee_rng {e : Nat} (h : 50 ≤ e ∧ e ≤ 57) : 0 < e ∧ e ≤ 94 := by omega
theorem l_drop {mr : aR} {mi : aM} {i : Int} {E : Int → Nat} (hen : enI mr E) (hi : 0 ≤ i ∧ i < mi 1 12) (hc : mi 1 12 ≤ 8) : ∀ (n : Nat) (r : aR) (z : Int), Rok r → fr24 mr r → (∀ j : Int, 0 ≤ j → j < 8 → r 24 j = some (edz i z E j)) → (i + 1 ≤ z ∧ z ≤ mi 1 12) → mi 1 12 - z < n → AWm RX6 cX6_dropEntry 4 1 (Pgv (fun m r => m = aup mi 1 12 (mi 1 12 - 1) ∧ fr24 mr r ∧ ∀ j : Int, 0 ≤ j → j < 8 → r 24 j = some (edr i (mi 1 12) E j))) 11 [(0, .ref 1), (1, iI i), (2, .ref (E i)), (3, iI z)] [] mi r := by
  intro n
  induction n with
  | zero => intro r z hR hf hE h2 h3; omega
  | succ n ih =>
    intro r z hR hf hE h2 h3
    refine aw_iload_n (i := 3) (q := 3) dX6_dropEntry_11 rfl rfl ?_
    refine aw_aload_n (i := 0) (q := 0) dX6_dropEntry_12 rfl rfl ?_
    refine aw_getIk (x := mi 1 12) 12 flX6_70 SH_1 (by decide) rfl rfl rfl dX6_dropEntry_13 (fun r13 => ?_)
    refine aw_icmp_ge (tgt := 39) dX6_dropEntry_16 (by decide) (by first | assumption | omega) (by first | assumption | omega) (fun c16 => ?_) (fun c16 => ?_)
    · refine aw_aload_n (i := 0) (q := 0) dX6_dropEntry_39 rfl rfl ?_
      refine aw_dup dX6_dropEntry_40 rfl ?_
      refine aw_getIk (x := mi 1 12) 12 flX6_70 SH_1 (by decide) rfl rfl rfl dX6_dropEntry_41 (fun r41 => ?_)
      refine aw_iconst dX6_dropEntry_44 ?_
      refine aw_isub dX6_dropEntry_45 ?_
      refine aw_putIk 12 flX6_70 SH_1 (by decide) rfl rfl rfl (by first | assumption | omega) dX6_dropEntry_46 ?_
      refine aw_aload_n (i := 0) (q := 0) dX6_dropEntry_49 rfl rfl ?_
      refine aw_getR (r := 24) flX6_52 SH_1 (by decide) rfl (rk_1_7 hR) dX6_dropEntry_50 ?_
      refine aw_aload_n (i := 0) (q := 0) dX6_dropEntry_53 rfl rfl ?_
      refine aw_getIk (x := (mi 1 12) - 1) 12 flX6_70 SH_1 (by decide) rfl rfl (by (rw [aup_eq]) <;> rfl) dX6_dropEntry_54 (fun r54 => ?_)
      refine aw_aload_n (i := 2) (q := 2) dX6_dropEntry_57 rfl rfl ?_
      refine aw_aast SH_24 (by decide) (by decide) ⟨by omega, by omega⟩ (SH_en (hen.1 i (by omega) (by omega)).2) (ee_rng (hen.1 i (by omega) (by omega)).2) dX6_dropEntry_58 ?_
      exact aw_vret ⟨rfl, rfl, rfl, (fun a j h => by rw [aup_a h]; exact hf a j h), fun j j0 j1 => by unfold edr; by_cases e9 : j = mi 1 12 - 1; (subst e9; rw [aup_eq, if_neg (by omega), if_pos rfl]); (rw [aup_k e9, hE j j0 j1]; congr 1; unfold edz; by_cases q : i ≤ j ∧ j < z - 1; (rw [if_pos q, if_pos (by omega)]); (rw [if_neg q, if_neg (by omega), if_neg e9]))⟩ (Nat.le_refl _) (Nat.le_refl _) dX6_dropEntry_59
    · refine aw_aload_n (i := 0) (q := 0) dX6_dropEntry_19 rfl rfl ?_
      refine aw_getR (r := 24) flX6_52 SH_1 (by decide) rfl (rk_1_7 hR) dX6_dropEntry_20 ?_
      refine aw_iload_n (i := 3) (q := 3) dX6_dropEntry_23 rfl rfl ?_
      refine aw_iconst dX6_dropEntry_24 ?_
      refine aw_isub dX6_dropEntry_25 ?_
      refine aw_aload_n (i := 0) (q := 0) dX6_dropEntry_26 rfl rfl ?_
      refine aw_getR (r := 24) flX6_52 SH_1 (by decide) rfl (rk_1_7 hR) dX6_dropEntry_27 ?_
      refine aw_iload_n (i := 3) (q := 3) dX6_dropEntry_30 rfl rfl ?_
      refine aw_aald (r := edz i (z) E (z)) SH_24 (by decide) (by decide) ⟨by omega, by omega⟩ (hE (z) (by omega) (by omega)) dX6_dropEntry_31 ?_
      refine aw_aast SH_24 (by decide) (by decide) ⟨by omega, by omega⟩ (SH_en (edz_rng hen (by omega) (by omega) ⟨by omega, by omega⟩)) (ee_rng (edz_rng hen (by omega) (by omega) ⟨by omega, by omega⟩)) dX6_dropEntry_32 ?_
      refine aw_iinc (i := 3) (q := 3) (x := z) (lv' := [(0, .ref 1), (1, iI i), (2, .ref (E i)), (3, iI (z + 1))]) [1, 2, 3, 0] dX6_dropEntry_33 rfl (by decide) rfl ?_
      refine aw_goto (tgt := 11) dX6_dropEntry_36 (by decide) ?_
      exact ih _ (z + 1) (Rok_fr hR (fun a j h => aup_a h)) (fun a j h => by rw [aup_a h]; exact hf a j h) (fun j j0 j1 => by by_cases e9 : j = z - 1; (subst e9; rw [aup_eq]; congr 1; unfold edz; rw [if_neg (by omega), if_pos (by omega)]; congr 1; omega); (rw [aup_k e9, hE j j0 j1]; congr 1; unfold edz; by_cases q : i ≤ j ∧ j < z - 1; (rw [if_pos q, if_pos (by omega)]); (rw [if_neg q, if_neg (by omega)]))) (by omega) (by omega)
theorem s_X6_dropEntry {mr : aR} (hR : Rok mr) {mi : aM} {i : Int} {E : Int → Nat} (hen : enI mr E) (hi : 0 ≤ i ∧ i < mi 1 12) (hc : mi 1 12 ≤ 8) : SPg yX6_dropEntry cX6_dropEntry 4 none 1 [.ref 1, iI i] mi mr (Pgv (fun m r => m = aup mi 1 12 (mi 1 12 - 1) ∧ fr24 mr r ∧ ∀ j : Int, 0 ≤ j → j < 8 → r 24 j = some (edr i (mi 1 12) E j))) := by
  refine SPg.gvoid rfl (by decide +kernel) (Nat.le_of_ble_eq_true rfl) ?_
  show AWm RX6 cX6_dropEntry 4 1 _ 0 [(0, .ref 1), (1, iI i)] [] mi mr
  refine aw_aload_n (i := 0) (q := 0) dX6_dropEntry_0 rfl rfl ?_
  refine aw_getR (r := 24) flX6_52 SH_1 (by decide) rfl (rk_1_7 hR) dX6_dropEntry_1 ?_
  refine aw_iload_n (i := 1) (q := 1) dX6_dropEntry_4 rfl rfl ?_
  refine aw_aald (r := E i) SH_24 (by decide) (by decide) ⟨by omega, by omega⟩ (hen.1 (i) (by omega) (by omega)).1 dX6_dropEntry_5 ?_
  refine aw_astore_n (i := 2) (lv' := [(0, .ref 1), (1, iI i), (2, .ref (E i))]) [1, 2, 0] dX6_dropEntry_6 rfl (by decide) rfl ?_
  refine aw_iload_n (i := 1) (q := 1) dX6_dropEntry_7 rfl rfl ?_
  refine aw_iconst dX6_dropEntry_8 ?_
  refine aw_iadd dX6_dropEntry_9 ?_
  refine aw_istore_n (i := 3) (lv' := [(0, .ref 1), (1, iI i), (2, .ref (E i)), (3, iI (i + 1))]) [1, 2, 3, 0] dX6_dropEntry_10 rfl (by decide) rfl ?_
  exact l_drop hen hi hc ((mi 1 12).toNat + 1) mr (i + 1) hR (fun _ _ _ => rfl) (fun j j0 j1 => by rw [(hen.1 j j0 j1).1]; congr 1; unfold edz; rw [if_neg (by omega)]) (by omega) (by omega)
