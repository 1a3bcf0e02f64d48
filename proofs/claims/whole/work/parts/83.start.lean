-- part 83: the coupling behind the constructors (printed by wip/whole/gen/p83.py)
def mCL : List (Nat × Int × Int) := [(3, 0, 1), (3, 1, 0), (3, 2, 1), (3, 3, 10), (3, 4, 0), (3, 5, 0), (3, 6, 0), (3, 7, 0), (3, 8, 0), (3, 9, 1), (3, 10, 0), (3, 11, 0), (4, 3, 0), (4, 4, 0), (8, 4, 0), (13, 4, 0), (18, 1, 0), (18, 3, 0), (18, 4, 0), (18, 5, -1), (18, 6, 0), (18, 7, 0), (18, 8, 0), (1, 11, 0), (1, 12, 0), (1, 13, 0), (1, 14, 3), (1, 15, 2000), (1, 16, 0), (28, 0, 1), (28, 1, 0), (28, 2, 1), (28, 3, 10), (28, 4, 0), (28, 5, 0), (28, 6, 0), (28, 7, 0), (28, 8, 0), (28, 9, 1), (28, 10, 0), (28, 11, 0), (29, 0, 1), (29, 1, 0), (29, 2, 1), (29, 3, 10), (29, 4, 0), (29, 5, 0), (29, 6, 0), (29, 7, 0), (29, 8, 0), (29, 9, 1), (29, 10, 0), (29, 11, 0), (30, 0, 1), (30, 1, 0), (30, 2, 1), (30, 3, 10), (30, 4, 0), (30, 5, 0), (30, 6, 0), (30, 7, 0), (30, 8, 0), (30, 9, 1), (30, 10, 0), (30, 11, 0), (31, 0, 1), (31, 1, 0), (31, 2, 1), (31, 3, 10), (31, 4, 0), (31, 5, 0), (31, 6, 0), (31, 7, 0), (31, 8, 0), (31, 9, 1), (31, 10, 0), (31, 11, 0), (32, 0, 1), (32, 1, 0), (32, 2, 1), (32, 3, 10), (32, 4, 0), (32, 5, 0), (32, 6, 0), (32, 7, 0), (32, 8, 0), (32, 9, 1), (32, 10, 0), (32, 11, 0), (33, 0, 1), (33, 1, 0), (33, 2, 1), (33, 3, 10), (33, 4, 0), (33, 5, 0), (33, 6, 0), (33, 7, 0), (33, 8, 0), (33, 9, 1), (33, 10, 0), (33, 11, 0), (34, 0, 1), (34, 1, 0), (34, 2, 1), (34, 3, 10), (34, 4, 0), (34, 5, 0), (34, 6, 0), (34, 7, 0), (34, 8, 0), (34, 9, 1), (34, 10, 0), (34, 11, 0), (35, 0, 1), (35, 1, 0), (35, 2, 1), (35, 3, 10), (35, 4, 0), (35, 5, 0), (35, 6, 0), (35, 7, 0), (35, 8, 0), (35, 9, 1), (35, 10, 0), (35, 11, 0), (36, 0, 1), (36, 1, 0), (36, 2, 1), (36, 3, 10), (36, 4, 0), (36, 5, 0), (36, 6, 0), (36, 7, 0), (36, 8, 0), (36, 9, 1), (36, 10, 0), (36, 11, 0), (37, 0, 1), (37, 1, 0), (37, 2, 1), (37, 3, 10), (37, 4, 0), (37, 5, 0), (37, 6, 0), (37, 7, 0), (37, 8, 0), (37, 9, 1), (37, 10, 0), (37, 11, 0), (38, 0, 1), (38, 1, 0), (38, 2, 1), (38, 3, 10), (38, 4, 0), (38, 5, 0), (38, 6, 0), (38, 7, 0), (38, 8, 0), (38, 9, 1), (38, 10, 0), (38, 11, 0), (39, 0, 1), (39, 1, 0), (39, 2, 1), (39, 3, 10), (39, 4, 0), (39, 5, 0), (39, 6, 0), (39, 7, 0), (39, 8, 0), (39, 9, 1), (39, 10, 0), (39, 11, 0), (40, 1, 0), (42, 1, 0), (44, 1, 0), (46, 1, 0), (48, 1, 0), (50, 0, 0), (50, 1, 0), (50, 2, 0), (50, 3, 1), (50, 4, 0), (50, 5, -1), (51, 0, 0), (51, 1, 0), (51, 2, 0), (51, 3, 1), (51, 4, 0), (51, 5, -1), (52, 0, 0), (52, 1, 0), (52, 2, 0), (52, 3, 1), (52, 4, 0), (52, 5, -1), (53, 0, 0), (53, 1, 0), (53, 2, 0), (53, 3, 1), (53, 4, 0), (53, 5, -1), (54, 0, 0), (54, 1, 0), (54, 2, 0), (54, 3, 1), (54, 4, 0), (54, 5, -1), (55, 0, 0), (55, 1, 0), (55, 2, 0), (55, 3, 1), (55, 4, 0), (55, 5, -1), (56, 0, 0), (56, 1, 0), (56, 2, 0), (56, 3, 1), (56, 4, 0), (56, 5, -1), (57, 0, 0), (57, 1, 0), (57, 2, 0), (57, 3, 1), (57, 4, 0), (57, 5, -1), (58, 30, -1), (58, 7, 3), (58, 8, 2000)]
def aupL : List (Nat × Int × Int) → aM → aM
  | [], m => m
  | q :: L, m => aupL L (aup m q.1 q.2.1 q.2.2)
theorem aupL_a : ∀ (L : List (Nat × Int × Int)) (m : aM) (x : Nat) (j : Int), (∀ q ∈ L, q.1 ≠ x) → aupL L m x j = m x j
  | [], _, _, _, _ => rfl
  | q :: L, m, x, j, h => by
    show aupL L (aup m q.1 q.2.1 q.2.2) x j = m x j
    rw [aupL_a L _ x j (fun z hz => h z (List.mem_cons_of_mem _ hz)), aup_a (fun e => h q List.mem_cons_self e.symm)]
set_option maxRecDepth 100000 in
theorem mC1_eq : mC1 = aupL mCL mZ := rfl
theorem mC1_0 {x : Nat} (h : ∀ q ∈ mCL, q.1 ≠ x) (j : Int) : mC1 x j = 0 := by rw [mC1_eq, aupL_a _ _ _ _ h]; rfl
theorem mC1_bells : ∀ i : Nat, i < 12 → bOk mC1 (28 + i) ∧ mC1 (28 + i) 11 = 0 ∧ mC1 (28 + i) 6 = 0 ∧ mC1 (28 + i) 4 = 0 ∧ mC1 (28 + i) 5 = 0 := by
  unfold bOk
  decide +kernel
theorem mC1_pats : ∀ i : Nat, i < 5 → mC1 (40 + 2 * i) 1 = 0 := by decide +kernel
theorem mC1_one : mC1 1 11 = 0 ∧ mC1 1 12 = 0 ∧ mC1 1 13 = 0 ∧ mC1 1 14 = 3 ∧ mC1 1 15 = 2000 ∧ mC1 1 16 = 0 ∧ mC1 8 4 = 0 ∧ mC1 4 3 = 0 ∧ mC1 4 4 = 0 ∧ mC1 18 1 = 0 ∧ mC1 18 4 = 0 ∧ mC1 18 5 = -1 := by decide +kernel
theorem mC1_two : mC1 58 6 = 0 ∧ mC1 58 7 = 3 ∧ mC1 58 8 = 2000 ∧ mC1 58 9 = 0 ∧ mC1 58 13 = 0 ∧ mC1 58 18 = 0 ∧ mC1 58 23 = 0 ∧ mC1 58 29 = 0 ∧ mC1 58 30 = -1 ∧ mC1 58 42 = 0 ∧ mC1 58 43 = 0 := by decide +kernel
theorem mC1_hi : ∀ x : Nat, x < 100 → (5 ≤ x ∧ x ≤ 7) ∨ 59 ≤ x → ∀ q ∈ mCL, q.1 ≠ x := by decide +kernel
theorem mC1_h {x : Nat} (h : x < 100 ∧ ((5 ≤ x ∧ x ≤ 7) ∨ 59 ≤ x)) (j : Int) : mC1 x j = 0 := mC1_0 (mC1_hi x h.1 h.2) j
theorem KK_1 : KK mC1 mC1 (fun j => 50 + j.toNat) := by
  obtain ⟨a1, a2, a3, a4, a5, a6, a7, a8, a9, a10, a11, a12⟩ := mC1_one
  obtain ⟨b1, b2, b3, b4, b5, b6, b7, b8, b9, b10, b11⟩ := mC1_two
  have sl : sL mC1 8 = [] := by unfold sL; rw [a7]; rfl
  have ml : mL mC1 = [] := by unfold mL; rw [b6]; rfl
  have pt : ∀ w : Int, 0 ≤ w → w < 5 → mC1 (40 + 2 * w.toNat) 1 = 0 := fun w w0 w1 => mC1_pats w.toNat (by omega)
  refine ⟨⟨⟨⟨⟨by omega, by omega, fun i hi => ?_⟩, by omega, ⟨by omega, fun i i0 i1 => by omega, fun i j i0 i1 i2 => by omega⟩, fun w w0 w1 => ?_, by omega, fun j j0 j1 => by omega⟩, ⟨by omega, by omega⟩, by omega, fun i hi _ => (mC1_bells i hi).2.2.1⟩, by omega⟩, ⟨by omega, by omega, by omega, by omega, by omega, by omega⟩, fun b b0 b1 => ?_, ⟨?_, by omega, by omega, fun k k0 k1 => ?_⟩, ⟨?_, by omega, ?_, fun s hs => ?_⟩, fun w w0 w1 => ?_, fun j j0 j1 => by omega, ⟨by omega, by omega, by omega, by omega, fun j j0 j1 => by omega⟩, fun i i0 i1 => by omega, fun i i0 i1 => ?_⟩
  · obtain ⟨c1, c2, c3, -⟩ := mC1_bells i hi
    exact ⟨c1, by omega, fun q => absurd c3 q⟩
  · have e := pt w w0 w1
    exact ⟨by omega, fun k k0 k1 => by omega⟩
  · obtain ⟨c1, c2, c3, c4, c5⟩ := mC1_bells b.toNat (by omega)
    exact ⟨⟨by rw [c4]; exact mC1_h (by omega) b, by rw [c5]; exact mC1_h (by omega) b, by rw [c3]; exact mC1_h (by omega) b⟩, fun q => by omega⟩
  · rw [a8, b5]; rfl
  · rw [mC1_h (x := 64) (by omega) k, mC1_h (x := 65) (by omega) k, mC1_h (x := 66) (by omega) k, mC1_h (x := 5) (by omega) k, mC1_h (x := 6) (by omega) k, mC1_h (x := 7) (by omega) k]
    exact ⟨rfl, rfl, rfl, Or.inl rfl⟩
  · rw [sl, ml]
  · rw [sl]; trivial
  · rw [sl] at hs; cases hs
  · have e := pt w w0 w1
    exact ⟨by rw [e]; exact mC1_h (by omega) w, fun k k0 k1 => by omega⟩
  · rw [mC1_h (x := 88) (by omega) i, mC1_h (x := 89) (by omega) i, mC1_h (x := 91) (by omega) i, mC1_h (x := 92) (by omega) i]
    omega
theorem RS_1 : RS mC1 rC1 (fun j => 50 + j.toNat) := ⟨⟨Rok_1, enI_1, KK_1⟩, fun s hs => by
  have sl : sL mC1 8 = [] := by unfold sL; rw [mC1_one.2.2.2.2.2.2.1]; rfl
  rw [sl] at hs; cases hs⟩
