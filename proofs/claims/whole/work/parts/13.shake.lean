-- part 13: the shakes ahead, class side (printed by wip/whole/gen/p13.py)
def absI (x : Int) : Int := if x < 0 then -x else x
def mxA (f : Nat → Int) : Nat → Int
  | 0 => 0
  | n + 1 => if mxA f n < absI (f n) then absI (f n) else mxA f n
theorem mxA_nn (f : Nat → Int) (n : Nat) : 0 ≤ mxA f n := by
  induction n with
  | zero => exact Int.le_refl _
  | succ n ih => unfold mxA absI; split <;> (try split) <;> omega
theorem mxA_le {f : Nat → Int} {B : Int} (hB : 0 ≤ B) {n : Nat} (h : ∀ k, k < n → -B ≤ f k ∧ f k ≤ B) : mxA f n ≤ B := by
  induction n with
  | zero => exact hB
  | succ n ih =>
    have h1 := ih (fun k hk => h k (by omega))
    have h2 := h n (by omega)
    unfold mxA absI
    split <;> (try split) <;> omega
theorem mxA_congr {f g : Nat → Int} {n : Nat} (h : ∀ k, k < n → f k = g k) : mxA f n = mxA g n := by
  induction n with
  | zero => rfl
  | succ n ih => unfold mxA; rw [ih (fun k hk => h k (by omega)), h n (by omega)]
theorem mxA_mono (f : Nat → Int) {a b : Nat} (h : a ≤ b) : mxA f a ≤ mxA f b := by
  induction b with
  | zero => rw [show a = 0 by omega]; exact Int.le_refl _
  | succ b ih =>
    by_cases hb : a = b + 1
    · rw [hb]; exact Int.le_refl _
    · have h1 := ih (by omega)
      have : mxA f b ≤ mxA f (b + 1) := by show _ ≤ (if _ then _ else _); split <;> omega
      omega
theorem mxA_step {f : Nat → Int} {n : Nat} {g a r : Int} (hg : g = mxA f n) (ha : (a = f n ∧ 0 ≤ f n) ∨ (a = -(f n) ∧ f n < 0)) (hr : (r = g ∧ a ≤ g) ∨ (r = a ∧ g < a)) : r = mxA f (n + 1) := by
  subst hg
  unfold mxA absI
  split <;> split <;> omega
/-- the bells as they stand between calls and ticks -/
def cB (mi : aM) : Prop := (0 ≤ mi 1 11 ∧ mi 1 11 ≤ 12) ∧ (0 ≤ mi 1 13 ∧ mi 1 13 ≤ 100000) ∧ ∀ i : Nat, i < 12 → bOk mi (28 + i) ∧ mi (28 + i) 11 ≤ mi 1 13 ∧ (mi (28 + i) 6 ≠ 0 → mi 1 13 < mi (28 + i) 11 + mi (28 + i) 3)
def fKb (mi : aM) (i : Nat) (t : Int) (k : Nat) : Int := fK (mi (28 + i) 2) (mi (28 + i) 7) (mi (28 + i) 10) (mi (28 + i) 3) (bqOf mi (28 + i)) t k
def shC (mi : aM) (t : Int) (k : Nat) : Nat → Int
  | 0 => 0
  | n + 1 => shC mi t k n + fKb mi n t k
theorem fut_ok {mo ta hf t : Int} {q : bQ} (h : qOk q) (ht : 0 ≤ ta ∧ ta ≤ 1000) (k : Nat) : qOk (fut mo ta hf q t k) := by
  induction k with
  | zero => exact h
  | succ k ih => exact tkS_ok ih ht
theorem fut_win {mo ta hf t : Int} {q : bQ} (hh : 1 ≤ hf) (h : q.1 ≠ 0 → q.2.2.2 ≤ t ∧ t ≤ q.2.2.2 + hf) (k : Nat) : ((fut mo ta hf q t (k + 1)).1 ≠ 0 → (fut mo ta hf q t (k + 1)).2.2.2 ≤ t + k ∧ t + k < (fut mo ta hf q t (k + 1)).2.2.2 + hf) := by
  induction k with
  | zero => exact tkS_win hh (by simpa [fut] using h)
  | succ k ih =>
    refine tkS_win hh (fun h1 => ?_)
    have h2 := ih h1
    have e : ((k + 1 : Nat) : Int) = (k : Int) + 1 := rfl
    rw [e]
    omega
theorem fK_rng {w mo ta hf t : Int} {q : bQ} (hw : 1 ≤ w ∧ w ≤ 99) (hh : 10 ≤ hf ∧ hf ≤ 60) (hq : qOk q) (ht : 0 ≤ ta ∧ ta ≤ 1000) (h : q.1 ≠ 0 → q.2.2.2 ≤ t ∧ t ≤ q.2.2.2 + hf) (k : Nat) : -1000 ≤ fK w mo ta hf q t k ∧ fK w mo ta hf q t k ≤ 1000 :=
  fF_rng (fut_ok hq ht _) hw hh (fun h1 => by have := fut_win (by omega) h k h1; omega)
theorem fK_dead {w mo ta hf t : Int} {q : bQ} (h : q.1 = 0) (k : Nat) : fK w mo ta hf q t k = 0 := by
  have key : ∀ k, (fut mo ta hf q t k) = q := by
    intro k
    induction k with
    | zero => rfl
    | succ k ih =>
      show tkS _ _ _ _ (fut _ _ _ _ _ k) = q
      rw [ih]
      unfold tkS
      rw [if_neg (fun x => x.1 h)]
  unfold fK fF
  rw [key, if_pos h]
theorem bOk_q {mi : aM} {a : Nat} (h : bOk mi a) : qOk (bqOf mi a) := ⟨h.2.2.2.2.2.2.1, h.2.2.2.2.2.2.2.2.1, h.2.2.2.2.2.2.2.2.2.1⟩
theorem fKb_rng {mi : aM} (h : cB mi) {i : Nat} (hi : i < 12) (k : Nat) : -1000 ≤ fKb mi i (mi 1 13) k ∧ fKb mi i (mi 1 13) k ≤ 1000 := by
  obtain ⟨hb, h1, h2⟩ := h.2.2 i hi
  exact fK_rng hb.2.2.1 hb.2.2.2.1 (bOk_q hb) hb.2.2.2.2.2.2.2.2.2.2.1 (fun q => by have := h2 q; exact ⟨h1, by show _ ≤ mi (28 + i) 11 + _; omega⟩) k
theorem shC_rng {mi : aM} (h : cB mi) (k : Nat) : ∀ n : Nat, n ≤ 12 → -(1000 * (n : Int)) ≤ shC mi (mi 1 13) k n ∧ shC mi (mi 1 13) k n ≤ 1000 * (n : Int)
  | 0, _ => by simp [shC]
  | n + 1, hn => by
    have h1 := shC_rng h k n (by omega)
    have h2 := fKb_rng h (i := n) (by omega) k
    show -(1000 * ((n : Int) + 1)) ≤ shC mi (mi 1 13) k n + fKb mi n (mi 1 13) k ∧ _
    have e : shC mi (mi 1 13) k (n + 1) = shC mi (mi 1 13) k n + fKb mi n (mi 1 13) k := rfl
    rw [e]
    have e2 : ((n + 1 : Nat) : Int) = (n : Int) + 1 := rfl
    rw [e2]
    omega
theorem l_clear {mr : aR} (hR : Rok mr) {mi : aM} {r zr : Nat} (hsr : SH r = (1, zr)) (har : 0 < r ∧ r ≤ 94) (hzr : zr ≤ 1000) : ∀ (n : Nat) (m : aM) (z : Int), ((∀ j : Int, 0 ≤ j → j < z → m r j = 0) ∧ ∀ (x : Nat) (j : Int), (x ≠ r ∨ j < 0 ∨ zr ≤ j) → m x j = mi x j) → (0 ≤ z ∧ z ≤ zr) → zr - z < n → AWm RX6 cX6_clear 2 1 (Pv mr (fun m => (∀ j : Int, 0 ≤ j → j < zr → m r j = 0) ∧ ∀ (x : Nat) (j : Int), (x ≠ r ∨ j < 0 ∨ zr ≤ j) → m x j = mi x j)) 2 [(0, .ref r), (1, iI z)] [] m mr := by
  intro n
  induction n with
  | zero => intro m z h1 h2 h3; omega
  | succ n ih =>
    intro m z h1 h2 h3
    refine aw_iload_n (i := 1) (q := 1) dX6_clear_2 rfl rfl ?_
    refine aw_aload_n (i := 0) (q := 0) dX6_clear_3 rfl rfl ?_
    refine aw_alen0 hsr har dX6_clear_4 ?_
    refine aw_icmp_ge (tgt := 18) dX6_clear_5 (by decide) (by first | assumption | omega) (by first | assumption | omega) (fun c5 => ?_) (fun c5 => ?_)
    · exact aw_vret ⟨rfl, rfl, rfl, ⟨fun j a b => h1.1 j a (by omega), h1.2⟩⟩ (Nat.le_refl _) (Nat.le_refl _) dX6_clear_18
    · refine aw_aload_n (i := 0) (q := 0) dX6_clear_8 rfl rfl ?_
      refine aw_iload_n (i := 1) (q := 1) dX6_clear_9 rfl rfl ?_
      refine aw_iconst dX6_clear_10 ?_
      refine aw_iast hsr har ⟨by omega, by omega⟩ (by decide) dX6_clear_11 ?_
      refine aw_iinc (i := 1) (q := 1) (x := z) (lv' := [(0, .ref r), (1, iI (z + 1))]) [1, 0] dX6_clear_12 rfl (by decide) rfl ?_
      refine aw_goto (tgt := 2) dX6_clear_15 (by decide) ?_
      exact ih _ _ ⟨fun j a b => by by_cases hj : j = z; (subst hj; exact aup_eq _ _ _ _); (rw [aup_k hj]; exact h1.1 j a (by omega)), fun x j hx => by rw [show aup m r z 0 x j = m x j from by unfold aup; rw [if_neg (by omega)]]; exact h1.2 x j hx⟩ (by omega) (by omega)
theorem s_X6_clear {mr : aR} (hR : Rok mr) {mi : aM} {r zr : Nat} (hsr : SH r = (1, zr)) (har : 0 < r ∧ r ≤ 94) (hzr : zr ≤ 1000) : SPg yX6_clear cX6_clear 2 none 1 [.ref r] mi mr (Pv mr (fun m => (∀ j : Int, 0 ≤ j → j < zr → m r j = 0) ∧ ∀ (x : Nat) (j : Int), (x ≠ r ∨ j < 0 ∨ zr ≤ j) → m x j = mi x j)) := by
  refine SPg.void rfl (by decide +kernel) (Nat.le_of_ble_eq_true rfl) ?_
  show AWm RX6 cX6_clear 2 1 _ 0 [(0, .ref r)] [] mi mr
  refine aw_iconst dX6_clear_0 ?_
  refine aw_istore_n (i := 1) (lv' := [(0, .ref r), (1, iI 0)]) [1, 0] dX6_clear_1 rfl (by decide) rfl ?_
  exact l_clear hR hsr har hzr (zr + 1) _ 0 ⟨fun j a b => by omega, fun _ _ _ => rfl⟩ ⟨by omega, by omega⟩ (by omega)
/-- the row of shakes up to the tick last, of the bells below i -/
def fsI (mi m : aM) (last : Int) (i : Nat) : Prop := (∀ j : Int, 0 ≤ j → j ≤ last → m 25 j = shC mi (mi 1 13) j.toNat i) ∧ (∀ j : Int, last < j → j < 720 → m 25 j = 0) ∧ ∀ (x : Nat) (j : Int), x ≠ 25 → x ≠ 3 → m x j = mi x j
theorem fsI_row {mi m : aM} {last : Int} {i : Nat} (hc : cB mi) (hi : i ≤ 12) (h : fsI mi m last i) : ∀ j : Int, 0 ≤ j → j < 720 → -12000 ≤ m 25 j ∧ m 25 j ≤ 12000 := by
  intro j j0 j1
  by_cases hj : j ≤ last
  · rw [h.1 j j0 hj]
    have := shC_rng hc j.toNat i hi
    omega
  · rw [h.2.1 j (by omega) j1]
    omega
theorem fsI_next {mi m m1 m2 : aM} {last : Int} {i : Nat} (h : fsI mi m last i) (hi : i < 12) (hl : 0 ≤ last ∧ last < 720)
    (hcp : m1 3 2 = m (28 + i) 2 ∧ m1 3 3 = m (28 + i) 3 ∧ m1 3 6 = m (28 + i) 6 ∧ m1 3 7 = m (28 + i) 7 ∧ m1 3 8 = m (28 + i) 8 ∧ m1 3 9 = m (28 + i) 9 ∧ m1 3 10 = m (28 + i) 10 ∧ m1 3 11 = m (28 + i) 11 ∧ ∀ (x : Nat) (j : Int), (x ≠ 3 ∨ j = 0 ∨ j = 1 ∨ j = 4 ∨ j = 5) → m1 x j = m x j)
    (hf : aFI m1 m2 3 25 (mi 1 13) (last + 1) (last + 1).toNat) : fsI mi m2 last (i + 1) := by
  obtain ⟨c2, c3, c6, c7, c8, c9, c10, c11, cf⟩ := hcp
  have e : ∀ j : Int, m (28 + i) j = mi (28 + i) j := fun j => h.2.2 _ _ (by omega) (by omega)
  have hq : bqOf m1 3 = bqOf mi (28 + i) := by unfold bqOf; rw [c6, c8, c9, c11, e, e, e, e]
  obtain ⟨f1, f2, f3, f4, f5, f6, f7⟩ := hf
  rw [hq, c2, c3, c7, c10, e, e, e, e] at f4
  have hm : ∀ j : Int, m1 25 j = m 25 j := fun j => cf 25 j (Or.inl (by decide))
  refine ⟨fun j j0 j1 => ?_, fun j j0 j1 => ?_, fun x j hx hx2 => ?_⟩
  · rw [f4 j j0 (by omega), hm, h.1 j j0 j1]
    rfl
  · rw [f5 j (by omega), hm]
    exact h.2.1 j j0 j1
  · rw [f2 x j hx (Or.inl hx2), cf x j (Or.inl hx2)]
    exact h.2.2 x j hx hx2
theorem fsI_skip {mi m : aM} {last : Int} {i : Nat} (h : fsI mi m last i) (hd : mi (28 + i) 6 = 0) : fsI mi m last (i + 1) := by
  refine ⟨fun j j0 j1 => ?_, h.2.1, h.2.2⟩
  rw [h.1 j j0 j1]
  show _ = _ + fKb mi i (mi 1 13) j.toNat
  unfold fKb
  rw [fK_dead hd]
  omega
theorem l_foresee {mr : aR} (hR : Rok mr) {mi : aM} {last : Int} (hc : cB mi) (hl : 0 ≤ last ∧ last < 720) : ∀ (n : Nat) (m : aM) (z : Int) (i : Nat), fsI mi m last i → z = (i : Int) → (0 ≤ z ∧ z ≤ mi 1 11) → mi 1 11 - z < n → AWm RX6 cX6_foreseeShakes 3 4 (Pv mr (fun m => fsI mi m last (mi 1 11).toNat)) 9 [(0, .ref 1), (1, iI last), (2, iI z)] [] m mr := by
  intro n
  induction n with
  | zero => intro m z i h1 hz h2 h3; omega
  | succ n ih =>
    intro m z i h1 hz h2 h3
    have hI := h1
    have hfr := h1.2.2
    have e11 : m 1 11 = mi 1 11 := hfr 1 11 (by decide) (by decide)
    have e13 : m 1 13 = mi 1 13 := hfr 1 13 (by decide) (by decide)
    have hcc := hc
    obtain ⟨hc1, hc2, hc3⟩ := hc
    have hc := hcc
    have hzi : z.toNat = i := by omega
    refine aw_iload_n (i := 2) (q := 2) dX6_foreseeShakes_9 rfl rfl ?_
    refine aw_aload_n (i := 0) (q := 0) dX6_foreseeShakes_10 rfl rfl ?_
    refine aw_getIk (x := m 1 11) 11 flX6_66 SH_1 (by decide) rfl rfl rfl dX6_foreseeShakes_11 (fun r11 => ?_)
    refine aw_icmp_ge (tgt := 64) dX6_foreseeShakes_14 (by decide) (by first | assumption | omega) (by first | assumption | omega) (fun c14 => ?_) (fun c14 => ?_)
    · exact aw_vret ⟨rfl, rfl, rfl, (show fsI mi m last (mi 1 11).toNat from (show i = (mi 1 11).toNat by omega) ▸ hI)⟩ (Nat.le_refl _) (Nat.le_refl _) dX6_foreseeShakes_64
    · refine aw_aload_n (i := 0) (q := 0) dX6_foreseeShakes_17 rfl rfl ?_
      refine aw_getR (r := 2) flX6_11 SH_1 (by decide) rfl (rk_1_0 hR) dX6_foreseeShakes_18 ?_
      refine aw_iload_n (i := 2) (q := 2) dX6_foreseeShakes_21 rfl rfl ?_
      refine aw_aald (r := 28 + (z).toNat) SH_2 (by decide) (by decide) ⟨by omega, by omega⟩ (hR.2.1 _ (by omega) (by omega)) dX6_foreseeShakes_22 ?_
      refine aw_getIk (x := m (28 + (z).toNat) 6) 6 flX6_162 (SH_bell ⟨by omega, by omega⟩) ⟨by omega, by omega⟩ rfl rfl rfl dX6_foreseeShakes_23 (fun r23 => ?_)
      refine aw_if_eq (tgt := 58) dX6_foreseeShakes_26 (by decide) (by first | assumption | omega) (fun c26 => ?_) (fun c26 => ?_)
      · refine aw_iinc (i := 2) (q := 2) (x := z) (lv' := [(0, .ref 1), (1, iI last), (2, iI (z + 1))]) [1, 2, 0] dX6_foreseeShakes_58 rfl (by decide) rfl ?_
        refine aw_goto (tgt := 9) dX6_foreseeShakes_61 (by decide) ?_
        exact ih _ _ _ (fsI_skip hI (by have := hfr (28 + i) 6 (by omega) (by omega); rw [← hzi] at this ⊢; omega)) (by omega) (by omega) (by omega)
      · have hb6 : m (28 + z.toNat) 6 = 0 ∨ m (28 + z.toNat) 6 = 1 := by rw [hfr _ _ (by omega) (by omega)]; exact (hc3 z.toNat (by omega)).1.2.2.2.2.2.2.1
        have hb7 : m (28 + z.toNat) 7 = 0 ∨ m (28 + z.toNat) 7 = 1 := by rw [hfr _ _ (by omega) (by omega)]; exact (hc3 z.toNat (by omega)).1.2.2.2.2.2.2.2.1
        refine aw_aload_n (i := 0) (q := 0) dX6_foreseeShakes_29 rfl rfl ?_
        refine aw_getR (r := 3) flX6_16 SH_1 (by decide) rfl (rk_1_1 hR) dX6_foreseeShakes_30 ?_
        refine aw_aload_n (i := 0) (q := 0) dX6_foreseeShakes_33 rfl rfl ?_
        refine aw_getR (r := 2) flX6_11 SH_1 (by decide) rfl (rk_1_0 hR) dX6_foreseeShakes_34 ?_
        refine aw_iload_n (i := 2) (q := 2) dX6_foreseeShakes_37 rfl rfl ?_
        refine aw_aald (r := 28 + (z).toNat) SH_2 (by decide) (by decide) ⟨by omega, by omega⟩ (hR.2.1 _ (by omega) (by omega)) dX6_foreseeShakes_38 ?_
        refine aw_cVv (As := [.ref (28 + (z).toNat)]) (st := []) clX6_267 (s_X0_copyFrom hR SH_3 (by decide) (SH_bell ⟨by omega, by omega⟩) ⟨by omega, by omega⟩ (by omega) hb6 hb7) SH_3 rfl (by decide) rfl rfl (Nat.le_of_ble_eq_true rfl) (by decide) (by decide) (Nat.le_refl _) (Nat.le_refl _) dX6_foreseeShakes_39 (fun m1 hm1 => ?_)
        rw [hzi] at hm1
        obtain ⟨hbk, hl1, hw1⟩ := hc3 i (by omega)
        have e : ∀ j : Int, m (28 + i) j = mi (28 + i) j := fun j => hfr _ _ (by omega) (by omega)
        obtain ⟨c2, c3, c6, c7, c8, c9, c10, c11, cf⟩ := id hm1
        rw [e] at c2 c3 c6 c7 c8 c9 c10 c11
        have hn13 : m1 1 13 = mi 1 13 := by rw [cf 1 13 (Or.inl (by decide))]; exact e13
        obtain ⟨k0, k1, k2, k3, k4, k5, k6, k7, k8, k9, k10, k11⟩ := id hbk
        have hrw := fsI_row hc (by omega) hI
        have hP9 : aFP m1 3 25 720 (m1 1 13) := ⟨⟨SH_3, by decide⟩, ⟨SH_25, by decide⟩, by decide, ⟨by omega, by omega, by omega, by omega⟩, by omega, fun j j0 j1 => by rw [cf 25 j (Or.inl (by decide))]; have := hrw j j0 j1; omega⟩
        have hq9 : qOk (bqOf m1 3) := ⟨by show m1 3 6 = 0 ∨ m1 3 6 = 1; omega, by show 0 ≤ m1 3 8 ∧ m1 3 8 ≤ 1000; omega, by show m1 3 9 = 1 ∨ m1 3 9 = -1; omega⟩
        have hl9 : 0 ≤ m1 3 11 ∧ m1 3 11 ≤ 200000 := by omega
        have hw9 : m1 3 6 ≠ 0 → m1 3 11 ≤ m1 1 13 ∧ m1 1 13 ≤ m1 3 11 + m1 3 3 := fun q => by have := hw1 (by omega); omega
        refine aw_aload_n (i := 0) (q := 0) dX6_foreseeShakes_42 rfl rfl ?_
        refine aw_getR (r := 3) flX6_16 SH_1 (by decide) rfl (rk_1_1 hR) dX6_foreseeShakes_43 ?_
        refine aw_aload_n (i := 0) (q := 0) dX6_foreseeShakes_46 rfl rfl ?_
        refine aw_getR (r := 25) flX6_56 SH_1 (by decide) rfl (rk_1_8 hR) dX6_foreseeShakes_47 ?_
        refine aw_aload_n (i := 0) (q := 0) dX6_foreseeShakes_50 rfl rfl ?_
        refine aw_getIk (x := m1 1 13) 13 flX6_73 SH_1 (by decide) rfl rfl rfl dX6_foreseeShakes_51 (fun r51 => ?_)
        refine aw_iload_n (i := 1) (q := 1) dX6_foreseeShakes_54 rfl rfl ?_
        refine aw_cVv (As := [.ref 25, iI (m1 1 13), iI last]) (st := []) clX6_274 (s_X0_addForces (zr := 720) (mi := m1) hR hP9 (by omega) (by decide) hq9 hl9 hw9) SH_3 rfl (by decide) rfl rfl (Nat.le_of_ble_eq_true rfl) (by decide) (by decide) (Nat.le_refl _) (Nat.le_refl _) dX6_foreseeShakes_55 (fun m2 hm2 => ?_)
        rw [hn13] at hm2
        refine aw_iinc (i := 2) (q := 2) (x := z) (lv' := [(0, .ref 1), (1, iI last), (2, iI (z + 1))]) [1, 2, 0] dX6_foreseeShakes_58 rfl (by decide) rfl ?_
        refine aw_goto (tgt := 9) dX6_foreseeShakes_61 (by decide) ?_
        exact ih _ _ _ (fsI_next hI (by omega) (by omega) hm1 hm2) (by omega) (by omega) (by omega)
theorem s_X6_foreseeShakes {mr : aR} (hR : Rok mr) {mi : aM} {last : Int} (hc : cB mi) (hl : 0 ≤ last ∧ last < 720) : SPg yX6_foreseeShakes cX6_foreseeShakes 3 none 4 [.ref 1, iI last] mi mr (Pv mr (fun m => fsI mi m last (mi 1 11).toNat)) := by
  refine SPg.void rfl (by decide +kernel) (Nat.le_of_ble_eq_true rfl) ?_
  show AWm RX6 cX6_foreseeShakes 3 4 _ 0 [(0, .ref 1), (1, iI last)] [] mi mr
  refine aw_aload_n (i := 0) (q := 0) dX6_foreseeShakes_0 rfl rfl ?_
  refine aw_getR (r := 25) flX6_56 SH_1 (by decide) rfl (rk_1_8 hR) dX6_foreseeShakes_1 ?_
  refine aw_cSv (As := [.ref 25]) (st := []) clX6_299 (s_X6_clear hR SH_25 (by decide) (by decide)) rfl rfl (Nat.le_of_ble_eq_true rfl) (by decide) (by decide) (Nat.le_refl _) (Nat.le_refl _) dX6_foreseeShakes_4 (fun m0 hm0 => ?_)
  refine aw_iconst dX6_foreseeShakes_7 ?_
  refine aw_istore_n (i := 2) (lv' := [(0, .ref 1), (1, iI last), (2, iI 0)]) [1, 2, 0] dX6_foreseeShakes_8 rfl (by decide) rfl ?_
  have h0 : fsI mi m0 last 0 := ⟨fun j j0 j1 => by rw [hm0.1 j j0 (by omega)]; rfl, fun j j0 j1 => hm0.1 j (by omega) j1, fun x j hx _ => hm0.2 x j (Or.inl hx)⟩
  have hc1 := hc.1
  exact l_foresee hR hc hl ((mi 1 11).toNat + 1) m0 0 0 h0 rfl (by omega) (by omega)
theorem l_greatest {mr : aR} (hR : Rok mr) {mi : aM} {last : Int} (hl : 0 ≤ last ∧ last < 720) (hrow : ∀ j : Int, 0 ≤ j → j < 720 → -100000 ≤ mi 25 j ∧ mi 25 j ≤ 100000) : ∀ (n : Nat) (g z : Int) (i : Nat), g = mxA (fun k => mi 25 k) i → z = (i : Int) → (0 ≤ z ∧ z ≤ last + 1) → last + 1 - z < n → AWm RX6 cX6_greatestUpTo 4 1 (Pp mi mr (fun r => r = mxA (fun k => mi 25 k) (last + 1).toNat)) 4 [(0, .ref 1), (1, iI last), (2, iI g), (3, iI z)] [] mi mr := by
  intro n
  induction n with
  | zero => intro g z i hg hz h2 h3; omega
  | succ n ih =>
    intro g z i hg hz h2 h3
    have hg0 := mxA_nn (fun k => mi 25 k) i
    have hg1 := mxA_le (f := fun k => mi 25 k) (B := 100000) (by decide) (n := i) (fun k hk => hrow k (by omega) (by omega))
    refine aw_iload_n (i := 3) (q := 3) dX6_greatestUpTo_4 rfl rfl ?_
    refine aw_iload_n (i := 1) (q := 1) dX6_greatestUpTo_5 rfl rfl ?_
    refine aw_icmp_gt (tgt := 38) dX6_greatestUpTo_6 (by decide) (by first | assumption | omega) (by first | assumption | omega) (fun c6 => ?_) (fun c6 => ?_)
    · refine aw_iload_n (i := 2) (q := 2) dX6_greatestUpTo_38 rfl rfl ?_
      exact aw_iret ⟨_, rfl, rfl, rfl, rfl, ((show i = (last + 1).toNat by omega) ▸ hg)⟩ (Nat.le_refl _) (Nat.le_refl _) dX6_greatestUpTo_39
    · have hr9 := hrow z (by omega) (by omega)
      refine aw_iload_n (i := 3) (q := 3) dX6_greatestUpTo_9 rfl rfl ?_
      refine aw_aload_n (i := 0) (q := 0) dX6_greatestUpTo_10 rfl rfl ?_
      refine aw_getR (r := 25) flX6_56 SH_1 (by decide) rfl (rk_1_8 hR) dX6_greatestUpTo_11 ?_
      refine aw_alen0 SH_25 (by decide) dX6_greatestUpTo_14 ?_
      refine aw_icmp_ge (tgt := 38) dX6_greatestUpTo_15 (by decide) (by first | assumption | omega) (by decide) (fun c15 => ?_) (fun c15 => ?_)
      · refine aw_iload_n (i := 2) (q := 2) dX6_greatestUpTo_38 rfl rfl ?_
        exact aw_iret ⟨_, rfl, rfl, rfl, rfl, ((show i = (last + 1).toNat by omega) ▸ hg)⟩ (Nat.le_refl _) (Nat.le_refl _) dX6_greatestUpTo_39
      · refine aw_iload_n (i := 2) (q := 2) dX6_greatestUpTo_18 rfl rfl ?_
        refine aw_aload_n (i := 0) (q := 0) dX6_greatestUpTo_19 rfl rfl ?_
        refine aw_getR (r := 25) flX6_56 SH_1 (by decide) rfl (rk_1_8 hR) dX6_greatestUpTo_20 ?_
        refine aw_iload_n (i := 3) (q := 3) dX6_greatestUpTo_23 rfl rfl ?_
        refine aw_ialdv (x := mi 25 z) SH_25 (by decide) ⟨by omega, by omega⟩ rfl dX6_greatestUpTo_24 (fun r24 => ?_)
        refine aw_mabs (x := mi 25 z) (st := [iI g]) (by omega) clX6_347 (Nat.le_of_ble_eq_true rfl) (by decide) (Nat.le_refl _) (Nat.le_refl _) dX6_greatestUpTo_25 (fun m25 hm25 => ?_)
        refine aw_mmax (x := g) (st := []) (by omega) (by omega) clX6_236 (Nat.le_of_ble_eq_true rfl) (by decide) (Nat.le_refl _) (Nat.le_refl _) dX6_greatestUpTo_28 (fun m28 hm28 => ?_)
        refine aw_istore_n (i := 2) (lv' := [(0, .ref 1), (1, iI last), (2, iI m28), (3, iI z)]) [1, 2, 0, 3] dX6_greatestUpTo_31 rfl (by decide) rfl ?_
        refine aw_iinc (i := 3) (q := 3) (x := z) (lv' := [(0, .ref 1), (1, iI last), (2, iI m28), (3, iI (z + 1))]) [1, 2, 3, 0] dX6_greatestUpTo_32 rfl (by decide) rfl ?_
        refine aw_goto (tgt := 4) dX6_greatestUpTo_35 (by decide) ?_
        exact ih _ _ (i + 1) (mxA_step hg (by rw [← hz]; exact hm25) hm28) (by omega) (by omega) (by omega)
theorem s_X6_greatestUpTo {mr : aR} (hR : Rok mr) {mi : aM} {last : Int} (hl : 0 ≤ last ∧ last < 720) (hrow : ∀ j : Int, 0 ≤ j → j < 720 → -100000 ≤ mi 25 j ∧ mi 25 j ≤ 100000) : SPg yX6_greatestUpTo cX6_greatestUpTo 4 (some .int) 1 [.ref 1, iI last] mi mr (Pp mi mr (fun r => r = mxA (fun k => mi 25 k) (last + 1).toNat)) := by
  refine SPg.pure rfl (by decide +kernel) (Nat.le_of_ble_eq_true rfl) ?_
  show AWm RX6 cX6_greatestUpTo 4 1 _ 0 [(0, .ref 1), (1, iI last)] [] mi mr
  refine aw_iconst dX6_greatestUpTo_0 ?_
  refine aw_istore_n (i := 2) (lv' := [(0, .ref 1), (1, iI last), (2, iI 0)]) [1, 2, 0] dX6_greatestUpTo_1 rfl (by decide) rfl ?_
  refine aw_iconst dX6_greatestUpTo_2 ?_
  refine aw_istore_n (i := 3) (lv' := [(0, .ref 1), (1, iI last), (2, iI 0), (3, iI 0)]) [1, 2, 3, 0] dX6_greatestUpTo_3 rfl (by decide) rfl ?_
  exact l_greatest hR hl hrow (last.toNat + 2) 0 0 0 rfl rfl (by omega) (by omega)
theorem l_gstart {mr : aR} (hR : Rok mr) {mi : aM} {wait bound : Int} (hwt : 0 ≤ wait ∧ wait < 120) (h_bound : 0 ≤ bound ∧ bound ≤ 2000000) (hrow : ∀ j : Int, 0 ≤ j → j < 720 → -100000 ≤ mi 25 j ∧ mi 25 j ≤ 100000) (hrs : ∀ j : Int, 0 ≤ j → j < 601 → -100000 ≤ mi 26 j ∧ mi 26 j ≤ 100000) : ∀ (n : Nat) (g z : Int) (i : Nat), g = mxA (fun k => mi 25 (wait + k) + mi 26 k) i → z = (i : Int) → (0 ≤ z ∧ z ≤ 601) → 601 - z < n → AWm RX6 cX6_greatestIfStartedAfter 6 1 (Pp mi mr (fun r => (r = mxA (fun k => mi 25 (wait + k) + mi 26 k) 601 ∧ r < bound) ∨ ((bound ≤ r ∧ r ≤ 2000000) ∧ bound ≤ mxA (fun k => mi 25 (wait + k) + mi 26 k) 601))) 22 [(0, .ref 1), (1, iI wait), (2, iI bound), (3, iI g), (4, iI 601), (5, iI z)] [] mi mr := by
  intro n
  induction n with
  | zero => intro g z i hg hz h2 h3; omega
  | succ n ih =>
    intro g z i hg hz h2 h3
    have hg0 := mxA_nn (fun k => mi 25 (wait + k) + mi 26 k) i
    have hg1 := mxA_le (f := fun k => mi 25 (wait + k) + mi 26 k) (B := 200000) (by decide) (n := i) (fun k hk => by have a1 := hrow (wait + k) (by omega) (by omega); have a2 := hrs k (by omega) (by omega); omega)
    have hg2 := mxA_mono (fun k => mi 25 (wait + k) + mi 26 k) (show i ≤ 601 by omega)
    refine aw_iload (i := 5) (q := 5) dX6_greatestIfStartedAfter_22 rfl ?_
    refine aw_iload (i := 4) (q := 4) dX6_greatestIfStartedAfter_24 rfl ?_
    refine aw_icmp_ge (tgt := 65) dX6_greatestIfStartedAfter_26 (by decide) (by first | assumption | omega) (by decide) (fun c26 => ?_) (fun c26 => ?_)
    · refine aw_iload_n (i := 3) (q := 3) dX6_greatestIfStartedAfter_65 rfl rfl ?_
      exact aw_iret ⟨_, rfl, rfl, rfl, rfl, (by by_cases hi : i = 601; (subst hi; omega); (exact Or.inr ⟨by omega, by omega⟩))⟩ (Nat.le_refl _) (Nat.le_refl _) dX6_greatestIfStartedAfter_66
    · have hr9 := hrow (wait + z) (by omega) (by omega)
      have hr8 := hrs z (by omega) (by omega)
      refine aw_iload_n (i := 3) (q := 3) dX6_greatestIfStartedAfter_29 rfl rfl ?_
      refine aw_iload_n (i := 2) (q := 2) dX6_greatestIfStartedAfter_30 rfl rfl ?_
      refine aw_icmp_ge (tgt := 65) dX6_greatestIfStartedAfter_31 (by decide) (by first | assumption | omega) (by first | assumption | omega) (fun c31 => ?_) (fun c31 => ?_)
      · refine aw_iload_n (i := 3) (q := 3) dX6_greatestIfStartedAfter_65 rfl rfl ?_
        exact aw_iret ⟨_, rfl, rfl, rfl, rfl, (by by_cases hi : i = 601; (subst hi; omega); (exact Or.inr ⟨by omega, by omega⟩))⟩ (Nat.le_refl _) (Nat.le_refl _) dX6_greatestIfStartedAfter_66
      · refine aw_iload_n (i := 3) (q := 3) dX6_greatestIfStartedAfter_34 rfl rfl ?_
        refine aw_aload_n (i := 0) (q := 0) dX6_greatestIfStartedAfter_35 rfl rfl ?_
        refine aw_getR (r := 25) flX6_56 SH_1 (by decide) rfl (rk_1_8 hR) dX6_greatestIfStartedAfter_36 ?_
        refine aw_iload_n (i := 1) (q := 1) dX6_greatestIfStartedAfter_39 rfl rfl ?_
        refine aw_iload (i := 5) (q := 5) dX6_greatestIfStartedAfter_40 rfl ?_
        refine aw_iadd dX6_greatestIfStartedAfter_42 ?_
        refine aw_ialdv (x := mi 25 (wait + z)) SH_25 (by decide) ⟨by omega, by omega⟩ rfl dX6_greatestIfStartedAfter_43 (fun r43 => ?_)
        refine aw_aload_n (i := 0) (q := 0) dX6_greatestIfStartedAfter_44 rfl rfl ?_
        refine aw_getR (r := 26) flX6_60 SH_1 (by decide) rfl (rk_1_9 hR) dX6_greatestIfStartedAfter_45 ?_
        refine aw_iload (i := 5) (q := 5) dX6_greatestIfStartedAfter_48 rfl ?_
        refine aw_ialdv (x := mi 26 z) SH_26 (by decide) ⟨by omega, by omega⟩ rfl dX6_greatestIfStartedAfter_50 (fun r50 => ?_)
        refine aw_iadd dX6_greatestIfStartedAfter_51 ?_
        refine aw_mabs (x := (mi 25 (wait + z)) + (mi 26 z)) (st := [iI g]) (by omega) clX6_347 (Nat.le_of_ble_eq_true rfl) (by decide) (Nat.le_refl _) (Nat.le_refl _) dX6_greatestIfStartedAfter_52 (fun m52 hm52 => ?_)
        refine aw_mmax (x := g) (st := []) (by omega) (by omega) clX6_236 (Nat.le_of_ble_eq_true rfl) (by decide) (Nat.le_refl _) (Nat.le_refl _) dX6_greatestIfStartedAfter_55 (fun m55 hm55 => ?_)
        refine aw_istore_n (i := 3) (lv' := [(0, .ref 1), (1, iI wait), (2, iI bound), (3, iI m55), (4, iI 601), (5, iI z)]) [1, 2, 3, 0, 4, 5] dX6_greatestIfStartedAfter_58 rfl (by decide) rfl ?_
        refine aw_iinc (i := 5) (q := 5) (x := z) (lv' := [(0, .ref 1), (1, iI wait), (2, iI bound), (3, iI m55), (4, iI 601), (5, iI (z + 1))]) [1, 2, 3, 4, 5, 0] dX6_greatestIfStartedAfter_59 rfl (by decide) rfl ?_
        refine aw_goto (tgt := 22) dX6_greatestIfStartedAfter_62 (by decide) ?_
        exact ih _ _ (i + 1) (mxA_step hg (by rw [← hz]; exact hm52) hm55) (by omega) (by omega) (by omega)
theorem s_X6_greatestIfStartedAfter {mr : aR} (hR : Rok mr) {mi : aM} {wait bound : Int} (hwt : 0 ≤ wait ∧ wait < 120) (h_bound : 0 ≤ bound ∧ bound ≤ 2000000) (hrow : ∀ j : Int, 0 ≤ j → j < 720 → -100000 ≤ mi 25 j ∧ mi 25 j ≤ 100000) (hrs : ∀ j : Int, 0 ≤ j → j < 601 → -100000 ≤ mi 26 j ∧ mi 26 j ≤ 100000) : SPg yX6_greatestIfStartedAfter cX6_greatestIfStartedAfter 6 (some .int) 1 [.ref 1, iI wait, iI bound] mi mr (Pp mi mr (fun r => (r = mxA (fun k => mi 25 (wait + k) + mi 26 k) 601 ∧ r < bound) ∨ ((bound ≤ r ∧ r ≤ 2000000) ∧ bound ≤ mxA (fun k => mi 25 (wait + k) + mi 26 k) 601))) := by
  refine SPg.pure rfl (by decide +kernel) (Nat.le_of_ble_eq_true rfl) ?_
  show AWm RX6 cX6_greatestIfStartedAfter 6 1 _ 0 [(0, .ref 1), (1, iI wait), (2, iI bound)] [] mi mr
  refine aw_iconst dX6_greatestIfStartedAfter_0 ?_
  refine aw_istore_n (i := 3) (lv' := [(0, .ref 1), (1, iI wait), (2, iI bound), (3, iI 0)]) [1, 2, 3, 0] dX6_greatestIfStartedAfter_1 rfl (by decide) rfl ?_
  refine aw_aload_n (i := 0) (q := 0) dX6_greatestIfStartedAfter_2 rfl rfl ?_
  refine aw_getR (r := 26) flX6_60 SH_1 (by decide) rfl (rk_1_9 hR) dX6_greatestIfStartedAfter_3 ?_
  refine aw_alen0 SH_26 (by decide) dX6_greatestIfStartedAfter_6 ?_
  refine aw_aload_n (i := 0) (q := 0) dX6_greatestIfStartedAfter_7 rfl rfl ?_
  refine aw_getR (r := 25) flX6_56 SH_1 (by decide) rfl (rk_1_8 hR) dX6_greatestIfStartedAfter_8 ?_
  refine aw_alen0 SH_25 (by decide) dX6_greatestIfStartedAfter_11 ?_
  refine aw_iload_n (i := 1) (q := 1) dX6_greatestIfStartedAfter_12 rfl rfl ?_
  refine aw_isub dX6_greatestIfStartedAfter_13 ?_
  refine aw_mmin (x := 601) (st := []) (by omega) (by omega) clX6_170 (Nat.le_of_ble_eq_true rfl) (by decide) (Nat.le_refl _) (Nat.le_refl _) dX6_greatestIfStartedAfter_14 (fun m14 hm14 => ?_)
  have e601 : m14 = 601 := by omega
  subst e601
  refine aw_istore (i := 4) (lv' := [(0, .ref 1), (1, iI wait), (2, iI bound), (3, iI 0), (4, iI 601)]) [1, 2, 3, 4, 0] dX6_greatestIfStartedAfter_17 (by decide) rfl ?_
  refine aw_iconst dX6_greatestIfStartedAfter_19 ?_
  refine aw_istore (i := 5) (lv' := [(0, .ref 1), (1, iI wait), (2, iI bound), (3, iI 0), (4, iI 601), (5, iI 0)]) [1, 2, 3, 4, 5, 0] dX6_greatestIfStartedAfter_20 (by decide) rfl ?_
  exact l_gstart hR hwt h_bound hrow hrs 602 0 0 0 rfl rfl (by omega) (by omega)
