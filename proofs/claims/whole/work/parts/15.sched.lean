-- part 15: the schedule of strokes, its questions (printed by wip/whole/gen/p15.py)
/-- a schedule's numbers: a + 1 bells, a + 2 commands, a + 3 times; strictly in the order of commands, then bells -/
def sOk (mi : aM) (a : Nat) : Prop := (0 ≤ mi a 4 ∧ mi a 4 ≤ 300) ∧ (∀ i : Int, 0 ≤ i → i < mi a 4 → (0 ≤ mi (a + 1) i ∧ mi (a + 1) i < 12) ∧ (-1000 ≤ mi (a + 2) i ∧ mi (a + 2) i ≤ 200000) ∧ (mi (a + 2) i < mi (a + 3) i ∧ mi (a + 3) i ≤ mi (a + 2) i + 50)) ∧ (∀ i j : Int, 0 ≤ i → i < j → j < mi a 4 → mi (a + 2) i < mi (a + 2) j ∨ (mi (a + 2) i = mi (a + 2) j ∧ mi (a + 1) i < mi (a + 1) j))
theorem sOk_mono {mi : aM} {a : Nat} (h : sOk mi a) {i j : Int} (h0 : 0 ≤ i) (h1 : i ≤ j) (h2 : j < mi a 4) : mi (a + 2) i ≤ mi (a + 2) j := by
  by_cases e : i = j
  · rw [e]; exact Int.le_refl _
  · have := h.2.2 i j h0 (by omega) h2
    omega
/-- how many of the first n strokes move at the tick t -/
def covI (mi : aM) (a : Nat) (t : Int) : Nat → Int
  | 0 => 0
  | n + 1 => covI mi a t n + (if mi (a + 2) n ≤ t ∧ t < mi (a + 3) n then 1 else 0)
theorem covI_rng (mi : aM) (a : Nat) (t : Int) (n : Nat) : 0 ≤ covI mi a t n ∧ covI mi a t n ≤ n := by
  induction n with
  | zero => exact ⟨Int.le_refl _, Int.le_refl _⟩
  | succ n ih =>
    have e : covI mi a t (n + 1) = covI mi a t n + (if mi (a + 2) n ≤ t ∧ t < mi (a + 3) n then 1 else 0) := rfl
    rw [e]
    have e2 : ((n + 1 : Nat) : Int) = (n : Int) + 1 := rfl
    rw [e2]
    split <;> omega
theorem covI_none {mi : aM} {a : Nat} {t : Int} {n k : Nat} (hk : n ≤ k) (h : ∀ i : Nat, n ≤ i → i < k → ¬ (mi (a + 2) i ≤ t ∧ t < mi (a + 3) i)) : covI mi a t k = covI mi a t n := by
  induction k with
  | zero => rw [show n = 0 by omega]
  | succ k ih =>
    by_cases e : n = k + 1
    · rw [e]
    · have h1 := ih (by omega) (fun i a b => h i a (by omega))
      show covI mi a t k + _ = _
      rw [if_neg (h k (by omega) (by omega)), h1, Int.add_zero]
theorem covI_congr {mi m : aM} {a : Nat} {t : Int} (h : ∀ i : Int, m (a + 2) i = mi (a + 2) i ∧ m (a + 3) i = mi (a + 3) i) (n : Nat) : covI m a t n = covI mi a t n := by
  induction n with
  | zero => rfl
  | succ n ih => unfold covI; rw [ih, (h n).1, (h n).2]
def psum (f : Int → Int) : Nat → Int
  | 0 => f 0
  | k + 1 => psum f k + f ((k : Int) + 1)
theorem psum_add {f g : Int → Int} {j v : Int} (hj : 0 ≤ j) (h : ∀ x : Int, g x = if x = j then f x + v else f x) (k : Nat) : psum g k = psum f k + (if j ≤ k then v else 0) := by
  induction k with
  | zero =>
    show g 0 = f 0 + _
    rw [h 0]
    by_cases e : (0 : Int) = j
    · subst e; simp
    · rw [if_neg e, if_neg (by omega)]; omega
  | succ k ih =>
    show psum g k + g _ = psum f k + f _ + _
    rw [ih, h]
    have e2 : ((k + 1 : Nat) : Int) = (k : Int) + 1 := rfl
    rw [e2]
    by_cases e : (k : Int) + 1 = j
    · rw [if_pos e, if_neg (by omega), if_pos (by omega)]; omega
    · rw [if_neg e]
      by_cases e3 : j ≤ (k : Int)
      · rw [if_pos e3, if_pos (by omega)]; omega
      · rw [if_neg e3, if_neg (by omega)]; omega
theorem psum_zero {f : Int → Int} {k : Nat} (h : ∀ x : Int, 0 ≤ x → x ≤ k → f x = 0) : psum f k = 0 := by
  induction k with
  | zero => exact h 0 (by omega) (by omega)
  | succ k ih =>
    show psum f k + f _ = 0
    rw [ih (fun x a b => h x a (by omega)), h _ (by omega) (by omega)]
    rfl
theorem zdiv {z : Int} (h : z = 256 ∨ z = 128 ∨ z = 64 ∨ z = 32 ∨ z = 16 ∨ z = 8 ∨ z = 4 ∨ z = 2 ∨ z = 1 ∨ z = 0) : (z = 1 ∧ z.tdiv 2 = 0) ∨ (z ≠ 1 ∧ 2 * z.tdiv 2 = z) := by
  rcases h with rfl | rfl | rfl | rfl | rfl | rfl | rfl | rfl | rfl | rfl <;> decide
theorem l_rankOf {mr : aR} (hR : Rok mr) {mi : aM} {a : Nat} (hs : isS a) (ho : sOk mi a) {c : Int} (h_c : -2147483648 ≤ c ∧ c ≤ 2147483647) : ∀ (n : Nat) (g z : Int), (z = 256 ∨ z = 128 ∨ z = 64 ∨ z = 32 ∨ z = 16 ∨ z = 8 ∨ z = 4 ∨ z = 2 ∨ z = 1 ∨ z = 0) → (0 ≤ g ∧ g ≤ mi a 4) → (∀ i : Int, 0 ≤ i → i < g → mi (a + 2) i < c) → (∀ i : Int, g + 2 * z - 1 ≤ i → (z = 0 → g ≤ i) → 0 ≤ i → i < mi a 4 → c ≤ mi (a + 2) i) → z < n → AWm RX4 cX4_rankOf 4 1 (Pp mi mr (fun r => (0 ≤ r ∧ r ≤ mi a 4) ∧ (∀ i : Int, 0 ≤ i → i < r → mi (a + 2) i < c) ∧ (∀ i : Int, r ≤ i → i < mi a 4 → c ≤ mi (a + 2) i))) 6 [(0, .ref a), (1, iI c), (2, iI g), (3, iI z)] [] mi mr := by
  intro n
  induction n with
  | zero => intro g z h1 h2 h3 h4 h5; omega
  | succ n ih =>
    intro g z h1 h2 h3 h4 h5
    have hc1 := ho.1
    refine aw_iload_n (i := 3) (q := 3) dX4_rankOf_6 rfl rfl ?_
    refine aw_if_le (tgt := 45) dX4_rankOf_7 (by decide) (by first | assumption | omega) (fun c7 => ?_) (fun c7 => ?_)
    · refine aw_iload_n (i := 2) (q := 2) dX4_rankOf_45 rfl rfl ?_
      exact aw_iret ⟨_, rfl, rfl, rfl, rfl, ⟨h2, h3, fun i x1 x2 => h4 i (by omega) (fun _ => x1) (by omega) x2⟩⟩ (Nat.le_refl _) (Nat.le_refl _) dX4_rankOf_46
    · refine aw_iload_n (i := 2) (q := 2) dX4_rankOf_10 rfl rfl ?_
      refine aw_iload_n (i := 3) (q := 3) dX4_rankOf_11 rfl rfl ?_
      refine aw_iadd dX4_rankOf_12 ?_
      refine aw_aload_n (i := 0) (q := 0) dX4_rankOf_13 rfl rfl ?_
      refine aw_getIk (x := mi a 4) 4 flX4_24 (isS_SH hs).1 (isS_ok hs).1 rfl rfl rfl dX4_rankOf_14 (fun r14 => ?_)
      refine aw_icmp_gt (tgt := 38) dX4_rankOf_17 (by decide) (by first | assumption | omega) (by first | assumption | omega) (fun c17 => ?_) (fun c17 => ?_)
      · refine aw_iload_n (i := 3) (q := 3) dX4_rankOf_38 rfl rfl ?_
        refine aw_iconst dX4_rankOf_39 ?_
        refine aw_idiv dX4_rankOf_40 (by first | assumption | omega) (by decide) (by omega) (by omega) ?_
        refine aw_istore_n (i := 3) (lv' := [(0, .ref a), (1, iI c), (2, iI g), (3, iI (z.tdiv 2))]) [1, 2, 3, 0] dX4_rankOf_41 rfl (by decide) rfl ?_
        refine aw_goto (tgt := 6) dX4_rankOf_42 (by decide) ?_
        exact ih _ _ (by rcases h1 with rfl | rfl | rfl | rfl | rfl | rfl | rfl | rfl | rfl | rfl <;> first | decide | omega) (by omega) h3 (fun i x1 x3 x2 x4 => by have e := zdiv h1; by_cases hi : mi a 4 < g + z; (exact h4 i (by omega) (fun _ => by omega) x2 x4); (have hm := sOk_mono ho (i := g + z - 1) (j := i) (by omega) (by omega) x4; omega)) (by have e := zdiv h1; omega)
      · refine aw_aload_n (i := 0) (q := 0) dX4_rankOf_20 rfl rfl ?_
        refine aw_getR (r := a + 2) flX4_15 (isS_SH hs).1 (isS_ok hs).1 rfl (isS_rf hs hR).2.1 dX4_rankOf_21 ?_
        refine aw_iload_n (i := 2) (q := 2) dX4_rankOf_24 rfl rfl ?_
        refine aw_iload_n (i := 3) (q := 3) dX4_rankOf_25 rfl rfl ?_
        refine aw_iadd dX4_rankOf_26 ?_
        refine aw_iconst dX4_rankOf_27 ?_
        refine aw_isub dX4_rankOf_28 ?_
        refine aw_ialdv (x := mi (a + 2) ((g + z) - 1)) (isS_SH hs).2.2.1 (isS_ok hs).2.2.1 ⟨by omega, by omega⟩ rfl dX4_rankOf_29 (fun r29 => ?_)
        refine aw_iload_n (i := 1) (q := 1) dX4_rankOf_30 rfl rfl ?_
        refine aw_icmp_ge (tgt := 38) dX4_rankOf_31 (by decide) (by first | assumption | omega) (by first | assumption | omega) (fun c31 => ?_) (fun c31 => ?_)
        · refine aw_iload_n (i := 3) (q := 3) dX4_rankOf_38 rfl rfl ?_
          refine aw_iconst dX4_rankOf_39 ?_
          refine aw_idiv dX4_rankOf_40 (by first | assumption | omega) (by decide) (by omega) (by omega) ?_
          refine aw_istore_n (i := 3) (lv' := [(0, .ref a), (1, iI c), (2, iI g), (3, iI (z.tdiv 2))]) [1, 2, 3, 0] dX4_rankOf_41 rfl (by decide) rfl ?_
          refine aw_goto (tgt := 6) dX4_rankOf_42 (by decide) ?_
          exact ih _ _ (by rcases h1 with rfl | rfl | rfl | rfl | rfl | rfl | rfl | rfl | rfl | rfl <;> first | decide | omega) (by omega) h3 (fun i x1 x3 x2 x4 => by have e := zdiv h1; by_cases hi : mi a 4 < g + z; (exact h4 i (by omega) (fun _ => by omega) x2 x4); (have hm := sOk_mono ho (i := g + z - 1) (j := i) (by omega) (by omega) x4; omega)) (by have e := zdiv h1; omega)
        · refine aw_iload_n (i := 2) (q := 2) dX4_rankOf_34 rfl rfl ?_
          refine aw_iload_n (i := 3) (q := 3) dX4_rankOf_35 rfl rfl ?_
          refine aw_iadd dX4_rankOf_36 ?_
          refine aw_istore_n (i := 2) (lv' := [(0, .ref a), (1, iI c), (2, iI (g + z)), (3, iI z)]) [1, 2, 0, 3] dX4_rankOf_37 rfl (by decide) rfl ?_
          refine aw_iload_n (i := 3) (q := 3) dX4_rankOf_38 rfl rfl ?_
          refine aw_iconst dX4_rankOf_39 ?_
          refine aw_idiv dX4_rankOf_40 (by first | assumption | omega) (by decide) (by omega) (by omega) ?_
          refine aw_istore_n (i := 3) (lv' := [(0, .ref a), (1, iI c), (2, iI (g + z)), (3, iI (z.tdiv 2))]) [1, 2, 3, 0] dX4_rankOf_41 rfl (by decide) rfl ?_
          refine aw_goto (tgt := 6) dX4_rankOf_42 (by decide) ?_
          exact ih _ _ (by rcases h1 with rfl | rfl | rfl | rfl | rfl | rfl | rfl | rfl | rfl | rfl <;> first | decide | omega) (by omega) (fun i x1 x2 => by by_cases hi : i < g; (exact h3 i x1 hi); (have hm := sOk_mono ho (i := i) (j := g + z - 1) (by omega) (by omega) (by omega); omega)) (fun i x1 x3 x2 x4 => h4 i (by have e := zdiv h1; omega) (fun e => by omega) x2 x4) (by have e := zdiv h1; omega)
theorem s_X4_rankOf {mr : aR} (hR : Rok mr) {mi : aM} {a : Nat} (hs : isS a) (ho : sOk mi a) {c : Int} (h_c : -2147483648 ≤ c ∧ c ≤ 2147483647) : SPg yX4_rankOf cX4_rankOf 4 (some .int) 1 [.ref a, iI c] mi mr (Pp mi mr (fun r => (0 ≤ r ∧ r ≤ mi a 4) ∧ (∀ i : Int, 0 ≤ i → i < r → mi (a + 2) i < c) ∧ (∀ i : Int, r ≤ i → i < mi a 4 → c ≤ mi (a + 2) i))) := by
  refine SPg.pure rfl (by decide +kernel) (Nat.le_of_ble_eq_true rfl) ?_
  show AWm RX4 cX4_rankOf 4 1 _ 0 [(0, .ref a), (1, iI c)] [] mi mr
  refine aw_iconst dX4_rankOf_0 ?_
  refine aw_istore_n (i := 2) (lv' := [(0, .ref a), (1, iI c), (2, iI 0)]) [1, 2, 0] dX4_rankOf_1 rfl (by decide) rfl ?_
  refine aw_sipush (x := 256) dX4_rankOf_2 rfl ?_
  refine aw_istore_n (i := 3) (lv' := [(0, .ref a), (1, iI c), (2, iI 0), (3, iI 256)]) [1, 2, 3, 0] dX4_rankOf_5 rfl (by decide) rfl ?_
  exact l_rankOf hR hs ho h_c 257 0 256 (Or.inl rfl) ⟨by omega, ho.1.1⟩ (fun i x1 x2 => by omega) (fun i x1 _ _ x2 => by have := ho.1; omega) (by omega)
theorem l_indexOf {mr : aR} (hR : Rok mr) {mi : aM} {a : Nat} (hs : isS a) (ho : sOk mi a) {b t : Int} (h_b : -2147483648 ≤ b ∧ b ≤ 2147483647) (h_t : -2147483648 ≤ t ∧ t ≤ 2147483647) : ∀ (n : Nat) (z : Int), (∀ i : Int, 0 ≤ i → i < z → ¬ (mi (a + 1) i = b ∧ mi (a + 3) i = t)) → (0 ≤ z ∧ z ≤ mi a 4) → mi a 4 - z < n → AWm RX4 cX4_indexOf 4 1 (Pp mi mr (fun r => (0 ≤ r ∧ r < mi a 4 ∧ mi (a + 1) r = b ∧ mi (a + 3) r = t) ∨ (r = -1 ∧ ∀ i : Int, 0 ≤ i → i < mi a 4 → ¬ (mi (a + 1) i = b ∧ mi (a + 3) i = t)))) 2 [(0, .ref a), (1, iI b), (2, iI t), (3, iI z)] [] mi mr := by
  intro n
  induction n with
  | zero => intro z h1 h2 h3; omega
  | succ n ih =>
    intro z h1 h2 h3
    have hc1 := ho.1
    refine aw_iload_n (i := 3) (q := 3) dX4_indexOf_2 rfl rfl ?_
    refine aw_aload_n (i := 0) (q := 0) dX4_indexOf_3 rfl rfl ?_
    refine aw_getIk (x := mi a 4) 4 flX4_24 (isS_SH hs).1 (isS_ok hs).1 rfl rfl rfl dX4_indexOf_4 (fun r4 => ?_)
    refine aw_icmp_ge (tgt := 38) dX4_indexOf_7 (by decide) (by first | assumption | omega) (by first | assumption | omega) (fun c7 => ?_) (fun c7 => ?_)
    · refine aw_iconst dX4_indexOf_38 ?_
      exact aw_iret ⟨_, rfl, rfl, rfl, rfl, (Or.inr ⟨rfl, fun i x1 x2 => h1 i x1 (by omega)⟩)⟩ (Nat.le_refl _) (Nat.le_refl _) dX4_indexOf_39
    · refine aw_aload_n (i := 0) (q := 0) dX4_indexOf_10 rfl rfl ?_
      refine aw_getR (r := a + 1) flX4_9 (isS_SH hs).1 (isS_ok hs).1 rfl (isS_rf hs hR).1 dX4_indexOf_11 ?_
      refine aw_iload_n (i := 3) (q := 3) dX4_indexOf_14 rfl rfl ?_
      refine aw_ialdv (x := mi (a + 1) z) (isS_SH hs).2.1 (isS_ok hs).2.1 ⟨by omega, by omega⟩ rfl dX4_indexOf_15 (fun r15 => ?_)
      refine aw_iload_n (i := 1) (q := 1) dX4_indexOf_16 rfl rfl ?_
      refine aw_icmp_ne (tgt := 32) dX4_indexOf_17 (by decide) (by first | assumption | omega) (by first | assumption | omega) (fun c17 => ?_) (fun c17 => ?_)
      · refine aw_iinc (i := 3) (q := 3) (x := z) (lv' := [(0, .ref a), (1, iI b), (2, iI t), (3, iI (z + 1))]) [1, 2, 3, 0] dX4_indexOf_32 rfl (by decide) rfl ?_
        refine aw_goto (tgt := 2) dX4_indexOf_35 (by decide) ?_
        exact ih _ (fun i x1 x2 => by by_cases hi : i = z; (subst hi; omega); (exact h1 i x1 (by omega))) (by omega) (by omega)
      · refine aw_aload_n (i := 0) (q := 0) dX4_indexOf_20 rfl rfl ?_
        refine aw_getR (r := a + 3) flX4_18 (isS_SH hs).1 (isS_ok hs).1 rfl (isS_rf hs hR).2.2.1 dX4_indexOf_21 ?_
        refine aw_iload_n (i := 3) (q := 3) dX4_indexOf_24 rfl rfl ?_
        refine aw_ialdv (x := mi (a + 3) z) (isS_SH hs).2.2.2.1 (isS_ok hs).2.2.2.1 ⟨by omega, by omega⟩ rfl dX4_indexOf_25 (fun r25 => ?_)
        refine aw_iload_n (i := 2) (q := 2) dX4_indexOf_26 rfl rfl ?_
        refine aw_icmp_ne (tgt := 32) dX4_indexOf_27 (by decide) (by first | assumption | omega) (by first | assumption | omega) (fun c27 => ?_) (fun c27 => ?_)
        · refine aw_iinc (i := 3) (q := 3) (x := z) (lv' := [(0, .ref a), (1, iI b), (2, iI t), (3, iI (z + 1))]) [1, 2, 3, 0] dX4_indexOf_32 rfl (by decide) rfl ?_
          refine aw_goto (tgt := 2) dX4_indexOf_35 (by decide) ?_
          exact ih _ (fun i x1 x2 => by by_cases hi : i = z; (subst hi; omega); (exact h1 i x1 (by omega))) (by omega) (by omega)
        · refine aw_iload_n (i := 3) (q := 3) dX4_indexOf_30 rfl rfl ?_
          exact aw_iret ⟨_, rfl, rfl, rfl, rfl, (Or.inl ⟨by omega, by omega, by omega, by omega⟩)⟩ (Nat.le_refl _) (Nat.le_refl _) dX4_indexOf_31
theorem s_X4_indexOf {mr : aR} (hR : Rok mr) {mi : aM} {a : Nat} (hs : isS a) (ho : sOk mi a) {b t : Int} (h_b : -2147483648 ≤ b ∧ b ≤ 2147483647) (h_t : -2147483648 ≤ t ∧ t ≤ 2147483647) : SPg yX4_indexOf cX4_indexOf 4 (some .int) 1 [.ref a, iI b, iI t] mi mr (Pp mi mr (fun r => (0 ≤ r ∧ r < mi a 4 ∧ mi (a + 1) r = b ∧ mi (a + 3) r = t) ∨ (r = -1 ∧ ∀ i : Int, 0 ≤ i → i < mi a 4 → ¬ (mi (a + 1) i = b ∧ mi (a + 3) i = t)))) := by
  refine SPg.pure rfl (by decide +kernel) (Nat.le_of_ble_eq_true rfl) ?_
  show AWm RX4 cX4_indexOf 4 1 _ 0 [(0, .ref a), (1, iI b), (2, iI t)] [] mi mr
  refine aw_iconst dX4_indexOf_0 ?_
  refine aw_istore_n (i := 3) (lv' := [(0, .ref a), (1, iI b), (2, iI t), (3, iI 0)]) [1, 2, 3, 0] dX4_indexOf_1 rfl (by decide) rfl ?_
  exact l_indexOf hR hs ho h_b h_t ((mi a 4).toNat + 1) 0 (fun i x1 x2 => by omega) ⟨by omega, ho.1.1⟩ (by have := ho.1; omega)
theorem l_firstTimeOf {mr : aR} (hR : Rok mr) {mi : aM} {a : Nat} (hs : isS a) (ho : sOk mi a) {b : Int} (h_b : -2147483648 ≤ b ∧ b ≤ 2147483647) : ∀ (n : Nat) (z : Int), (∀ i : Int, 0 ≤ i → i < z → mi (a + 1) i ≠ b) → (0 ≤ z ∧ z ≤ mi a 4) → mi a 4 - z < n → AWm RX4 cX4_firstTimeOf 3 1 (Pp mi mr (fun r => (∃ k : Int, 0 ≤ k ∧ k < mi a 4 ∧ mi (a + 1) k = b ∧ r = mi (a + 3) k ∧ ∀ i : Int, 0 ≤ i → i < k → mi (a + 1) i ≠ b) ∨ (r = -1 ∧ ∀ i : Int, 0 ≤ i → i < mi a 4 → mi (a + 1) i ≠ b))) 2 [(0, .ref a), (1, iI b), (2, iI z)] [] mi mr := by
  intro n
  induction n with
  | zero => intro z h1 h2 h3; omega
  | succ n ih =>
    intro z h1 h2 h3
    have hc1 := ho.1
    refine aw_iload_n (i := 2) (q := 2) dX4_firstTimeOf_2 rfl rfl ?_
    refine aw_aload_n (i := 0) (q := 0) dX4_firstTimeOf_3 rfl rfl ?_
    refine aw_getIk (x := mi a 4) 4 flX4_24 (isS_SH hs).1 (isS_ok hs).1 rfl rfl rfl dX4_firstTimeOf_4 (fun r4 => ?_)
    refine aw_icmp_ge (tgt := 33) dX4_firstTimeOf_7 (by decide) (by first | assumption | omega) (by first | assumption | omega) (fun c7 => ?_) (fun c7 => ?_)
    · refine aw_iconst dX4_firstTimeOf_33 ?_
      exact aw_iret ⟨_, rfl, rfl, rfl, rfl, (Or.inr ⟨rfl, fun i x1 x2 => h1 i x1 (by omega)⟩)⟩ (Nat.le_refl _) (Nat.le_refl _) dX4_firstTimeOf_34
    · refine aw_aload_n (i := 0) (q := 0) dX4_firstTimeOf_10 rfl rfl ?_
      refine aw_getR (r := a + 1) flX4_9 (isS_SH hs).1 (isS_ok hs).1 rfl (isS_rf hs hR).1 dX4_firstTimeOf_11 ?_
      refine aw_iload_n (i := 2) (q := 2) dX4_firstTimeOf_14 rfl rfl ?_
      refine aw_ialdv (x := mi (a + 1) z) (isS_SH hs).2.1 (isS_ok hs).2.1 ⟨by omega, by omega⟩ rfl dX4_firstTimeOf_15 (fun r15 => ?_)
      refine aw_iload_n (i := 1) (q := 1) dX4_firstTimeOf_16 rfl rfl ?_
      refine aw_icmp_ne (tgt := 27) dX4_firstTimeOf_17 (by decide) (by first | assumption | omega) (by first | assumption | omega) (fun c17 => ?_) (fun c17 => ?_)
      · refine aw_iinc (i := 2) (q := 2) (x := z) (lv' := [(0, .ref a), (1, iI b), (2, iI (z + 1))]) [1, 2, 0] dX4_firstTimeOf_27 rfl (by decide) rfl ?_
        refine aw_goto (tgt := 2) dX4_firstTimeOf_30 (by decide) ?_
        exact ih _ (fun i x1 x2 => by by_cases hi : i = z; (subst hi; omega); (exact h1 i x1 (by omega))) (by omega) (by omega)
      · refine aw_aload_n (i := 0) (q := 0) dX4_firstTimeOf_20 rfl rfl ?_
        refine aw_getR (r := a + 3) flX4_18 (isS_SH hs).1 (isS_ok hs).1 rfl (isS_rf hs hR).2.2.1 dX4_firstTimeOf_21 ?_
        refine aw_iload_n (i := 2) (q := 2) dX4_firstTimeOf_24 rfl rfl ?_
        refine aw_ialdv (x := mi (a + 3) z) (isS_SH hs).2.2.2.1 (isS_ok hs).2.2.2.1 ⟨by omega, by omega⟩ rfl dX4_firstTimeOf_25 (fun r25 => ?_)
        exact aw_iret ⟨_, rfl, rfl, rfl, rfl, (Or.inl ⟨z, by omega, by omega, by omega, rfl, h1⟩)⟩ (Nat.le_refl _) (Nat.le_refl _) dX4_firstTimeOf_26
theorem s_X4_firstTimeOf {mr : aR} (hR : Rok mr) {mi : aM} {a : Nat} (hs : isS a) (ho : sOk mi a) {b : Int} (h_b : -2147483648 ≤ b ∧ b ≤ 2147483647) : SPg yX4_firstTimeOf cX4_firstTimeOf 3 (some .int) 1 [.ref a, iI b] mi mr (Pp mi mr (fun r => (∃ k : Int, 0 ≤ k ∧ k < mi a 4 ∧ mi (a + 1) k = b ∧ r = mi (a + 3) k ∧ ∀ i : Int, 0 ≤ i → i < k → mi (a + 1) i ≠ b) ∨ (r = -1 ∧ ∀ i : Int, 0 ≤ i → i < mi a 4 → mi (a + 1) i ≠ b))) := by
  refine SPg.pure rfl (by decide +kernel) (Nat.le_of_ble_eq_true rfl) ?_
  show AWm RX4 cX4_firstTimeOf 3 1 _ 0 [(0, .ref a), (1, iI b)] [] mi mr
  refine aw_iconst dX4_firstTimeOf_0 ?_
  refine aw_istore_n (i := 2) (lv' := [(0, .ref a), (1, iI b), (2, iI 0)]) [1, 2, 0] dX4_firstTimeOf_1 rfl (by decide) rfl ?_
  exact l_firstTimeOf hR hs ho h_b ((mi a 4).toNat + 1) 0 (fun i x1 x2 => by omega) ⟨by omega, ho.1.1⟩ (by have := ho.1; omega)
theorem l_movingAt {mr : aR} (hR : Rok mr) {mi : aM} {a : Nat} (hs : isS a) (ho : sOk mi a) {t : Int} (h_t : -2147483648 ≤ t ∧ t ≤ 2147483647) : ∀ (n : Nat) (g z : Int) (i : Nat), g = covI mi a t i → z = (i : Int) → (0 ≤ z ∧ z ≤ mi a 4) → mi a 4 - z < n → AWm RX4 cX4_movingAt 4 1 (Pp mi mr (fun r => r = covI mi a t (mi a 4).toNat)) 4 [(0, .ref a), (1, iI t), (2, iI g), (3, iI z)] [] mi mr := by
  intro n
  induction n with
  | zero => intro g z i hg hz h2 h3; omega
  | succ n ih =>
    intro g z i hg hz h2 h3
    have hc1 := ho.1
    have hgr := covI_rng mi a t i
    have hcs : covI mi a t (i + 1) = covI mi a t i + (if mi (a + 2) i ≤ t ∧ t < mi (a + 3) i then 1 else 0) := rfl
    rw [← hz] at hcs
    refine aw_iload_n (i := 3) (q := 3) dX4_movingAt_4 rfl rfl ?_
    refine aw_aload_n (i := 0) (q := 0) dX4_movingAt_5 rfl rfl ?_
    refine aw_getIk (x := mi a 4) 4 flX4_24 (isS_SH hs).1 (isS_ok hs).1 rfl rfl rfl dX4_movingAt_6 (fun r6 => ?_)
    refine aw_icmp_ge (tgt := 41) dX4_movingAt_9 (by decide) (by first | assumption | omega) (by first | assumption | omega) (fun c9 => ?_) (fun c9 => ?_)
    · refine aw_iload_n (i := 2) (q := 2) dX4_movingAt_41 rfl rfl ?_
      exact aw_iret ⟨_, rfl, rfl, rfl, rfl, (by rw [hg]; exact (covI_none (by omega) (fun j x1 x2 => by have := sOk_mono ho (i := z) (j := j) (by omega) (by omega) (by omega); omega)).symm)⟩ (Nat.le_refl _) (Nat.le_refl _) dX4_movingAt_42
    · refine aw_aload_n (i := 0) (q := 0) dX4_movingAt_12 rfl rfl ?_
      refine aw_getR (r := a + 2) flX4_15 (isS_SH hs).1 (isS_ok hs).1 rfl (isS_rf hs hR).2.1 dX4_movingAt_13 ?_
      refine aw_iload_n (i := 3) (q := 3) dX4_movingAt_16 rfl rfl ?_
      refine aw_ialdv (x := mi (a + 2) z) (isS_SH hs).2.2.1 (isS_ok hs).2.2.1 ⟨by omega, by omega⟩ rfl dX4_movingAt_17 (fun r17 => ?_)
      refine aw_iload_n (i := 1) (q := 1) dX4_movingAt_18 rfl rfl ?_
      refine aw_icmp_gt (tgt := 41) dX4_movingAt_19 (by decide) (by first | assumption | omega) (by first | assumption | omega) (fun c19 => ?_) (fun c19 => ?_)
      · refine aw_iload_n (i := 2) (q := 2) dX4_movingAt_41 rfl rfl ?_
        exact aw_iret ⟨_, rfl, rfl, rfl, rfl, (by rw [hg]; exact (covI_none (by omega) (fun j x1 x2 => by have := sOk_mono ho (i := z) (j := j) (by omega) (by omega) (by omega); omega)).symm)⟩ (Nat.le_refl _) (Nat.le_refl _) dX4_movingAt_42
      · refine aw_aload_n (i := 0) (q := 0) dX4_movingAt_22 rfl rfl ?_
        refine aw_getR (r := a + 3) flX4_18 (isS_SH hs).1 (isS_ok hs).1 rfl (isS_rf hs hR).2.2.1 dX4_movingAt_23 ?_
        refine aw_iload_n (i := 3) (q := 3) dX4_movingAt_26 rfl rfl ?_
        refine aw_ialdv (x := mi (a + 3) z) (isS_SH hs).2.2.2.1 (isS_ok hs).2.2.2.1 ⟨by omega, by omega⟩ rfl dX4_movingAt_27 (fun r27 => ?_)
        refine aw_iload_n (i := 1) (q := 1) dX4_movingAt_28 rfl rfl ?_
        refine aw_icmp_le (tgt := 35) dX4_movingAt_29 (by decide) (by first | assumption | omega) (by first | assumption | omega) (fun c29 => ?_) (fun c29 => ?_)
        · refine aw_iinc (i := 3) (q := 3) (x := z) (lv' := [(0, .ref a), (1, iI t), (2, iI g), (3, iI (z + 1))]) [1, 2, 3, 0] dX4_movingAt_35 rfl (by decide) rfl ?_
          refine aw_goto (tgt := 4) dX4_movingAt_38 (by decide) ?_
          exact ih _ _ (i + 1) (by rw [hcs, if_neg (by omega)]; omega) (by omega) (by omega) (by omega)
        · refine aw_iinc (i := 2) (q := 2) (x := g) (lv' := [(0, .ref a), (1, iI t), (2, iI (g + 1)), (3, iI z)]) [1, 2, 0, 3] dX4_movingAt_32 rfl (by decide) rfl ?_
          refine aw_iinc (i := 3) (q := 3) (x := z) (lv' := [(0, .ref a), (1, iI t), (2, iI (g + 1)), (3, iI (z + 1))]) [1, 2, 3, 0] dX4_movingAt_35 rfl (by decide) rfl ?_
          refine aw_goto (tgt := 4) dX4_movingAt_38 (by decide) ?_
          exact ih _ _ (i + 1) (by rw [hcs, if_pos (by omega)]; omega) (by omega) (by omega) (by omega)
theorem s_X4_movingAt {mr : aR} (hR : Rok mr) {mi : aM} {a : Nat} (hs : isS a) (ho : sOk mi a) {t : Int} (h_t : -2147483648 ≤ t ∧ t ≤ 2147483647) : SPg yX4_movingAt cX4_movingAt 4 (some .int) 1 [.ref a, iI t] mi mr (Pp mi mr (fun r => r = covI mi a t (mi a 4).toNat)) := by
  refine SPg.pure rfl (by decide +kernel) (Nat.le_of_ble_eq_true rfl) ?_
  show AWm RX4 cX4_movingAt 4 1 _ 0 [(0, .ref a), (1, iI t)] [] mi mr
  refine aw_iconst dX4_movingAt_0 ?_
  refine aw_istore_n (i := 2) (lv' := [(0, .ref a), (1, iI t), (2, iI 0)]) [1, 2, 0] dX4_movingAt_1 rfl (by decide) rfl ?_
  refine aw_iconst dX4_movingAt_2 ?_
  refine aw_istore_n (i := 3) (lv' := [(0, .ref a), (1, iI t), (2, iI 0), (3, iI 0)]) [1, 2, 3, 0] dX4_movingAt_3 rfl (by decide) rfl ?_
  exact l_movingAt hR hs ho h_t ((mi a 4).toNat + 1) 0 0 0 rfl rfl ⟨by omega, ho.1.1⟩ (by have := ho.1; omega)
theorem l_clashes {mr : aR} (hR : Rok mr) {mi : aM} {a : Nat} (hs : isS a) (ho : sOk mi a) {f b c t e : Int} (hf : 0 ≤ f ∧ f ≤ mi a 4) (h_b : -2147483648 ≤ b ∧ b ≤ 2147483647) (h_c : -2147483648 ≤ c ∧ c ≤ 2147483647) (h_t : -1000 ≤ t ∧ t ≤ 200000) (h_e : 0 ≤ e ∧ e ≤ 100) : ∀ (n : Nat) (z : Int), (∀ i : Int, f ≤ i → i < z → ¬ (mi (a + 2) i < t + e ∧ mi (a + 1) i = b ∧ c < mi (a + 3) i + e)) → (f ≤ z ∧ z ≤ mi a 4) → mi a 4 - z < n → AWm RX4 cX4_clashes 7 1 (Pp mi mr (fun r => (r = 1 ∧ ∃ i : Int, f ≤ i ∧ i < mi a 4 ∧ mi (a + 2) i < t + e ∧ mi (a + 1) i = b ∧ c < mi (a + 3) i + e) ∨ (r = 0 ∧ ∀ i : Int, f ≤ i → i < mi a 4 → ¬ (mi (a + 2) i < t + e ∧ mi (a + 1) i = b ∧ c < mi (a + 3) i + e)))) 3 [(0, .ref a), (1, iI f), (2, iI b), (3, iI c), (4, iI t), (5, iI e), (6, iI z)] [] mi mr := by
  intro n
  induction n with
  | zero => intro z h1 h2 h3; omega
  | succ n ih =>
    intro z h1 h2 h3
    have hc1 := ho.1
    refine aw_iload (i := 6) (q := 6) dX4_clashes_3 rfl ?_
    refine aw_aload_n (i := 0) (q := 0) dX4_clashes_5 rfl rfl ?_
    refine aw_getIk (x := mi a 4) 4 flX4_24 (isS_SH hs).1 (isS_ok hs).1 rfl rfl rfl dX4_clashes_6 (fun r6 => ?_)
    refine aw_icmp_ge (tgt := 60) dX4_clashes_9 (by decide) (by first | assumption | omega) (by first | assumption | omega) (fun c9 => ?_) (fun c9 => ?_)
    · refine aw_iconst dX4_clashes_60 ?_
      exact aw_iret ⟨_, rfl, rfl, rfl, rfl, (Or.inr ⟨rfl, fun i x1 x2 => by by_cases hi : i < z; (exact h1 i x1 hi); (have hm := sOk_mono ho (i := z) (j := i) (by omega) (by omega) x2; omega)⟩)⟩ (Nat.le_refl _) (Nat.le_refl _) dX4_clashes_61
    · have hz9 := ho.2.1 z (by omega) (by omega)
      refine aw_aload_n (i := 0) (q := 0) dX4_clashes_12 rfl rfl ?_
      refine aw_getR (r := a + 2) flX4_15 (isS_SH hs).1 (isS_ok hs).1 rfl (isS_rf hs hR).2.1 dX4_clashes_13 ?_
      refine aw_iload (i := 6) (q := 6) dX4_clashes_16 rfl ?_
      refine aw_ialdv (x := mi (a + 2) z) (isS_SH hs).2.2.1 (isS_ok hs).2.2.1 ⟨by omega, by omega⟩ rfl dX4_clashes_18 (fun r18 => ?_)
      refine aw_iload (i := 4) (q := 4) dX4_clashes_19 rfl ?_
      refine aw_iload (i := 5) (q := 5) dX4_clashes_21 rfl ?_
      refine aw_iadd dX4_clashes_23 ?_
      refine aw_icmp_ge (tgt := 60) dX4_clashes_24 (by decide) (by first | assumption | omega) (by first | assumption | omega) (fun c24 => ?_) (fun c24 => ?_)
      · refine aw_iconst dX4_clashes_60 ?_
        exact aw_iret ⟨_, rfl, rfl, rfl, rfl, (Or.inr ⟨rfl, fun i x1 x2 => by by_cases hi : i < z; (exact h1 i x1 hi); (have hm := sOk_mono ho (i := z) (j := i) (by omega) (by omega) x2; omega)⟩)⟩ (Nat.le_refl _) (Nat.le_refl _) dX4_clashes_61
      · refine aw_aload_n (i := 0) (q := 0) dX4_clashes_27 rfl rfl ?_
        refine aw_getR (r := a + 1) flX4_9 (isS_SH hs).1 (isS_ok hs).1 rfl (isS_rf hs hR).1 dX4_clashes_28 ?_
        refine aw_iload (i := 6) (q := 6) dX4_clashes_31 rfl ?_
        refine aw_ialdv (x := mi (a + 1) z) (isS_SH hs).2.1 (isS_ok hs).2.1 ⟨by omega, by omega⟩ rfl dX4_clashes_33 (fun r33 => ?_)
        refine aw_iload_n (i := 2) (q := 2) dX4_clashes_34 rfl rfl ?_
        refine aw_icmp_ne (tgt := 54) dX4_clashes_35 (by decide) (by first | assumption | omega) (by first | assumption | omega) (fun c35 => ?_) (fun c35 => ?_)
        · refine aw_iinc (i := 6) (q := 6) (x := z) (lv' := [(0, .ref a), (1, iI f), (2, iI b), (3, iI c), (4, iI t), (5, iI e), (6, iI (z + 1))]) [1, 2, 3, 4, 5, 6, 0] dX4_clashes_54 rfl (by decide) rfl ?_
          refine aw_goto (tgt := 3) dX4_clashes_57 (by decide) ?_
          exact ih _ (fun i x1 x2 => by by_cases hi : i = z; (subst hi; omega); (exact h1 i x1 (by omega))) (by omega) (by omega)
        · refine aw_aload_n (i := 0) (q := 0) dX4_clashes_38 rfl rfl ?_
          refine aw_getR (r := a + 3) flX4_18 (isS_SH hs).1 (isS_ok hs).1 rfl (isS_rf hs hR).2.2.1 dX4_clashes_39 ?_
          refine aw_iload (i := 6) (q := 6) dX4_clashes_42 rfl ?_
          refine aw_ialdv (x := mi (a + 3) z) (isS_SH hs).2.2.2.1 (isS_ok hs).2.2.2.1 ⟨by omega, by omega⟩ rfl dX4_clashes_44 (fun r44 => ?_)
          refine aw_iload (i := 5) (q := 5) dX4_clashes_45 rfl ?_
          refine aw_iadd dX4_clashes_47 ?_
          refine aw_iload_n (i := 3) (q := 3) dX4_clashes_48 rfl rfl ?_
          refine aw_icmp_le (tgt := 54) dX4_clashes_49 (by decide) (by first | assumption | omega) (by first | assumption | omega) (fun c49 => ?_) (fun c49 => ?_)
          · refine aw_iinc (i := 6) (q := 6) (x := z) (lv' := [(0, .ref a), (1, iI f), (2, iI b), (3, iI c), (4, iI t), (5, iI e), (6, iI (z + 1))]) [1, 2, 3, 4, 5, 6, 0] dX4_clashes_54 rfl (by decide) rfl ?_
            refine aw_goto (tgt := 3) dX4_clashes_57 (by decide) ?_
            exact ih _ (fun i x1 x2 => by by_cases hi : i = z; (subst hi; omega); (exact h1 i x1 (by omega))) (by omega) (by omega)
          · refine aw_iconst dX4_clashes_52 ?_
            exact aw_iret ⟨_, rfl, rfl, rfl, rfl, (Or.inl ⟨rfl, z, by omega, by omega, by omega, by omega, by omega⟩)⟩ (Nat.le_refl _) (Nat.le_refl _) dX4_clashes_53
theorem s_X4_clashes {mr : aR} (hR : Rok mr) {mi : aM} {a : Nat} (hs : isS a) (ho : sOk mi a) {f b c t e : Int} (hf : 0 ≤ f ∧ f ≤ mi a 4) (h_b : -2147483648 ≤ b ∧ b ≤ 2147483647) (h_c : -2147483648 ≤ c ∧ c ≤ 2147483647) (h_t : -1000 ≤ t ∧ t ≤ 200000) (h_e : 0 ≤ e ∧ e ≤ 100) : SPg yX4_clashes cX4_clashes 7 (some .boolean) 1 [.ref a, iI f, iI b, iI c, iI t, iI e] mi mr (Pp mi mr (fun r => (r = 1 ∧ ∃ i : Int, f ≤ i ∧ i < mi a 4 ∧ mi (a + 2) i < t + e ∧ mi (a + 1) i = b ∧ c < mi (a + 3) i + e) ∨ (r = 0 ∧ ∀ i : Int, f ≤ i → i < mi a 4 → ¬ (mi (a + 2) i < t + e ∧ mi (a + 1) i = b ∧ c < mi (a + 3) i + e)))) := by
  refine SPg.boolp rfl (by decide +kernel) (Nat.le_of_ble_eq_true rfl) (fun r h => by omega) ?_
  show AWm RX4 cX4_clashes 7 1 _ 0 [(0, .ref a), (1, iI f), (2, iI b), (3, iI c), (4, iI t), (5, iI e)] [] mi mr
  refine aw_iload_n (i := 1) (q := 1) dX4_clashes_0 rfl rfl ?_
  refine aw_istore (i := 6) (lv' := [(0, .ref a), (1, iI f), (2, iI b), (3, iI c), (4, iI t), (5, iI e), (6, iI f)]) [1, 2, 3, 4, 5, 6, 0] dX4_clashes_1 (by decide) rfl ?_
  exact l_clashes hR hs ho hf h_b h_c h_t h_e ((mi a 4).toNat + 1) f (fun i x1 x2 => by omega) (by omega) (by have := ho.1; omega)
