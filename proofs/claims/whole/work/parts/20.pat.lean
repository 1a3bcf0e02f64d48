-- part 20: patterns as sequences of strokes; strokesOf, draftPattern (printed by wip/whole/gen/p20.py)
/-- the strokes of one step (a set x of bells, at the time t), for c bells from b on -/
def innL (x t : Int) : Nat → Nat → List (Int × Int)
  | 0, _ => []
  | c + 1, b => if x.toNat.testBit b = true then ((b : Int), t) :: innL x t c (b + 1) else innL x t c (b + 1)
/-- the strokes of c steps from the step k on, played from T with s ticks per step -/
def outL (S : Int → Int) (NB : Nat) (T s : Int) : Nat → Nat → List (Int × Int)
  | 0, _ => []
  | c + 1, k => innL (S k) (T + k * s) NB 0 ++ outL S NB T s c (k + 1)
theorem innL_none {x t : Int} : ∀ (c b : Nat), (∀ j : Nat, b ≤ j → j < b + c → ¬ x.toNat.testBit j = true) → innL x t c b = []
  | 0, _, _ => rfl
  | c + 1, b, h => by
    unfold innL
    rw [if_neg (h b (by omega) (by omega))]
    exact innL_none c (b + 1) (fun j a1 a2 => h j (by omega) (by omega))
theorem innL_mem {x t : Int} : ∀ (c b : Nat) (q : Int × Int), q ∈ innL x t c b → (b : Int) ≤ q.1 ∧ q.1 < b + c ∧ q.2 = t ∧ bit x q.1
  | 0, _, _, h => by cases h
  | c + 1, b, q, h => by
    unfold innL at h
    split at h
    · rename_i hb
      rcases List.mem_cons.mp h with rfl | h
      · exact ⟨Int.le_refl _, by show (b : Int) < b + ((c + 1 : Nat) : Int); omega, rfl, by unfold bit; simpa using hb⟩
      · have := innL_mem c (b + 1) q h
        exact ⟨by omega, by omega, this.2.2.1, this.2.2.2⟩
    · have := innL_mem c (b + 1) q h
      exact ⟨by omega, by omega, this.2.2.1, this.2.2.2⟩
/-- examined and scheduled one behind the other: 0 and the strokes then, or the first refusal -/
noncomputable def plL (E : List Str → Int → Int → Int) (dl : Int → Int) : List (Int × Int) → List Str → Int × List Str
  | [], L => (0, L)
  | q :: r, L => @ite _ (E L q.1 q.2 = 0) (Int.instDecidableEq _ _) (plL E dl r ((q.1, q.2 - dl q.1, q.2) :: L)) (E L q.1 q.2, L)
theorem plL_ok {E : List Str → Int → Int → Int} {dl : Int → Int} {q : Int × Int} {r : List (Int × Int)} {L : List Str} (h : E L q.1 q.2 = 0) : plL E dl (q :: r) L = plL E dl r ((q.1, q.2 - dl q.1, q.2) :: L) := by
  show @ite _ _ _ _ _ = _
  rw [if_pos h]
theorem plL_no {E : List Str → Int → Int → Int} {dl : Int → Int} {q : Int × Int} {r : List (Int × Int)} {L : List Str} (h : E L q.1 q.2 ≠ 0) : plL E dl (q :: r) L = (E L q.1 q.2, L) := by
  show @ite _ _ _ _ _ = _
  rw [if_neg h]
theorem plL_perm {E : List Str → Int → Int → Int} {dl : Int → Int} (hE : ∀ (L M : List Str), L.Perm M → ∀ b t, E L b t = E M b t) : ∀ (q : List (Int × Int)) (L M : List Str), L.Perm M → (plL E dl q L).1 = (plL E dl q M).1 ∧ (plL E dl q L).2.Perm (plL E dl q M).2
  | [], _, _, h => ⟨rfl, h⟩
  | q :: r, L, M, h => by
    by_cases h0 : E L q.1 q.2 = 0
    · rw [plL_ok h0, plL_ok (by rw [← hE L M h]; exact h0)]
      exact plL_perm hE r _ _ (h.cons _)
    · rw [plL_no h0, plL_no (by rw [← hE L M h]; exact h0)]
      exact ⟨hE L M h _ _, h⟩
/-- the class's examination and delays, out of its cells -/
noncomputable def eC (mi : aM) : List Str → Int → Int → Int := fun L b t => exam L (mi 1 13) (mi 1 14) (mi (28 + b.toNat) 4) (mi (28 + b.toNat) 6) (mi (28 + b.toNat) 0) (mi (28 + b.toNat) 1) b t
def dC (mi : aM) : Int → Int := fun b => mi (28 + b.toNat) 0
theorem eC_perm (mi : aM) : ∀ (L M : List Str), L.Perm M → ∀ b t, eC mi L b t = eC mi M b t := fun _ _ h _ _ => exam_perm h _ _ _ _ _ _ _ _
/-- all but the draft stays -/
def fr13 (mi m : aM) : Prop := ∀ (x : Nat) (j : Int), (x < 13 ∨ 17 < x) → m x j = mi x j
theorem eC_fr {mi m : aM} (h : fr13 mi m) : eC m = eC mi := by
  funext L b t
  unfold eC
  rw [h 1 13 (by omega), h 1 14 (by omega), h _ 4 (by omega), h _ 6 (by omega), h _ 0 (by omega), h _ 1 (by omega)]
theorem eC_t {mi : aM} {L : List Str} {b t : Int} (h : eC mi L b t = 0) : 0 ≤ t ∧ t ≤ 100000 ∧ mi 1 13 ≤ t - dC mi b ∧ L.length < 300 ∧ ¬ clash L b (t - dC mi b) t (mi (28 + b.toNat) 1) := by
  unfold eC at h
  have h2 := exam_0.mp h
  exact ⟨h2.1.1, h2.1.2, h2.2.2.1, h2.2.2.2.1, h2.2.2.2.2.2.1⟩
/-- the walk through a pattern: g strokes are in the draft, rest is left of all -/
def dI (mi m : aM) (all rest : List (Int × Int)) (g : Int) : Prop :=
  (plL (eC mi) (dC mi) all (sL mi 8)).1 = (plL (eC mi) (dC mi) rest (sL m 13)).1 ∧ ((plL (eC mi) (dC mi) all (sL mi 8)).2).Perm (plL (eC mi) (dC mi) rest (sL m 13)).2 ∧ g + (rest.length : Int) = (all.length : Int) ∧ sOk m 13 ∧ fr13 mi m
theorem dI_refuse {mi m : aM} {all rest : List (Int × Int)} {g r b t : Int} (h : dI mi m all ((b, t) :: rest) g) (hr : r = eC mi (sL m 13) b t) (h0 : r ≠ 0) : (plL (eC mi) (dC mi) all (sL mi 8)).1 = r := by
  rw [h.1, plL_no (by dsimp only; rw [← hr]; exact h0)]
  exact hr.symm
theorem dI_mem {mi m m1 : aM} {all rest : List (Int × Int)} {g : Int} (h : dI mi m all rest g) (hm : ∀ (x : Nat) (j : Int), x ≠ 13 + 4 → m1 x j = m x j) : dI mi m1 all rest g := by
  obtain ⟨h1, h2, h3, h4, h5⟩ := h
  have e : sL m1 13 = sL m 13 := sL_congr (fun j => ⟨hm _ _ (by omega), hm _ _ (by omega), hm _ _ (by omega)⟩) (hm _ _ (by omega))
  refine ⟨by rw [e]; exact h1, by rw [e]; exact h2, h3, sOk_congr (fun j => ⟨hm _ _ (by omega), hm _ _ (by omega), hm _ _ (by omega)⟩) (hm _ _ (by omega)) h4, fun x j hx => by rw [hm x j (by omega)]; exact h5 x j hx⟩
theorem dI_step {mi m m2 : aM} {all rest : List (Int × Int)} {g b t : Int} (h : dI mi m all ((b, t) :: rest) g) (h0 : eC mi (sL m 13) b t = 0) (hp : (sL m2 13).Perm ((b, t - dC mi b, t) :: sL m 13)) (ho : sOk m2 13) (hf : fr13 mi m2) : dI mi m2 all rest (g + 1) := by
  obtain ⟨h1, h2, h3, h4, h5⟩ := h
  rw [plL_ok (by exact h0)] at h1 h2
  have e := plL_perm (dl := dC mi) (eC_perm mi) rest _ _ hp
  refine ⟨by rw [e.1]; exact h1, h2.trans e.2.symm, ?_, ho, hf⟩
  rw [List.length_cons] at h3
  omega
theorem ex_set {NB : Int} (h : 0 ≤ NB ∧ NB ≤ 12) : 1 ≤ ((2 ^ NB.toNat : Nat) : Int) ∧ ((2 ^ NB.toNat : Nat) : Int) ≤ 4096 := by
  have h1 : 2 ^ NB.toNat ≤ 2 ^ 12 := Nat.pow_le_pow_right (by omega) (by omega)
  have h2 : 0 < 2 ^ NB.toNat := Nat.two_pow_pos _
  rw [show (2 : Nat) ^ 12 = 4096 from rfl] at h1
  generalize 2 ^ NB.toNat = q at *
  omega
theorem ex_bit {NB b : Int} (h : 0 ≤ NB) (hb : 0 ≤ b) : bit (((2 ^ NB.toNat : Nat) : Int) - 1) b ↔ b < NB := by
  unfold bit
  rw [show (((2 ^ NB.toNat : Nat) : Int) - 1).toNat = 2 ^ NB.toNat - 1 by omega, Nat.testBit_two_pow_sub_one, decide_eq_true_eq]
  omega
/-- a set cut down to the bells that exist -/
theorem stk_bit {x NB b : Int} (h : 0 ≤ NB) (hb : 0 ≤ b ∧ b < NB) : bit ((x.toNat &&& (((2 ^ NB.toNat : Nat) : Int) - 1).toNat : Nat) : Int) b ↔ bit x b := by
  rw [bit_and, ex_bit h hb.1]
  exact ⟨fun q => q.1, fun q => ⟨q, hb.2⟩⟩
def cnB (x : Nat) : Nat → Nat → Nat
  | 0, _ => 0
  | c + 1, b => (if x.testBit b = true then 1 else 0) + cnB x c (b + 1)
theorem innL_len (x t : Int) : ∀ c b : Nat, (innL x t c b).length = cnB x.toNat c b
  | 0, _ => rfl
  | c + 1, b => by
    unfold innL cnB
    split
    · rw [List.length_cons, innL_len x t c (b + 1)]; omega
    · rw [innL_len x t c (b + 1)]; omega
theorem cn_range (x : Nat) : ∀ c b : Nat, cnB x c b = ((List.range c).filter (fun j => x.testBit (b + j))).length
  | 0, _ => rfl
  | c + 1, b => by
    have e : (fun j => x.testBit (b + j)) ∘ Nat.succ = fun j => x.testBit (b + 1 + j) := by
      funext j
      show x.testBit (b + (j + 1)) = _
      congr 1
      omega
    rw [List.range_succ_eq_map, List.filter_cons, List.filter_map, e]
    unfold cnB
    rw [cn_range x c (b + 1)]
    show _ = (if x.testBit b = true then _ else _ : List Nat).length
    by_cases q : x.testBit b = true
    · rw [if_pos q, if_pos q, List.length_cons, List.length_map]; omega
    · rw [if_neg q, if_neg q, List.length_map]; omega
theorem pcn_cn (x NB : Nat) (h : NB ≤ 12) : pcn (x &&& (2 ^ NB - 1)) = cnB x NB 0 := by
  unfold pcn
  rw [cn_range, show (12 : Nat) = NB + (12 - NB) by omega, List.range_add, List.filter_append, List.length_append]
  have e1 : (List.range NB).filter (fun b => (x &&& (2 ^ NB - 1)).testBit b) = (List.range NB).filter (fun j => x.testBit (0 + j)) := by
    apply List.filter_congr
    intro j hj
    have := List.mem_range.mp hj
    rw [Nat.testBit_and, Nat.testBit_two_pow_sub_one, Nat.zero_add]
    simp [this]
  have e2 : ((List.range (12 - NB)).map (fun i => NB + i)).filter (fun b => (x &&& (2 ^ NB - 1)).testBit b) = [] := by
    apply List.filter_eq_nil_iff.mpr
    intro j hj
    obtain ⟨i, -, rfl⟩ := List.mem_map.mp hj
    rw [Nat.testBit_and, Nat.testBit_two_pow_sub_one]
    simp
  rw [e1, e2]
  simp
theorem pcn_len {x NB t : Int} (hx : 0 ≤ x ∧ x < 4096) (h : 0 ≤ NB ∧ NB ≤ 12) : (pcn (x.toNat &&& (((2 ^ NB.toNat : Nat) : Int) - 1).toNat) : Int) = ((innL x t NB.toNat 0).length : Int) := by
  have e := pcn_cn x.toNat NB.toNat (by omega)
  rw [innL_len, show (((2 ^ NB.toNat : Nat) : Int) - 1).toNat = 2 ^ NB.toNat - 1 by omega, e]
theorem pcn_pow (x c : Nat) (h : c < 12) : pcn (x &&& 2 ^ c) = if x.testBit c = true then 1 else 0 := by
  unfold pcn
  have e : ∀ j, (x &&& 2 ^ c).testBit j = (x.testBit c && decide (c = j)) := fun j => by
    rw [Nat.testBit_and, Nat.testBit_two_pow]
    by_cases q : c = j
    · subst q; rfl
    · simp [q]
  simp only [e]
  by_cases q : x.testBit c = true
  · simp only [q, Bool.true_and, if_true]
    have key : ∀ c, c < 12 → ((List.range 12).filter (fun j => decide (c = j))).length = 1 := by decide
    exact key c h
  · have q2 : x.testBit c = false := by simpa using q
    simp [q2]
theorem pcn_one {x b : Int} (hx : 0 ≤ x ∧ x < 4096) (h : 0 ≤ b ∧ b < 12) : (bit x b ∧ pcn (x.toNat &&& 2 ^ b.toNat) = 1) ∨ (¬ bit x b ∧ pcn (x.toNat &&& 2 ^ b.toNat) = 0) := by
  have e := pcn_pow x.toNat b.toNat (by omega)
  unfold bit
  rw [e]
  by_cases q : x.toNat.testBit b.toNat = true
  · left; simp [q]
  · right; simp [q]
theorem pcn_le (n : Nat) : pcn n ≤ 12 := by
  unfold pcn
  have := List.length_filter_le (fun b => n.testBit b) (List.range 12)
  simpa using this
theorem outL_len (S : Int → Int) (NB : Nat) (T s T' s' : Int) : ∀ c k : Nat, (outL S NB T s c k).length = (outL S NB T' s' c k).length
  | 0, _ => rfl
  | c + 1, k => by
    unfold outL
    rw [List.length_append, List.length_append, innL_len, innL_len, outL_len S NB T s T' s' c (k + 1)]
theorem s_X6_existingBells {mr : aR} (hR : Rok mr) {mi : aM} (hn : 0 ≤ mi 1 11 ∧ mi 1 11 ≤ 12) : SPg yX6_existingBells cX6_existingBells 1 (some .int) 1 [.ref 1] mi mr (Pp mi mr (fun r => r = ((2 ^ (mi 1 11).toNat : Nat) : Int) - 1)) := by
  refine SPg.pure rfl (by decide +kernel) (Nat.le_of_ble_eq_true rfl) ?_
  show AWm RX6 cX6_existingBells 1 1 _ 0 [(0, .ref 1)] [] mi mr
  refine aw_iconst dX6_existingBells_0 ?_
  refine aw_aload_n (i := 0) (q := 0) dX6_existingBells_1 rfl rfl ?_
  refine aw_getIk (x := mi 1 11) 11 flX6_66 SH_1 (by decide) rfl rfl rfl dX6_existingBells_2 (fun r2 => ?_)
  refine aw_ishl (z := ((2 ^ (mi 1 11).toNat : Nat) : Int)) dX6_existingBells_5 (bt_shl (by (have hx9 := ex_set hn; omega))) ?_
  refine aw_iconst dX6_existingBells_6 ?_
  refine aw_isub dX6_existingBells_7 ?_
  exact aw_iret ⟨_, rfl, rfl, rfl, rfl, rfl⟩ (Nat.le_refl _) (Nat.le_refl _) dX6_existingBells_8
/-- a is a pattern's number -/
def isP (mr : aR) (a : Nat) : Prop := SH a = (0, 2) ∧ SH (a + 1) = (1, 100) ∧ (0 < a ∧ a ≤ 94) ∧ (0 < a + 1 ∧ a + 1 ≤ 94) ∧ mr a 0 = some (a + 1)
theorem isP_of {mr : aR} (hR : Rok mr) {w : Int} (hw : 0 ≤ w ∧ w < 5) : isP mr (40 + 2 * w.toNat) := ⟨(SH_pat hw).1, (SH_pat hw).2, by omega, by omega, rk_pat hR hw⟩
/-- its steps are sets of bells -/
def pOk (mi : aM) (a : Nat) : Prop := (0 ≤ mi a 1 ∧ mi a 1 ≤ 100) ∧ ∀ k : Int, 0 ≤ k → k < mi a 1 → 0 ≤ mi (a + 1) k ∧ mi (a + 1) k < 4096
/-- how many bells of the set x the steps from k on strike, c steps -/
def ptS (S : Int → Int) (x : Int) : Nat → Int
  | 0 => 0
  | n + 1 => ptS S x n + (pcn ((S n).toNat &&& x.toNat) : Int)
theorem ptS_rng (S : Int → Int) (x : Int) : ∀ n, 0 ≤ ptS S x n ∧ ptS S x n ≤ 12 * (n : Int)
  | 0 => by simp [ptS]
  | n + 1 => by
    have h1 := ptS_rng S x n
    have h2 := pcn_le ((S n).toNat &&& x.toNat)
    show 0 ≤ ptS S x n + _ ∧ ptS S x n + _ ≤ 12 * ((n + 1 : Nat) : Int)
    omega
theorem l_strokesOf {mr : aR} (hR : Rok mr) {mi : aM} {a : Nat} (hp : isP mr a) (hpo : pOk mi a) {x : Int} (hx : 0 ≤ x ∧ x < 8192) : ∀ (n : Nat) (g z : Int) (i : Nat), g = ptS (fun k => mi (a + 1) k) x i → z = (i : Int) → (0 ≤ z ∧ z ≤ mi a 1) → mi a 1 - z < n → AWm RX2 cX2_strokesOf 4 2 (Pp mi mr (fun r => r = ptS (fun k => mi (a + 1) k) x (mi a 1).toNat)) 4 [(0, .ref a), (1, iI x), (2, iI g), (3, iI z)] [] mi mr := by
  intro n
  induction n with
  | zero => intro g z i hg hz h2 h3; omega
  | succ n ih =>
    intro g z i hg hz h2 h3
    have hc1 := hpo.1
    have hgr := ptS_rng (fun k => mi (a + 1) k) x i
    refine aw_iload_n (i := 3) (q := 3) dX2_strokesOf_4 rfl rfl ?_
    refine aw_aload_n (i := 0) (q := 0) dX2_strokesOf_5 rfl rfl ?_
    refine aw_getIk (x := mi a 1) 1 flX2_15 hp.1 hp.2.2.1 rfl rfl rfl dX2_strokesOf_6 (fun r6 => ?_)
    refine aw_icmp_ge (tgt := 32) dX2_strokesOf_9 (by decide) (by first | assumption | omega) (by first | assumption | omega) (fun c9 => ?_) (fun c9 => ?_)
    · refine aw_iload_n (i := 2) (q := 2) dX2_strokesOf_32 rfl rfl ?_
      exact aw_iret ⟨_, rfl, rfl, rfl, rfl, ((show i = (mi a 1).toNat by omega) ▸ hg)⟩ (Nat.le_refl _) (Nat.le_refl _) dX2_strokesOf_33
    · have hst9 := hpo.2 z (by omega) (by omega)
      refine aw_iload_n (i := 2) (q := 2) dX2_strokesOf_12 rfl rfl ?_
      refine aw_aload_n (i := 0) (q := 0) dX2_strokesOf_13 rfl rfl ?_
      refine aw_getR (r := a + 1) flX2_9 hp.1 hp.2.2.1 rfl hp.2.2.2.2 dX2_strokesOf_14 ?_
      refine aw_iload_n (i := 3) (q := 3) dX2_strokesOf_17 rfl rfl ?_
      refine aw_ialdv (x := mi (a + 1) z) hp.2.1 hp.2.2.2.1 ⟨by omega, by omega⟩ rfl dX2_strokesOf_18 (fun r18 => ?_)
      refine aw_iload_n (i := 1) (q := 1) dX2_strokesOf_19 rfl rfl ?_
      refine aw_iand (z := (((mi (a + 1) z).toNat &&& (x).toNat : Nat) : Int)) dX2_strokesOf_20 (bt_and (by omega) (by omega)) ?_
      refine aw_cSp (As := [iI ((((mi (a + 1) z).toNat &&& (x).toNat : Nat) : Int))]) (st := [iI g]) clX2_19 (s_J6_bitCount_0f7a4 hR (and_rng ⟨by omega, by omega⟩)) rfl rfl (Nat.le_of_ble_eq_true rfl) (by decide) (by decide) (Nat.le_refl _) (Nat.le_refl _) dX2_strokesOf_21 (fun v21 hv21 => ?_)
      rw [Int.toNat_natCast] at hv21
      refine aw_iadd dX2_strokesOf_24 ?_
      refine aw_istore_n (i := 2) (lv' := [(0, .ref a), (1, iI x), (2, iI (g + v21)), (3, iI z)]) [1, 2, 0, 3] dX2_strokesOf_25 rfl (by decide) rfl ?_
      refine aw_iinc (i := 3) (q := 3) (x := z) (lv' := [(0, .ref a), (1, iI x), (2, iI (g + v21)), (3, iI (z + 1))]) [1, 2, 3, 0] dX2_strokesOf_26 rfl (by decide) rfl ?_
      refine aw_goto (tgt := 4) dX2_strokesOf_29 (by decide) ?_
      exact ih _ _ (i + 1) (by show _ = ptS (fun k => mi (a + 1) k) x i + _; rw [← hz, ← hg, hv21]) (by omega) (by omega) (by omega)
theorem s_X2_strokesOf {mr : aR} (hR : Rok mr) {mi : aM} {a : Nat} (hp : isP mr a) (hpo : pOk mi a) {x : Int} (hx : 0 ≤ x ∧ x < 8192) : SPg yX2_strokesOf cX2_strokesOf 4 (some .int) 2 [.ref a, iI x] mi mr (Pp mi mr (fun r => r = ptS (fun k => mi (a + 1) k) x (mi a 1).toNat)) := by
  refine SPg.pure rfl (by decide +kernel) (Nat.le_of_ble_eq_true rfl) ?_
  show AWm RX2 cX2_strokesOf 4 2 _ 0 [(0, .ref a), (1, iI x)] [] mi mr
  refine aw_iconst dX2_strokesOf_0 ?_
  refine aw_istore_n (i := 2) (lv' := [(0, .ref a), (1, iI x), (2, iI 0)]) [1, 2, 0] dX2_strokesOf_1 rfl (by decide) rfl ?_
  refine aw_iconst dX2_strokesOf_2 ?_
  refine aw_istore_n (i := 3) (lv' := [(0, .ref a), (1, iI x), (2, iI 0), (3, iI 0)]) [1, 2, 3, 0] dX2_strokesOf_3 rfl (by decide) rfl ?_
  exact l_strokesOf hR hp hpo hx ((mi a 1).toNat + 1) 0 0 0 rfl rfl ⟨by omega, hpo.1.1⟩ (by have := hpo.1; omega)
