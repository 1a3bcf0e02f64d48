-- part 72: strokes on both sides (printed by wip/whole/gen/p72.py)
/-- what couples both within a tick -/
def K3e (c m : aM) : Prop := c 4 3 = (if m 58 13 < 200 then m 58 13 else 200) ∧ c 4 4 = m 58 13 % 200 ∧ 0 ≤ m 58 13 ∧ ∀ k : Int, 0 ≤ k → k < 200 → m 64 k = c 5 k ∧ m 65 k = c 6 k ∧ m 66 k = c 7 k ∧ (m 66 k = 0 ∨ m 66 k = 1)
def KW (c m : aM) (E : Int → Nat) : Prop := pgI c E ∧ K1 c m ∧ K2 c m ∧ K3e c m ∧ K4 c m ∧ K5 c m ∧ K6 c m E ∧ K7 c m
section KWS
variable {c m : aM} {E : Int → Nat} {mr : aR}
theorem K3_e (h : K3 c m) : K3e c m := ⟨h.1, h.2.1, h.2.2.1.1, h.2.2.2⟩
theorem KW_of (h : KK c m E) : KW c m E := ⟨h.1.1.1, h.2.1, h.2.2.1, K3_e h.2.2.2.1, h.2.2.2.2.1, h.2.2.2.2.2.1, h.2.2.2.2.2.2.1, h.2.2.2.2.2.2.2.1⟩
theorem KK_of (h : KW c m E) (hl : lgOk c) (hf : 0 ≤ c 1 16 ∧ c 1 16 ≤ 8 * c 1 13) (hs : nsw c) (hk : 0 ≤ c 1 15 ∧ c 1 15 ≤ 100000) (hr : m 58 13 ≤ 24 * m 58 9) (hx : mX m) : KK c m E := ⟨⟨⟨h.1, hl, hf, hs⟩, hk⟩, h.2.1, h.2.2.1, ⟨h.2.2.2.1.1, h.2.2.2.1.2.1, ⟨h.2.2.2.1.2.2.1, hr⟩, h.2.2.2.1.2.2.2⟩, h.2.2.2.2.1, h.2.2.2.2.2.1, h.2.2.2.2.2.2.1, h.2.2.2.2.2.2.2, hx⟩
theorem kw_n (h : KW c m E) : 0 ≤ c 1 11 ∧ c 1 11 ≤ 12 := h.1.1.1
theorem kw_p (h : KW c m E) : ∀ x : Int, 0 ≤ x → x < 5 → pOk c (40 + 2 * x.toNat) := h.1.2.2.2.1
theorem kw_ok (h : KW c m E) : sOk c 8 := h.1.2.2.1
theorem kv_bell (h : KW c m E) {b : Int} (hb : 0 ≤ b ∧ b < 12) : bOk c (28 + b.toNat) := (h.1.1.2.2 b.toNat (by omega)).1
theorem kv2 (h : KW c m E) {b : Int} (b0 : 0 ≤ b) (b1 : b < c 1 11) : (m 63 b = c (28 + b.toNat) 4 ∧ m 87 b = c (28 + b.toNat) 5 ∧ m 86 b = c (28 + b.toNat) 6) ∧ (m 59 b = c (28 + b.toNat) 0 ∧ m 60 b = c (28 + b.toNat) 1 ∧ m 61 b = c (28 + b.toNat) 2 ∧ m 62 b = c (28 + b.toNat) 3) ∧ (c (28 + b.toNat) 6 ≠ 0 → m 88 b = c (28 + b.toNat) 7 ∧ m 89 b = c (28 + b.toNat) 8 ∧ m 90 b = c (28 + b.toNat) 9 ∧ m 91 b = c (28 + b.toNat) 10 ∧ m 92 b = c (28 + b.toNat) 11 + c (28 + b.toNat) 3) := by
  have hn := kw_n h
  have k := h.2.2.1 b b0 (by omega)
  exact ⟨k.1, k.2 b1⟩
theorem kv_e (h : KW c m E) {L M : List Str} (hp : L.Perm M) {b t : Int} (b0 : 0 ≤ b) (b1 : b < c 1 11) : eC c L b t = eM m M b t := by
  have k := kv2 h b0 b1
  unfold eC eM
  rw [k.1.1, k.1.2.2, k.2.1.1, k.2.1.2.1, h.2.1.2.2.2.1, h.2.1.2.1]
  exact exam_perm hp _ _ _ _ _ _ _ _
theorem kv_S (h : KW c m E) {w : Int} (w0 : 0 ≤ w) (w1 : w < 5) : m 73 w = c (40 + 2 * w.toNat) 1 ∧ ∀ j : Nat, j < (c (40 + 2 * w.toNat) 1).toNat → m 72 (100 * w + j) = c (40 + 2 * w.toNat + 1) j := by
  have k := h.2.2.2.2.2.1 w w0 w1
  have p := (kw_p h w w0 w1).1
  exact ⟨k.1, fun j hj => k.2 j (by omega) (by omega)⟩
theorem kv_out (h : KW c m E) {w T s : Int} (w0 : 0 ≤ w) (w1 : w < 5) : outL (fun k => m 72 (100 * w + k)) (m 58 6).toNat T s (m 73 w).toNat 0 = outL (fun k => c (40 + 2 * w.toNat + 1) k) (c 1 11).toNat T s (c (40 + 2 * w.toNat) 1).toNat 0 := by
  have k := kv_S h w0 w1
  rw [h.2.1.1, k.1]
  exact outL_congr _ 0 (fun j _ hj => k.2 j (by omega))
theorem kv_pl (h : KW c m E) {w T s : Int} (w0 : 0 ≤ w) (w1 : w < 5) {L M : List Str} (hp : L.Perm M) : (plL (eM m) (dM m) (outL (fun k => m 72 (100 * w + k)) (m 58 6).toNat T s (m 73 w).toNat 0) M).1 = (plL (eC c) (dC c) (outL (fun k => c (40 + 2 * w.toNat + 1) k) (c 1 11).toNat T s (c (40 + 2 * w.toNat) 1).toNat 0) L).1 ∧ ((plL (eC c) (dC c) (outL (fun k => c (40 + 2 * w.toNat + 1) k) (c 1 11).toNat T s (c (40 + 2 * w.toNat) 1).toNat 0) L).2).Perm (plL (eM m) (dM m) (outL (fun k => m 72 (100 * w + k)) (m 58 6).toNat T s (m 73 w).toNat 0) M).2 := by
  have hn := kw_n h
  rw [kv_out h w0 w1]
  have e := plL_congr (E := eM m) (F := eC c) (dl := dM m) (dk := dC c) (outL (fun k => c (40 + 2 * w.toNat + 1) k) (c 1 11).toNat T s (c (40 + 2 * w.toNat) 1).toNat 0) M (fun x hx => by
    have hb := outL_mem _ _ hx
    have b1 : x.1 < c 1 11 := by omega
    exact ⟨fun L t => (kv_e h (List.Perm.refl L) hb.1 b1).symm, (kv2 h hb.1 b1).2.1.1⟩)
  rw [e]
  have q := plL_perm (dl := dC c) (eC_perm c) (outL (fun k => c (40 + 2 * w.toNat + 1) k) (c 1 11).toNat T s (c (40 + 2 * w.toNat) 1).toNat 0) L M hp
  exact ⟨q.1.symm, q.2⟩
theorem K4_mOk {c m : aM} (ho : sOk c 8) (h : K4 c m) : mOk m := by
  obtain ⟨h1, h2, h3, h4⟩ := h
  have hc := ho.1
  refine ⟨by rw [h2]; exact hc, fun i i0 i1 => ?_⟩
  have hm : mS m i ∈ mL m := lst_mem.mpr ⟨i, i0, by omega, rfl⟩
  obtain ⟨j, j0, j1, j2⟩ := (sL_mem ho).mp (h1.mem_iff.mpr hm)
  have k := ho.2.1 j j0 j1
  unfold sF mS at j2
  rw [Prod.mk.injEq, Prod.mk.injEq] at j2
  rw [← j2.1, ← j2.2.1, ← j2.2.2]
  exact k
theorem K4_of {c1 m1 : aM} (hp : (sL c1 8).Perm (mL m1)) (ho : sOk c1 8) (hm : mOk m1) (hd : disL (sL c1 8)) (ht : ∀ s ∈ sL c1 8, 0 ≤ s.2.2) : K4 c1 m1 := by
  refine ⟨hp, ?_, hd, ht⟩
  rw [← mL_len hm, ← sL_len ho, hp.length_eq]
/-- where only strokes change -/
theorem KW_str (hen : enI mr E) (h : KW c m E) {c1 m1 : aM} (fc : ∀ (x : Nat) (j : Int), x < 58 → (x < 8 ∨ 17 < x) → c1 x j = c x j) (fm : frM m m1) (ho : sOk c1 8) (h4 : K4 c1 m1) : KW c1 m1 E := by
  obtain ⟨⟨a1, a2, a3, a4, a5, a6⟩, e1, e2, e3, e4, e5, e6, e7⟩ := h
  have gx : ∀ (x : Nat) (j : Int), (x < 8 ∨ (17 < x ∧ x < 58)) → c1 x j = c x j := fun x j q => fc x j (by omega) (by omega)
  have f58 : ∀ j : Int, j ≠ 18 → m1 58 j = m 58 j := fun j hj => fm _ _ (by omega) (Or.inr hj)
  have fx : ∀ (x : Nat) (j : Int), (59 ≤ x ∧ x < 67) ∨ 70 < x → m1 x j = m x j := fun x j q => fm x j (by omega) (Or.inl (by omega))
  refine ⟨⟨cB_fr a1 (gx _ _ (by decide)) (gx _ _ (by decide)) (fun i j hi => gx _ _ (by omega)), by rw [gx 1 14 (by decide)]; exact a2, ho, fun y y0 y1 => pOk_fr (fun j => gx _ _ (by omega)) (fun j => gx _ _ (by omega)) (a4 y y0 y1), by rw [gx 1 12 (by decide)]; exact a5, fun j j0 j1 => ?_⟩, K1_fr (fun j => gx _ _ (by omega)) (fun j q => f58 j (by omega)) e1, K2_fr (gx _ _ (by decide)) (fun y j q1 q2 => gx _ _ (by omega)) (fun y j q => fx _ _ (by omega)) e2, ?_, h4, K5_fr (fun y j q1 q2 => gx _ _ (by omega)) (fun y j q => fx _ _ (by omega)) e5, K6_fr hen a5.2 (gx _ _ (by decide)) (fun y j q1 q2 => gx _ _ (by omega)) (fun y j q1 q2 => fx _ _ (by omega)) e6, K7_fr (gx _ _ (by decide)) (gx _ _ (by decide)) (gx _ _ (by decide)) (fun j => gx _ _ (by omega)) (fun j q => f58 j (by omega)) (fun j => fx _ _ (by omega)) e7⟩
  · rw [gx 1 12 (by decide)] at j1
    have ej := (hen.1 j j0 (by omega)).2
    have q := a6 j j0 j1
    have g : ∀ z : Int, c1 (E j) z = c (E j) z := fun z => gx _ _ (by omega)
    unfold eOk at *
    rw [g, g, g, g, g]
    exact q
  · obtain ⟨k1, k2, k3, k4⟩ := e3
    refine ⟨by rw [gx 4 _ (by decide), f58 13 (by decide)]; exact k1, by rw [gx 4 _ (by decide), f58 13 (by decide)]; exact k2, by rw [f58 13 (by decide)]; exact k3, fun k q0 q1 => ?_⟩
    rw [fx 64 k (by decide), fx 65 k (by decide), fx 66 k (by decide), gx 5 k (by decide), gx 6 k (by decide), gx 7 k (by decide)]
    exact k4 k q0 q1
/-- from within a tick to between calls -/
theorem KK_lift (h : KK c m E) {c1 m1 : aM} (fc : ∀ (x : Nat) (j : Int), x < 58 → (x < 8 ∨ 17 < x) → c1 x j = c x j) (fm : frM m m1) (hw : KW c1 m1 E) : KK c1 m1 E := by
  obtain ⟨⟨⟨-, b1, b2, b3⟩, d1⟩, -, -, e3, -, -, -, -, e8⟩ := h
  have gx : ∀ (x : Nat) (j : Int), (x < 8 ∨ (17 < x ∧ x < 58)) → c1 x j = c x j := fun x j q => fc x j (by omega) (by omega)
  refine KK_of hw ?_ (by rw [gx 1 16 (by decide), gx 1 13 (by decide)]; exact b2) (fun i hi i1 => by rw [gx 1 11 (by decide)] at i1; rw [gx _ _ (by omega)]; exact b3 i hi i1) (by rw [gx 1 15 (by decide)]; exact d1) ?_ (mX_fr (fm _ _ (by omega) (by omega)) (fm _ _ (by omega) (by omega)) (fun y j q => fm _ _ (by omega) (by omega)) e8)
  · unfold lgOk at *; rw [gx 4 _ (by decide), gx 4 _ (by decide)]; exact b1
  · rw [fm 58 13 (by omega) (by omega), fm 58 9 (by omega) (by omega)]; exact e3.2.2.1.2
theorem pos_L (ho : sOk c 8) : ∀ s ∈ sL c 8, s.2.1 < s.2.2 := fun s hs => by
  obtain ⟨i, i0, i1, i2⟩ := (sL_mem ho).mp hs
  rw [← i2]
  exact (ho.2.1 i i0 i1).2.2.1
/-- a stroke that both let in -/
theorem new_L (h : KW c m E) {L : List Str} {b t : Int} (b0 : 0 ≤ b) (b1 : b < c 1 11) (hp : ∀ s ∈ L, s.2.1 < s.2.2) (h0 : ∀ s ∈ L, 0 ≤ s.2.2) (hd : disL L) (he : eC c L b t = 0) : disL ((b, t - dC c b, t) :: L) ∧ (∀ s ∈ (b, t - dC c b, t) :: L, s.2.1 < s.2.2) ∧ (∀ s ∈ (b, t - dC c b, t) :: L, 0 ≤ s.2.2) := by
  have hn := kw_n h
  have q := kv_bell h (b := b) ⟨b0, by omega⟩
  have ht := eC_t he
  have hd1 : 1 ≤ dC c b ∧ dC c b ≤ 50 := q.1
  refine ⟨disL_new hd q.2.1.1 ht.2.2.2.2 (by omega) hp, fun s hs => ?_, fun s hs => ?_⟩
  · rcases List.mem_cons.mp hs with rfl | hs
    · show t - dC c b < t; omega
    · exact hp s hs
  · rcases List.mem_cons.mp hs with rfl | hs
    · exact ht.1
    · exact h0 s hs
theorem plL_dis (h : KW c m E) : ∀ (q : List (Int × Int)) (L : List Str), (∀ x ∈ q, 0 ≤ x.1 ∧ x.1 < c 1 11) → (∀ s ∈ L, s.2.1 < s.2.2) → (∀ s ∈ L, 0 ≤ s.2.2) → disL L → (plL (eC c) (dC c) q L).1 = 0 → disL (plL (eC c) (dC c) q L).2 ∧ ∀ s ∈ (plL (eC c) (dC c) q L).2, 0 ≤ s.2.2
  | [], L, _, _, h0, hd, _ => ⟨hd, h0⟩
  | y :: r, L, hq, hp, h0, hd, he => by
    have hy := hq y List.mem_cons_self
    by_cases e : eC c L y.1 y.2 = 0
    · rw [plL_ok e] at he ⊢
      have n := new_L h hy.1 hy.2 hp h0 hd e
      exact plL_dis h r _ (fun x hx => hq x (List.mem_cons_of_mem _ hx)) n.2.1 n.2.2 n.1 he
    · rw [plL_no e] at he
      exact absurd he e
/-- a pattern played on both sides -/
theorem pl_keep (h : KW c m E) {w T s : Int} (w0 : 0 ≤ w) (w1 : w < 5) {c1 m1 : aM} (ho : sOk c1 8) (hm : mOk m1) (h0 : (plL (eC c) (dC c) (outL (fun k => c (40 + 2 * w.toNat + 1) k) (c 1 11).toNat T s (c (40 + 2 * w.toNat) 1).toNat 0) (sL c 8)).1 = 0) (hc : ((plL (eC c) (dC c) (outL (fun k => c (40 + 2 * w.toNat + 1) k) (c 1 11).toNat T s (c (40 + 2 * w.toNat) 1).toNat 0) (sL c 8)).2).Perm (sL c1 8)) (hM : ((plL (eM m) (dM m) (outL (fun k => m 72 (100 * w + k)) (m 58 6).toNat T s (m 73 w).toNat 0) (mL m)).2).Perm (mL m1)) : K4 c1 m1 := by
  have hn := kw_n h
  have h4 := h.2.2.2.2.1
  have k := kv_pl h (T := T) (s := s) w0 w1 h4.1
  have d := plL_dis h _ _ (fun x hx => by have := outL_mem _ _ hx; exact ⟨this.1, by omega⟩) (pos_L (kw_ok h)) h4.2.2.2 h4.2.2.1 h0
  exact K4_of ((hc.symm.trans k.2).trans hM) ho hm (disL_perm hc d.1) (fun s hs => d.2 s (hc.mem_iff.mpr hs))
theorem same_keep (h : KW c m E) {c1 m1 : aM} (ho : sOk c1 8) (hm : mOk m1) (hc : sL c1 8 = sL c 8) (hM : mL m1 = mL m) : K4 c1 m1 := by
  have h4 := h.2.2.2.2.1
  exact K4_of (by rw [hc, hM]; exact h4.1) ho hm (by rw [hc]; exact h4.2.2.1) (by rw [hc]; exact h4.2.2.2)
theorem first_det {F G : Int → Int} {T W v u : Int} (e : ∀ t, F t = G t) (h1 : (v = -1 ∧ ∀ x : Int, 0 ≤ x → x ≤ W → F (T + x) ≠ 0) ∨ ((0 ≤ v ∧ v ≤ W) ∧ F (T + v) = 0 ∧ ∀ x : Int, 0 ≤ x → x < v → F (T + x) ≠ 0)) (h2 : (u = -1 ∧ ∀ x : Int, 0 ≤ x → x ≤ W → G (T + x) ≠ 0) ∨ ((0 ≤ u ∧ u ≤ W) ∧ G (T + u) = 0 ∧ ∀ x : Int, 0 ≤ x → x < u → G (T + x) ≠ 0)) : u = v := by
  rcases h1 with ⟨a1, a2⟩ | ⟨a1, a2, a3⟩
  · rcases h2 with ⟨b1, -⟩ | ⟨b1, b2, -⟩
    · omega
    · exact absurd ((e _).trans b2) (a2 u b1.1 b1.2)
  · rcases h2 with ⟨b1, b2⟩ | ⟨b1, b2, b3⟩
    · exact absurd ((e _).symm.trans a2) (b2 v a1.1 a1.2)
    · by_cases x : u < v
      · exact absurd ((e _).trans b2) (a3 u b1.1 x)
      · by_cases y : v < u
        · exact absurd ((e _).symm.trans a2) (b3 v a1.1 y)
        · omega
/-- a weave on both sides -/
theorem wv_eq (hen : enI mr E) (h : KW c m E) {w T s W v u : Int} {c1 m1 : aM} (w0 : 0 ≤ w) (w1 : w < 5) (hP : wvR c c1 w T s W v) (hQ : mwR m m1 w T s W u) : u = v ∧ KW c1 m1 E ∧ (∀ (x : Nat) (j : Int), x < 58 → (x < 8 ∨ 17 < x) → c1 x j = c x j) ∧ frM m m1 := by
  have kS := kv_S h w0 w1
  have h4 := h.2.2.2.2.1
  unfold mwR at hQ
  rw [kS.1] at hQ
  rcases hP with ⟨p1, p2, p3⟩ | ⟨p1, p2, p3, p4⟩
  · rcases hQ with ⟨-, q2, q3⟩ | ⟨q1, -⟩
    · rw [p3, q3]
      exact ⟨by omega, h, fun _ _ _ _ => rfl, fun _ _ _ _ => rfl⟩
    · exact absurd p1 q1
  rcases hQ with ⟨q1, -⟩ | ⟨-, q2, q3, q4⟩
  · exact absurd q1 p1
  have e : ∀ t : Int, okT c (fun k => c (40 + 2 * w.toNat + 1) k) (c 1 11).toNat (c (40 + 2 * w.toNat) 1).toNat s t = okM m w s t := fun t => (kv_pl h w0 w1 h4.1).1.symm
  have huv : u = v := by
    refine first_det (T := T) (W := W) e ?_ ?_
    · rcases p4 with ⟨a1, a2, -⟩ | ⟨a1, a2, a3, -⟩
      · exact Or.inl ⟨a1, a2⟩
      · exact Or.inr ⟨a1, a2, a3⟩
    · rcases q4 with ⟨a1, a2, -⟩ | ⟨a1, a2, a3, -⟩
      · exact Or.inl ⟨a1, a2⟩
      · exact Or.inr ⟨a1, a2, a3⟩
  subst huv
  have fc : ∀ (x : Nat) (j : Int), x < 58 → (x < 8 ∨ 17 < x) → c1 x j = c x j := fun x j _ b => p2 x j b
  refine ⟨rfl, KW_str hen h fc q3 p3 ?_, fc, q3⟩
  rcases p4 with ⟨a1, -, a3⟩ | ⟨a1, a2, -, a4⟩
  · rcases q4 with ⟨-, -, b3⟩ | ⟨b1, -⟩
    · exact same_keep h p3 q2 a3 b3
    · omega
  · rcases q4 with ⟨b1, -⟩ | ⟨-, -, -, b4⟩
    · omega
    · rw [kS.1.symm] at b4
      exact pl_keep h w0 w1 p3 q2 a2 a4 b4
end KWS
