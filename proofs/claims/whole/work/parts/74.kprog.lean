-- part 74: the programme on both sides (printed by wip/whole/gen/p74.py)
section PRG
variable {c m : aM} {E : Int → Nat} {mr : aR}
/-- strokes are of bells that are there -/
def K8 (c : aM) : Prop := ∀ s ∈ sL c 8, s.1 < c 1 11
theorem K8_fr {c1 : aM} (h : K8 c) (f : ∀ (x : Nat) (j : Int), (x = 8 ∧ j = 4) ∨ (9 ≤ x ∧ x ≤ 11) → c1 x j = c x j) (hn : c 1 11 ≤ c1 1 11) : K8 c1 := by
  have e : sL c1 8 = sL c 8 := sL_congr (fun j => ⟨f _ _ (by omega), f _ _ (by omega), f _ _ (by omega)⟩) (f _ _ (by omega))
  intro s hs
  rw [e] at hs
  have := h s hs
  omega
theorem plL_bell {EE : List Str → Int → Int → Int} {dl : Int → Int} : ∀ (q : List (Int × Int)) (L : List Str) (s : Str), s ∈ (plL EE dl q L).2 → s ∈ L ∨ ∃ x ∈ q, s.1 = x.1
  | [], L, s, h => Or.inl h
  | y :: r, L, s, h => by
    by_cases e : EE L y.1 y.2 = 0
    · rw [plL_ok e] at h
      rcases plL_bell r _ s h with h | ⟨x, hx, e1⟩
      · rcases List.mem_cons.mp h with rfl | h
        · exact Or.inr ⟨y, List.mem_cons_self, rfl⟩
        · exact Or.inl h
      · exact Or.inr ⟨x, List.mem_cons_of_mem _ hx, e1⟩
    · rw [plL_no e] at h
      exact Or.inl h
theorem pl_8 (h : K8 c) {S : Int → Int} {T s : Int} {n : Nat} {c1 : aM} (hn0 : 0 ≤ c 1 11) (h11 : c1 1 11 = c 1 11) (hp : ((plL (eC c) (dC c) (outL S (c 1 11).toNat T s n 0) (sL c 8)).2).Perm (sL c1 8)) : K8 c1 := by
  intro z hz
  rw [h11]
  rcases plL_bell _ _ _ (hp.mem_iff.mpr hz) with q | ⟨x, hx, e⟩
  · exact h z q
  · have := outL_mem _ _ hx
    omega
theorem wv_8 (h : K8 c) (hn0 : 0 ≤ c 1 11) {w T s W v : Int} {c1 : aM} (hP : wvR c c1 w T s W v) : K8 c1 := by
  rcases hP with ⟨-, -, p3⟩ | ⟨-, p2, -, p4⟩
  · rw [p3]; exact h
  · have h11 : c1 1 11 = c 1 11 := p2 _ _ (by omega)
    rcases p4 with ⟨-, -, a3⟩ | ⟨-, -, -, a4⟩
    · intro z hz
      rw [a3] at hz
      rw [h11]; exact h z hz
    · exact pl_8 h hn0 h11 a4
theorem co_8 (h : K8 c) (hn0 : 0 ≤ c 1 11) {e : Nat} (he : 50 ≤ e) {r : Int} {c1 : aM} (hP : coR c e r c1) : K8 c1 := by
  obtain ⟨v, cw, hw, hP⟩ := hP
  have h2 := wv_8 h hn0 hw
  rcases hP with ⟨-, -, rfl⟩ | ⟨-, -, -, rfl⟩
  · exact K8_fr h2 (fun x j q => coA_fr (by omega) (by omega)) (by rw [coA_fr (by omega) (by omega)]; exact Int.le_refl _)
  · exact K8_fr h2 (fun x j q => by rw [aup_a (by omega)]; exact coA_fr (by omega) (by omega)) (by rw [aup_a (by omega), coA_fr (by omega) (by omega)]; exact Int.le_refl _)
/-- where only entries, their count and the failures change -/
theorem KW_ent (h : KW c m E) {c1 m1 : aM} {F : Int → Nat} (fc : ∀ (x : Nat) (j : Int), x < 50 → (x ≠ 1 ∨ (j ≠ 12 ∧ j ≠ 16)) → c1 x j = c x j) (fm : ∀ (x : Nat) (j : Int), 58 ≤ x → (x < 80 ∨ 85 < x) → (x ≠ 58 ∨ (j ≠ 42 ∧ j ≠ 43)) → m1 x j = m x j) (h5 : 0 ≤ c1 1 12 ∧ c1 1 12 ≤ 8) (h42 : m1 58 42 = c1 1 12) (h43 : m1 58 43 = c1 1 16) (he : ∀ j : Int, 0 ≤ j → j < c1 1 12 → eOk c1 (F j)) (h6 : K6 c1 m1 F) : KW c1 m1 F := by
  obtain ⟨⟨a1, a2, a3, a4, a5, a6⟩, e1, e2, e3, e4, e5, e6, e7⟩ := h
  have g1 : ∀ j : Int, j ≠ 12 ∧ j ≠ 16 → c1 1 j = c 1 j := fun j hj => fc 1 j (by decide) (Or.inr hj)
  have gx : ∀ (x : Nat) (j : Int), x < 50 → x ≠ 1 → c1 x j = c x j := fun x j q1 q2 => fc x j q1 (Or.inl q2)
  have f58 : ∀ j : Int, j ≠ 42 ∧ j ≠ 43 → m1 58 j = m 58 j := fun j hj => fm _ _ (by decide) (by decide) (Or.inr hj)
  have fx : ∀ (x : Nat) (j : Int), 59 ≤ x → (x < 80 ∨ 85 < x) → m1 x j = m x j := fun x j q1 q2 => fm x j (by omega) q2 (Or.inl (by omega))
  obtain ⟨k1, k2, k3, k4, k5, k6⟩ := e1
  refine ⟨⟨cB_fr a1 (g1 _ (by decide)) (g1 _ (by decide)) (fun i j hi => gx _ _ (by omega) (by omega)), by rw [g1 14 (by decide)]; exact a2, sOk_congr (fun j => ⟨gx _ _ (by omega) (by omega), gx _ _ (by omega) (by omega), gx _ _ (by omega) (by omega)⟩) (gx _ _ (by omega) (by omega)) a3, fun y y0 y1 => pOk_fr (fun j => gx _ _ (by omega) (by omega)) (fun j => gx _ _ (by omega) (by omega)) (a4 y y0 y1), h5, he⟩, ⟨by rw [f58 6 (by decide), g1 11 (by decide)]; exact k1, by rw [f58 7 (by decide), g1 14 (by decide)]; exact k2, by rw [f58 8 (by decide), g1 15 (by decide)]; exact k3, by rw [f58 9 (by decide), g1 13 (by decide)]; exact k4, h42, h43⟩, K2_fr (g1 _ (by decide)) (fun y j q1 q2 => gx _ _ (by omega) (by omega)) (fun y j q => fx _ _ (by omega) (by omega)) e2, ?_, K4_fr (gx _ _ (by omega) (by omega)) (fun y j q1 q2 => gx _ _ (by omega) (by omega)) (f58 _ (by decide)) (fun j _ _ => ⟨fx _ _ (by omega) (by omega), fx _ _ (by omega) (by omega), fx _ _ (by omega) (by omega)⟩) e4, K5_fr (fun y j q1 q2 => gx _ _ (by omega) (by omega)) (fun y j q => fx _ _ (by omega) (by omega)) e5, h6, K7_fr (gx _ _ (by omega) (by omega)) (gx _ _ (by omega) (by omega)) (gx _ _ (by omega) (by omega)) (fun j => gx _ _ (by omega) (by omega)) (fun j q => f58 j (by omega)) (fun j => fx _ _ (by omega) (by omega)) e7⟩
  obtain ⟨k1, k2, k3, k4⟩ := e3
  refine ⟨by rw [gx 4 _ (by decide) (by decide), f58 13 (by decide)]; exact k1, by rw [gx 4 _ (by decide) (by decide), f58 13 (by decide)]; exact k2, by rw [f58 13 (by decide)]; exact k3, fun k q0 q1 => ?_⟩
  rw [fx 64 k (by decide) (by decide), fx 65 k (by decide) (by decide), fx 66 k (by decide) (by decide), gx 5 k (by decide) (by decide), gx 6 k (by decide) (by decide), gx 7 k (by decide) (by decide)]
  exact k4 k q0 q1
theorem coA_56 {e : Nat} {v : Int} (he : e ≠ 1) : coA c e v e 5 = v ∧ coA c e v 1 16 = c 1 16 + (if v = -1 then 1 else 0) := by
  unfold coA
  by_cases q : v = -1
  · rw [if_pos q, if_pos q, aup_a he, aup_eq, aup_eq]; exact ⟨rfl, rfl⟩
  · rw [if_neg q, if_neg q, aup_eq, aup_a (fun z => he z.symm)]; exact ⟨rfl, by omega⟩
theorem mcA_85 {i v : Int} : mcA m i v 85 i = v := by unfold mcA; rw [aup_a (by decide), aup_eq]
theorem co_eq (hen : enI mr E) (h : KW c m E) {i r q : Int} {c1 m1 : aM} (hi : 0 ≤ i ∧ i < c 1 12) (hP : coR c (E i) r c1) (hQ : mcR m i q m1) : q = r ∧ KW c1 m1 E := by
  have h8 := h.1.2.2.2.2.1
  have hek := h.1.2.2.2.2.2 i hi.1 hi.2
  obtain ⟨z0, z1, z2, z3, z4, z5⟩ := h.2.2.2.2.2.2.1 i hi.1 hi.2
  have ei := (hen.1 i hi.1 (by omega)).2
  obtain ⟨v, cw, hw, hP⟩ := hP
  obtain ⟨u, mw, hu, hQ⟩ := hQ
  rw [z0, z1, z3, z4] at hu
  obtain ⟨e0, hK, fc, fm⟩ := wv_eq hen h hek.1.1 hek.1.2 hw hu
  subst e0
  rw [z1, z2] at hQ
  have gE : ∀ (k : Int) (j : Int), 0 ≤ k → k < c 1 12 → cw (E k) j = c (E k) j := fun k j k0 k1 => by
    have ek := (hen.1 k k0 (by omega)).2
    exact fc _ _ (by omega) (by omega)
  have g12 : cw 1 12 = c 1 12 := fc _ _ (by omega) (by omega)
  have hne : ∀ j : Int, 0 ≤ j → j < c 1 12 → j ≠ i → E j ≠ E i := fun j j0 j1 ji e => ji (hen.2 j i j0 (by omega) hi.1 (by omega) e)
  have key : ∀ d : Int, (0 ≤ d ∧ d ≤ 100000) → ∀ (c1 m1 : aM), (∀ (x : Nat) (j : Int), (x ≠ E i ∨ j ≠ 1) → c1 x j = coA cw (E i) u x j) → c1 (E i) 1 = d → (∀ (x : Nat) (j : Int), (x ≠ 81 ∨ j ≠ i) → m1 x j = mcA mw i u x j) → m1 81 i = d → KW c1 m1 E := by
    intro d hd c1 m1 f1 f2 f3 f4
    have h12 : c1 1 12 = cw 1 12 := by rw [f1 _ _ (by omega), coA_fr (by omega) (by omega)]
    have h6w := hK.2.2.2.2.2.2.1
    refine KW_ent hK (fun x j q1 q2 => by rw [f1 _ _ (by omega)]; exact coA_fr (by omega) (by omega)) (fun x j q1 q2 q3 => by rw [f3 _ _ (by omega)]; exact mcA_o (by omega) (by omega)) (by rw [h12, g12]; exact h8) (by rw [h12, f3 _ _ (by omega), mcA_o (by omega) (by omega)]; exact hK.2.1.2.2.2.2.1) (by rw [f1 _ _ (by omega), f3 _ _ (by omega), mcA_f, (coA_56 (by omega)).2, hK.2.1.2.2.2.2.2]) (fun j j0 j1 => ?_) (fun j j0 j1 => ?_)
    · rw [h12, g12] at j1
      have ej := (hen.1 j j0 (by omega)).2
      have k := h.1.2.2.2.2.2 j j0 j1
      by_cases e : j = i
      · subst e
        have g : ∀ y : Int, y ≠ 1 → y ≠ 5 → c1 (E j) y = c (E j) y := fun y y1 y5 => by rw [f1 _ _ (Or.inr y1), coA_fr (by omega) (Or.inr y5), gE j y j0 j1]
        unfold eOk at *
        rw [g 0 (by decide) (by decide), f2, g 2 (by decide) (by decide), g 3 (by decide) (by decide), g 4 (by decide) (by decide)]
        exact ⟨k.1, hd, k.2.2⟩
      · have ne := hne j j0 j1 e
        have g : ∀ y : Int, c1 (E j) y = c (E j) y := fun y => by rw [f1 _ _ (Or.inl ne), coA_fr (by omega) (Or.inl ne), gE j y j0 j1]
        unfold eOk at *
        rw [g, g, g, g, g]
        exact k
    · rw [h12, g12] at j1
      have ej := (hen.1 j j0 (by omega)).2
      have k := h6w j j0 (by rw [g12]; exact j1)
      by_cases e : j = i
      · subst e
        have g : ∀ y : Int, y ≠ 1 → y ≠ 5 → c1 (E j) y = cw (E j) y := fun y y1 y5 => by rw [f1 _ _ (Or.inr y1), coA_fr (by omega) (Or.inr y5)]
        have g5 : c1 (E j) 5 = u := by rw [f1 _ _ (Or.inr (by decide))]; exact (coA_56 (by omega)).1
        rw [g 0 (by decide) (by decide), f2, g 2 (by decide) (by decide), g 3 (by decide) (by decide), g 4 (by decide) (by decide), g5, f4, f3 80 _ (by omega), f3 82 _ (by omega), f3 83 _ (by omega), f3 84 _ (by omega), f3 85 _ (by omega), mcA_o (x := 80) (by omega) (by omega), mcA_o (x := 82) (by omega) (by omega), mcA_o (x := 83) (by omega) (by omega), mcA_o (x := 84) (by omega) (by omega), mcA_85]
        exact ⟨k.1, rfl, k.2.2.1, k.2.2.2.1, k.2.2.2.2.1, rfl⟩
      · have ne := hne j j0 j1 e
        have g : ∀ y : Int, c1 (E j) y = cw (E j) y := fun y => by rw [f1 _ _ (Or.inl ne), coA_fr (by omega) (Or.inl ne)]
        have t : ∀ x : Nat, 80 ≤ x → m1 x j = mw x j := fun x hx => by rw [f3 _ _ (Or.inr e), mcA_o (Or.inr e) (by omega)]
        rw [g, g, g, g, g, g, t 80 (by decide), t 81 (by decide), t 82 (by decide), t 83 (by decide), t 84 (by decide), t 85 (by decide)]
        exact k
  have cA1 : coA cw (E i) u (E i) 1 = c (E i) 1 := by rw [coA_fr (by omega) (Or.inr (by decide)), gE i 1 hi.1 hi.2]
  have mA1 : mcA mw i u 81 i = c (E i) 1 := by rw [mcA_o (by omega) (by omega), fm _ _ (by omega) (by omega), z1]
  rcases hP with ⟨p1, p2, rfl⟩ | ⟨p1, p2, p3, rfl⟩
  · rcases hQ with ⟨q1, -, rfl⟩ | ⟨q1, q2, q3, -⟩
    · exact ⟨by omega, key _ hek.2.1 _ _ (fun _ _ _ => rfl) cA1 (fun _ _ _ => rfl) mA1⟩
    · omega
  · rcases hQ with ⟨q1, q2, -⟩ | ⟨q1, q2, q3, rfl⟩
    · omega
    · refine ⟨by omega, key (c (E i) 1 + c (E i) 2) ⟨by have := hek.2.1; have := hek.2.2.1; omega, p3⟩ _ _ (fun x j a => ?_) (aup_eq _ _ _ _) (fun x j a => ?_) (aup_eq _ _ _ _)⟩
      · rcases a with a | a
        · exact aup_a a
        · exact aup_k a
      · rcases a with a | a
        · exact aup_a a
        · exact aup_k a
theorem KW_drop (hen : enI mr E) (h : KW c m E) {i : Int} (hi : 0 ≤ i ∧ i < c 1 12) {m1 : aM} (hm : deI m m1 i (m 58 42 - 1)) : KW (aup c 1 12 (c 1 12 - 1)) m1 (edr i (c 1 12) E) := by
  have hn0 := h.1.2.2.2.2.1
  have h6 := h.2.2.2.2.2.2.1
  have h42 := h.2.1.2.2.2.2.1
  have hpd := pgI_drop hen h.1 hi
  obtain ⟨m0, m2, m3⟩ := hm
  refine KW_ent h (fun x j q1 q2 => by rcases q2 with q2 | q2; (exact aup_a q2); (exact aup_k q2.1)) (fun x j q1 q2 q3 => m2 x j q2 (by omega)) (by rw [aup_eq]; omega) (by rw [aup_eq, m0, h42]) (by rw [aup_k (by decide), m2 58 43 (by omega) (by omega)]; exact h.2.1.2.2.2.2.2) hpd.2.2.2.2.2 (fun j j0 j1 => ?_)
  rw [aup_eq] at j1
  have hix : ∀ q : Int, 0 ≤ q → q < c 1 12 → 50 ≤ E q := fun q q0 q1 => (hen.1 q q0 (by omega)).2.1
  rw [m3 80 j (by decide) (by decide), m3 81 j (by decide) (by decide), m3 82 j (by decide) (by decide), m3 83 j (by decide) (by decide), m3 84 j (by decide) (by decide), m3 85 j (by decide) (by decide), h42]
  by_cases q : i ≤ j ∧ j < c 1 12 - 1
  · have e9 : edr i (c 1 12) E j = E (j + 1) := if_pos q
    have e8 := hix (j + 1) (by omega) (by omega)
    rw [if_pos q, if_pos q, if_pos q, if_pos q, if_pos q, if_pos q, e9, aup_a (by omega), aup_a (by omega), aup_a (by omega), aup_a (by omega), aup_a (by omega), aup_a (by omega)]
    exact h6 (j + 1) (by omega) (by omega)
  · have e9 : edr i (c 1 12) E j = E j := by unfold edr; rw [if_neg q, if_neg (by omega)]
    have e8 := hix j j0 (by omega)
    rw [if_neg q, if_neg q, if_neg q, if_neg q, if_neg q, if_neg q, e9, aup_a (by omega), aup_a (by omega), aup_a (by omega), aup_a (by omega), aup_a (by omega), aup_a (by omega)]
    exact h6 j j0 (by omega)
theorem enI_drop (hen : enI mr E) {i n : Int} (hi : 0 ≤ i ∧ i < n) (hn : n ≤ 8) : enI (fun _ j => some (edr i n E j)) (edr i n E) := edr_ok hen hi hn (fun _ _ _ => rfl)
end PRG
theorem pr_eq : ∀ (k : Nat) (i : Int) (c m : aM) (E : Int → Nat) (c' m' : aM) (E' : Int → Nat) (mr : aR), enI mr E → KW c m E → K8 c → (0 ≤ i ∧ i + k = c 1 12) → prC k i c E c' E' → pmC k i m m' → KW c' m' E' ∧ K8 c' ∧ ∃ r : aR, enI r E'
  | 0, i, c, m, E, c', m', E', mr, hen, h, h8, hi, hP, hQ => by
    obtain ⟨p1, p2⟩ := hP
    rw [p1, p2, show m' = m from hQ]
    exact ⟨h, h8, mr, hen⟩
  | k + 1, i, c, m, E, c', m', E', mr, hen, h, h8, hi, hP, hQ => by
    have hi2 : 0 ≤ i ∧ i < c 1 12 := by omega
    have hn8 := h.1.2.2.2.2.1
    have ei := (hen.1 i hi2.1 (by omega)).2
    have z1 := (h.2.2.2.2.2.2.1 i hi2.1 hi2.2).2.1
    have hnw := h.2.1.2.2.2.1
    have hn0 := (kw_n h).1
    rcases hP with ⟨p1, p2⟩ | ⟨p1, c1, p2, p3⟩ | ⟨p1, c1, p2, p3⟩
    · rcases hQ with ⟨q1, q2⟩ | ⟨q1, -⟩ | ⟨q1, -⟩
      · exact pr_eq k (i + 1) c m E c' m' E' mr hen h h8 (by omega) p2 q2
      · omega
      · omega
    · rcases hQ with ⟨q1, -⟩ | ⟨q1, m1, q2, q3⟩ | ⟨q1, m1, m2, q2, -⟩
      · omega
      · have e := co_eq hen h hi2 p2 q2
        have hc := pgI_co hen h.1 hi2 p2
        exact pr_eq k (i + 1) c1 m1 E c' m' E' mr hen e.2 (co_8 h8 hn0 (by omega) p2) (by rw [hc.2]; omega) p3 q3
      · have e := co_eq hen h hi2 p2 q2
        omega
    · rcases hQ with ⟨q1, -⟩ | ⟨q1, m1, q2, q3⟩ | ⟨q1, m1, m2, q2, q3, q4⟩
      · omega
      · have e := co_eq hen h hi2 p2 q2
        omega
      · have e := co_eq hen h hi2 p2 q2
        have hc := pgI_co hen h.1 hi2 p2
        have hd := KW_drop hen e.2 (i := i) (by rw [hc.2]; exact hi2) q3
        refine pr_eq k i (aup c1 1 12 (c1 1 12 - 1)) m2 (edr i (c1 1 12) E) c' m' E' _ (enI_drop hen (by rw [hc.2]; exact hi2) (by rw [hc.2]; omega)) hd (K8_fr (co_8 h8 hn0 (by omega) p2) (fun x j q => aup_a (by omega)) (by rw [aup_k (by decide)]; exact Int.le_refl _)) (by rw [aup_eq, hc.2]; omega) p3 q4
