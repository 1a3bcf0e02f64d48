-- part 77: what advance leaves alone; a call on both sides (printed by wip/whole/gen/p77.py)
theorem prC_hi : ∀ (k : Nat) (i : Int) (m : aM) (E : Int → Nat) (m' : aM) (E' : Int → Nat) (r : aR), enI r E → pgI m E → (0 ≤ i ∧ i + k ≤ m 1 12) → prC k i m E m' E' → (∀ (x : Nat) (j : Int), 58 ≤ x → m' x j = m x j) ∧ pgI m' E' ∧ ∃ r' : aR, enI r' E'
  | 0, i, m, E, m', E', r, h1, h2, h3, h4 => by
    obtain ⟨rfl, rfl⟩ := h4
    exact ⟨fun _ _ _ => rfl, h2, r, h1⟩
  | k + 1, i, m, E, m', E', r, h1, h2, h3, h4 => by
    have h5 := h2.2.2.2.2.1
    have he := (h1.1 i (by omega) (by omega)).2
    have ek : ((k + 1 : Nat) : Int) = (k : Int) + 1 := rfl
    rw [ek] at h3
    rcases h4 with ⟨-, h4⟩ | ⟨-, m1, hc, h4⟩ | ⟨-, m1, hc, h4⟩
    · exact prC_hi k (i + 1) m E m' E' r h1 h2 (by omega) h4
    · have hp := pgI_co h1 h2 ⟨by omega, by omega⟩ hc
      obtain ⟨f, -⟩ := coR_fr h2.2.2.1 he hc
      have ih := prC_hi k (i + 1) m1 E m' E' r h1 hp.1 (by rw [hp.2]; omega) h4
      exact ⟨fun x j a => by rw [ih.1 x j a]; exact f _ _ (by omega) (by omega) (by omega), ih.2⟩
    · have hp := pgI_co h1 h2 ⟨by omega, by omega⟩ hc
      obtain ⟨f, -⟩ := coR_fr h2.2.2.1 he hc
      have hd := pgI_drop h1 hp.1 (i := i) ⟨by omega, by rw [hp.2]; omega⟩
      have hen := enI_drop h1 (i := i) (n := m1 1 12) ⟨by omega, by rw [hp.2]; omega⟩ (by rw [hp.2]; omega)
      have ih := prC_hi k i (aup m1 1 12 (m1 1 12 - 1)) (edr i (m1 1 12) E) m' E' _ hen hd (by rw [aup_eq, hp.2]; omega) h4
      exact ⟨fun x j a => by rw [ih.1 x j a, aup_a (by omega)]; exact f _ _ (by omega) (by omega) (by omega), ih.2⟩
theorem tk_hi {c c' : aM} {E E' : Int → Nat} {mr : aR} {g : Int} (hen : enI mr E) (h : avI c E) (hn : c 1 13 < 100000) (hP : tkC c E g c' E') : (∀ (x : Nat) (j : Int), 58 ≤ x → c' x j = c x j) ∧ avI c' E' ∧ (∃ r : aR, enI r E') ∧ c' 1 13 = c 1 13 + 1 := by
  obtain ⟨r0, c1, hts, hpr, -⟩ := hP
  have h11 := h.1.1.1
  have h12 := h.1.2.2.2.2.1
  have h16 := h.2.2.1
  obtain ⟨-, -, d3, d4, d5, d6, d7⟩ := tick_mid h hn (fun j j0 j1 => by have := (hen.1 j j0 (by omega)).2; omega) hts
  obtain ⟨rem, t1, t2, t3, t4, t5, t6, t7⟩ := hts
  have d12 := d6 12 (by decide)
  have d16 := d6 16 (by decide)
  have hp := prC_hi _ 0 _ E c' E' mr hen d3 (by rw [d12]; omega) hpr
  have hav := avI_prC hen d3 d4 d5 (by rw [d16, d7]; omega) (by rw [d12]; exact hpr) hp.2.1
  have hk := prC_keep (mr := mr) _ 0 _ E c' E' mr hen d3 (by rw [d12]; omega) hpr
  refine ⟨fun x j hx => ?_, hav, hp.2.2, ?_⟩
  · have e1 : tbF (c 1 11).toNat 0 (sdF r0.toNat (c 1 11).toNat 0 c1) x j = sdF r0.toNat (c 1 11).toNat 0 c1 x j := tbF_o (Or.inr (by omega)) (c 1 11).toNat 0 _ (by omega)
    have e2 : sdF r0.toNat (c 1 11).toNat 0 c1 x j = c1 x j := sdF_o r0.toNat (Or.inr (Or.inl ⟨by omega, Or.inr (by omega)⟩)) (c 1 11).toNat 0 c1 (by omega)
    rw [hp.1 x j hx, e1, e2, t7 x j (by omega) (by omega) (by omega) (by omega), aup_a (by omega)]
  · rw [hk.1 1 13 (by omega) (by omega)]; exact d7
theorem tkN_hi : ∀ (k : Nat) (c : aM) (E : Int → Nat) (g : Int) (c' : aM) (E' : Int → Nat) (mr : aR), enI mr E → avI c E → c 1 13 + k ≤ 100000 → tkN k c E g c' E' → ∀ (x : Nat) (j : Int), 58 ≤ x → c' x j = c x j
  | 0, c, E, g, c', E', mr, _, _, _, hP, x, j, _ => by rw [hP.2.1]
  | k + 1, c, E, g, c', E', mr, hen, h, hk, ⟨g1, c1, E1, h1, h2⟩, x, j, hx => by
    obtain ⟨a1, a2, ⟨r, a3⟩, a4⟩ := tk_hi hen h (by omega) h1
    exact (tkN_hi k c1 E1 (g - g1) c' E' r a3 a2 (by omega) h2 x j hx).trans (a1 x j hx)
theorem sn_lo {m m' : aM} {b : Int} (h : snR m b m') (x : Nat) (j : Int) (hx : x < 58) : m' x j = m x j := (snR_fr h).1 x j (by omega) (by omega)
theorem snC_lo : ∀ (k : Nat) (b : Int) (m m' : aM), snC k b m m' → ∀ (x : Nat) (j : Int), x < 58 → m' x j = m x j
  | 0, _, m, m', h, x, j, _ => by rw [show m' = m from h]
  | k + 1, b, m, m', ⟨m1, h1, h2⟩, x, j, hx => (snC_lo k (b + 1) m1 m' h2 x j hx).trans (sn_lo h1 x j hx)
theorem mcR_lo {m m' : aM} {i r : Int} (h : mcR m i r m') (x : Nat) (j : Int) (hx : x < 58) : m' x j = m x j := by
  obtain ⟨v, m1, h1, h2⟩ := h
  have f : m1 x j = m x j := by
    rcases h1 with ⟨-, -, h3⟩ | ⟨-, -, h3, -⟩
    · rw [h3]
    · exact h3 x j (by omega) (by omega)
  rcases h2 with ⟨-, -, h3⟩ | ⟨-, -, -, h3⟩
  · rw [h3, mcA_o (by omega) (by omega)]; exact f
  · rw [h3, aup_a (by omega), mcA_o (by omega) (by omega)]; exact f
theorem pmC_lo : ∀ (k : Nat) (i : Int) (m m' : aM), pmC k i m m' → ∀ (x : Nat) (j : Int), x < 58 → m' x j = m x j
  | 0, i, m, m', hc, x, j, _ => by rw [show m' = m from hc]
  | k + 1, i, m, m', hc, x, j, hx => by
    rcases hc with ⟨-, hc⟩ | ⟨-, m1, h1, hc⟩ | ⟨-, m1, m2, h1, h2, hc⟩
    · exact pmC_lo k (i + 1) m m' hc x j hx
    · exact (pmC_lo k (i + 1) m1 m' hc x j hx).trans (mcR_lo h1 x j hx)
    · exact ((pmC_lo k i m2 m' hc x j hx).trans (h2.2.1 x j (by omega) (by omega))).trans (mcR_lo h1 x j hx)
theorem tkM_lo {m m' : aM} (h : tkM m m') (x : Nat) (j : Int) (hx : x < 58) : m' x j = m x j := by
  obtain ⟨m1, h1, h2⟩ := h
  have e1 : mtF (m 58 6).toNat 0 m1 x j = m1 x j := mtF_keep (m 58 6).toNat 0 m1 ⟨by omega, by omega⟩ ⟨by omega, by omega, by omega, by omega⟩
  rw [pmC_lo _ _ _ _ h2 x j hx, e1, snC_lo _ _ _ _ h1 x j hx, aup_a (by omega)]
theorem tkMN_lo : ∀ (k : Nat) (m m' : aM), tkMN k m m' → ∀ (x : Nat) (j : Int), x < 58 → m' x j = m x j
  | 0, m, m', h, x, j, _ => by rw [show m' = m from h]
  | k + 1, m, m', ⟨m1, h1, h2⟩, x, j, hx => (tkMN_lo k m1 m' h2 x j hx).trans (tkM_lo h1 x j hx)
/-- between calls: both sides coupled, and strokes are of bells that are there -/
def RS (mi : aM) (mr : aR) (E : Int → Nat) : Prop := RR mi mr E ∧ K8 mi
theorem lo_up {m : aM} {x : Nat} (h : x < 58) (j : Int) : aup m 58 0 0 x j = m x j := aup_a (by omega)
theorem hi_up {m : aM} {x : Nat} {j : Int} (h : x ≠ 58 ∨ j ≠ 0) : aup m 58 0 0 x j = m x j := by rcases h with h | h; (exact aup_a h); (exact aup_k h)
theorem RS_e {m1 m2 : aM} {s : aR} {E : Int → Nat} (hR : Rok s) (hen : enI s E) (f : ∀ (x : Nat) (j : Int), x < 58 → m2 x j = m1 x j) (h : KK m1 m2 E) (h8 : K8 m1) : RS m2 s E :=
  ⟨RR_end hR hen f h, K8_fr h8 (fun x j q => f x j (by omega)) (by rw [f 1 11 (by omega)]; exact Int.le_refl _)⟩
theorem RS_q {mi m1 m2 : aM} {mr : aR} {E : Int → Nat} (h : RS mi mr E) (fh : ∀ (x : Nat) (j : Int), 58 ≤ x → m1 x j = mi x j) (fl : ∀ (x : Nat) (j : Int), x < 58 → x ≠ 3 → (x < 12 ∨ 17 < x) → (x < 20 ∨ 22 < x) → (x < 25 ∨ 27 < x) → m1 x j = mi x j) (gl : ∀ (x : Nat) (j : Int), x < 58 → m2 x j = m1 x j) (gh : ∀ (x : Nat) (j : Int), 58 ≤ x → (x ≠ 58 ∨ j ≠ 0) → (x < 67 ∨ 70 < x) → (x < 74 ∨ 79 < x) → x < 93 → m2 x j = aup m1 58 0 0 x j) (gs : ∀ j : Int, 0 ≤ j → j < aup m1 58 0 0 58 18 → m2 67 j = aup m1 58 0 0 67 j ∧ m2 68 j = aup m1 58 0 0 68 j ∧ m2 69 j = aup m1 58 0 0 69 j) : RS m2 mr E :=
  ⟨RR_quiet h.1 fh fl gl gh gs, K8_fr h.2 (fun x j q => (gl x j (by omega)).trans (fl x j (by omega) (by omega) (by omega) (by omega) (by omega))) (by rw [gl 1 11 (by omega), fl 1 11 (by omega) (by omega) (by omega) (by omega) (by omega)]; exact Int.le_refl _)⟩
theorem RS_p {mi : aM} {mr : aR} {E : Int → Nat} (h : RS mi mr E) : RS (aup mi 58 0 0) mr E := RS_q h (m1 := mi) (fun _ _ _ => rfl) (fun _ _ _ _ _ _ _ => rfl) (fun x j hx => lo_up hx j) (fun _ _ _ _ _ _ _ => rfl) (fun _ _ _ => ⟨rfl, rfl, rfl⟩)
/-- a call on the class, the same on the model: both come back with the same answer, and the coupling holds -/
def OP (yC : MethodName) (bC : ByteArray) (nC dC : Nat) (yM : MethodName) (bN : ByteArray) (nN dN : Nat) (As : List Value) (mi : aM) (mr : aR) : Prop :=
  ∃ PC : Option Int → Nat → aM → aR → Prop, SPg yC bC nC (some .int) dC (.ref 1 :: As) mi mr PC ∧ ∀ (v : Option Int) (n1 : Nat) (m1 : aM) (s1 : aR), PC v n1 m1 s1 → ∃ r : Int, v = some r ∧ n1 = 94 ∧
    ∃ PM : Option Int → Nat → aM → aR → Prop, SPg yM bN nN (some .int) dN (.ref 58 :: As) m1 s1 PM ∧ ∀ (v2 : Option Int) (n2 : Nat) (m2 : aM) (s2 : aR), PM v2 n2 m2 s2 → v2 = some r ∧ n2 = 94 ∧ ∃ E : Int → Nat, RS m2 s2 E
section OPF
variable {yC yM : MethodName} {bC bN : ByteArray} {nC dC nN dN : Nat} {As : List Value} {mi : aM} {mr : aR} {E : Int → Nat}
theorem OP.g {P : Int → aM → aR → Prop} (hC : SPg yC bC nC (some .int) dC (.ref 1 :: As) mi mr (Pg P)) (hk : ∀ (r : Int) (m1 : aM) (s1 : aR), P r m1 s1 → ∃ Q : Int → aM → Prop, SPg yM bN nN (some .int) dN (.ref 58 :: As) m1 s1 (Pi s1 Q) ∧ ∀ (q : Int) (m2 : aM), Q q m2 → q = r ∧ ∃ F : Int → Nat, RS m2 s1 F) : OP yC bC nC dC yM bN nN dN As mi mr := by
  refine ⟨_, hC, fun v n1 m1 s1 h => ?_⟩
  obtain ⟨r, h1, h2, h3⟩ := h
  obtain ⟨Q, hM, hq⟩ := hk r m1 s1 h3
  refine ⟨r, h1, h2, _, hM, fun v2 n2 m2 s2 h => ?_⟩
  obtain ⟨q, k1, k2, k3, k4⟩ := h
  obtain ⟨e1, F, e2⟩ := hq q m2 k4
  exact ⟨by rw [k1, e1], k2, F, by rw [k3]; exact e2⟩
theorem OP.i {P : Int → aM → Prop} (hC : SPg yC bC nC (some .int) dC (.ref 1 :: As) mi mr (Pi mr P)) (hk : ∀ (r : Int) (m1 : aM), P r m1 → ∃ Q : Int → aM → Prop, SPg yM bN nN (some .int) dN (.ref 58 :: As) m1 mr (Pi mr Q) ∧ ∀ (q : Int) (m2 : aM), Q q m2 → q = r ∧ ∃ F : Int → Nat, RS m2 mr F) : OP yC bC nC dC yM bN nN dN As mi mr := by
  refine ⟨_, hC, fun v n1 m1 s1 h => ?_⟩
  obtain ⟨r, h1, h2, h4, h3⟩ := h
  obtain ⟨Q, hM, hq⟩ := hk r m1 h3
  refine ⟨r, h1, h2, Pi mr Q, by rw [h4]; exact hM, fun v2 n2 m2 s2 h => ?_⟩
  obtain ⟨q, k1, k2, k3, k4⟩ := h
  obtain ⟨e1, F, e2⟩ := hq q m2 k4
  exact ⟨by rw [k1, e1], k2, F, by rw [k3]; exact e2⟩
theorem OP.p {P : Int → Prop} {Q : Int → aM → Prop} (hC : SPg yC bC nC (some .int) dC (.ref 1 :: As) mi mr (Pp mi mr P)) (hM : SPg yM bN nN (some .int) dN (.ref 58 :: As) mi mr (Pi mr Q)) (hk : ∀ (r q : Int) (m2 : aM), P r → Q q m2 → q = r ∧ ∃ F : Int → Nat, RS m2 mr F) : OP yC bC nC dC yM bN nN dN As mi mr := by
  refine ⟨_, hC, fun v n1 m1 s1 h => ?_⟩
  obtain ⟨r, h1, h2, h4, h5, h3⟩ := h
  refine ⟨r, h1, h2, Pi mr Q, by rw [h4, h5]; exact hM, fun v2 n2 m2 s2 h => ?_⟩
  obtain ⟨q, k1, k2, k3, k4⟩ := h
  obtain ⟨e1, F, e2⟩ := hk r q m2 h3 k4
  exact ⟨by rw [k1, e1], k2, F, by rw [k3]; exact e2⟩
/-- both sides only look -/
theorem OP.q {P Q : Int → Prop} (h : RS mi mr E) (hC : SPg yC bC nC (some .int) dC (.ref 1 :: As) mi mr (Pp mi mr P)) (hM : SPg yM bN nN (some .int) dN (.ref 58 :: As) mi mr (Pi mr (fun r m => m = aup mi 58 0 0 ∧ Q r))) (he : ∀ r q : Int, P r → Q q → q = r) : OP yC bC nC dC yM bN nN dN As mi mr :=
  OP.p hC hM (fun r q m2 p1 p2 => ⟨he r q p1 p2.2, E, by rw [p2.1]; exact RS_p h⟩)
end OPF
