-- part 32: advance (printed by wip/whole/gen/p32.py)
theorem sdF_o (x : Nat) {y : Nat} {j : Int} (h : y < 4 ∨ (7 < y ∧ (y < 28 ∨ 40 ≤ y)) ∨ (28 ≤ y ∧ j ≠ 4)) : ∀ (c b : Nat) (m : aM), b + c ≤ 12 → sdF x c b m y j = m y j
  | 0, _, _, _ => rfl
  | c + 1, b, m, hb => by
    by_cases q : x.testBit b = true
    · rw [sdF_yes q, sdF_o x h c (b + 1) _ (by omega)]
      by_cases q2 : 28 ≤ y ∧ j ≠ 4
      · exact sdA_b q2.1 q2.2
      · exact sdA_o (by omega) j
    · rw [sdF_no q, sdF_o x h c (b + 1) _ (by omega)]
theorem tkB_sdF (x : Nat) : ∀ (c b : Nat) (m : aM), b + c ≤ 12 → tkB m → tkB (sdF x c b m)
  | 0, _, _, _, h => h
  | c + 1, b, m, hb, h => by
    by_cases q : x.testBit b = true
    · rw [sdF_yes q]; exact tkB_sdF x c (b + 1) _ (by omega) (tkB_sd h (by omega))
    · rw [sdF_no q]; exact tkB_sdF x c (b + 1) _ (by omega) h
theorem tbA_o {m : aM} {b : Nat} {y : Nat} {j : Int} (h : y < 4 ∨ 7 < y) (h2 : y ≠ 28 + b ∨ (j ≠ 6 ∧ j ≠ 8 ∧ j ≠ 9 ∧ j ≠ 11)) : tbA m b y j = m y j := by
  have k : tnA m (28 + b) y j = m y j := by rcases h2 with h2 | h2; (exact tnA_o h2 j); (exact tnA_k h2 y)
  by_cases q : due m b
  · by_cases q2 : lou (tnA m (28 + b)) b
    · rw [(tbA_l q q2).1, lgA_o (by omega), k]
    · rw [(tbA_q q q2).1, k]
  · rw [(tbA_no q).1]
theorem tbF_o {y : Nat} {j : Int} (h : y < 4 ∨ 7 < y) : ∀ (c b : Nat) (m : aM), (y < 28 + b ∨ 28 + b + c ≤ y ∨ (j ≠ 6 ∧ j ≠ 8 ∧ j ≠ 9 ∧ j ≠ 11)) → tbF c b m y j = m y j
  | 0, _, _, _ => rfl
  | c + 1, b, m, hb => by
    rw [tbF_s, tbF_o h c (b + 1) _ (by omega)]
    exact tbA_o h (by omega)
theorem tkB_tbF : ∀ (c b : Nat) (m : aM), b + c ≤ 12 → tkB m → tkB (tbF c b m)
  | 0, _, _, _, h => h
  | c + 1, b, m, hb, h => by
    rw [tbF_s]
    exact tkB_tbF c (b + 1) _ (by omega) (tkB_tb h (by omega))
/-- a bell's turns lie as they must, before and behind the tick's turns -/
def prel (m : aM) (b : Nat) : Prop := m (28 + b) 11 ≤ m 1 13 ∧ (m (28 + b) 6 ≠ 0 → m 1 13 ≤ m (28 + b) 11 + m (28 + b) 3)
def late (m : aM) (b : Nat) : Prop := m (28 + b) 11 ≤ m 1 13 ∧ (m (28 + b) 6 ≠ 0 → m 1 13 < m (28 + b) 11 + m (28 + b) 3)
theorem tbA_late {m : aM} {b : Nat} (h : prel m b) (h3 : 10 ≤ m (28 + b) 3) : late (tbA m b) b := by
  have key : due m b → late (tnA m (28 + b)) b := by
    intro q
    have q2 := q.2
    unfold late
    rw [tnA_11, tnA_o (a := 28 + b) (x := 1) (by omega), tnA_k (j := 3) (by decide)]
    exact ⟨by omega, fun _ => by omega⟩
  by_cases q : due m b
  · by_cases q2 : lou (tnA m (28 + b)) b
    · rw [(tbA_l q q2).1]
      have := key q
      unfold late at *
      rw [lgA_o (by omega), lgA_o (by omega), lgA_o (by omega), lgA_o (by omega)]
      exact this
    · rw [(tbA_q q q2).1]; exact key q
  · rw [(tbA_no q).1]
    unfold prel at h
    unfold due at q
    refine ⟨h.1, fun hs => ?_⟩
    have := h.2 hs
    have : ¬ m 1 13 = m (28 + b) 11 + m (28 + b) 3 := fun e => q ⟨hs, e⟩
    omega
theorem tbF_late {i : Nat} : ∀ (c b : Nat) (m : aM), prel m i → 10 ≤ m (28 + i) 3 → b ≤ i → i < b + c → late (tbF c b m) i
  | 0, b, _, _, _, h1, h2 => by omega
  | c + 1, b, m, hp, h3, h1, h2 => by
    rw [tbF_s]
    by_cases e : i = b
    · subst e
      have h := tbA_late hp h3
      unfold late at *
      rw [tbF_o (by omega) c (i + 1) _ (by omega), tbF_o (by omega) c (i + 1) _ (by omega), tbF_o (by omega) c (i + 1) _ (by omega), tbF_o (by omega) c (i + 1) _ (by omega)]
      exact h
    · refine tbF_late c (b + 1) _ ?_ ?_ (by omega) (by omega)
      · unfold prel at *
        rw [tbA_o (by omega) (by omega), tbA_o (by omega) (by omega), tbA_o (by omega) (by omega), tbA_o (by omega) (by omega)]
        exact hp
      · rw [tbA_o (by omega) (by omega)]; exact h3
/-- no bell swings that isn't there -/
def nsw (m : aM) : Prop := ∀ i : Nat, i < 12 → m 1 11 ≤ i → m (28 + i) 6 = 0
/-- what holds between ticks -/
def avI (m : aM) (E : Int → Nat) : Prop := pgI m E ∧ lgOk m ∧ (0 ≤ m 1 16 ∧ m 1 16 ≤ 8 * m 1 13) ∧ nsw m
/-- the hammers that sound -/
def tsR (mi : aM) (r0 : Int) (m1 : aM) : Prop := ∃ rem : List Str, (sL mi 8).Perm (rem ++ sL m1 8) ∧ (∀ s ∈ rem, s.2.2 = mi 1 13) ∧ (∀ s ∈ sL m1 8, s.2.2 ≠ mi 1 13) ∧ (0 ≤ r0 ∧ r0 < 4096) ∧ (∀ b : Int, 0 ≤ b → b < 12 → (bit r0 b ↔ ∃ s ∈ rem, s.1 = b)) ∧ sOk m1 8 ∧ ∀ (x : Nat) (j : Int), (x ≠ 8 ∨ j ≠ 4) → x ≠ 9 → x ≠ 10 → x ≠ 11 → m1 x j = mi x j
/-- one tick -/
def tkC (mi : aM) (E : Int → Nat) (g : Int) (m : aM) (E' : Int → Nat) : Prop := ∃ (r0 : Int) (m1 : aM), tsR (aup mi 1 13 (mi 1 13 + 1)) r0 m1 ∧ prC (mi 1 12).toNat 0 (tbF (mi 1 11).toNat 0 (sdF r0.toNat (mi 1 11).toNat 0 m1)) E m E' ∧ g = (cnB r0.toNat (mi 1 11).toNat 0 : Int) + (tbC (mi 1 11).toNat 0 (sdF r0.toNat (mi 1 11).toNat 0 m1) : Int)
def tkN : Nat → aM → (Int → Nat) → Int → aM → (Int → Nat) → Prop
  | 0, m, E, g, m', E' => g = 0 ∧ m' = m ∧ E' = E
  | k + 1, m, E, g, m', E' => ∃ (g1 : Int) (m1 : aM) (E1 : Int → Nat), tkC m E g1 m1 E1 ∧ tkN k m1 E1 (g - g1) m' E'
theorem tkB_of {m : aM} {E : Int → Nat} (h : avI m E) (hn : m 1 13 < 100000) : tkB (aup m 1 13 (m 1 13 + 1)) := by
  obtain ⟨⟨⟨a1, a2, a3⟩, -⟩, hl, -⟩ := h
  refine ⟨by rw [aup_k (by decide)]; exact a1, by rw [aup_eq]; omega, ?_, fun i hi => ?_⟩
  · unfold lgOk at *
    rw [aup_a (by decide), aup_a (by decide)]
    exact hl
  · have k := (a3 i hi).1
    unfold bOk at *
    simp only [aup_a (m := m) (a := 1) (k := 13) (v := m 1 13 + 1) (x := 28 + i) (by omega)]
    exact k
/-- behind hammers and turns -/
theorem tick_mid {m m1 : aM} {E : Int → Nat} {r0 : Int} (h : avI m E) (hn : m 1 13 < 100000) (hE9 : ∀ j : Int, 0 ≤ j → j < m 1 12 → 40 ≤ E j) (ht : tsR (aup m 1 13 (m 1 13 + 1)) r0 m1) : tkB m1 ∧ tkB (sdF r0.toNat (m 1 11).toNat 0 m1) ∧ pgI (tbF (m 1 11).toNat 0 (sdF r0.toNat (m 1 11).toNat 0 m1)) E ∧ lgOk (tbF (m 1 11).toNat 0 (sdF r0.toNat (m 1 11).toNat 0 m1)) ∧ nsw (tbF (m 1 11).toNat 0 (sdF r0.toNat (m 1 11).toNat 0 m1)) ∧ (∀ j : Int, j ≠ 13 → tbF (m 1 11).toNat 0 (sdF r0.toNat (m 1 11).toNat 0 m1) 1 j = m 1 j) ∧ tbF (m 1 11).toNat 0 (sdF r0.toNat (m 1 11).toNat 0 m1) 1 13 = m 1 13 + 1 := by
  have hT := tkB_of h hn
  obtain ⟨⟨⟨a1, a2, a3⟩, b2, b3, b4, b5, b6⟩, hl, hf, hs⟩ := h
  obtain ⟨rem, t1, t2, t3, t4, t5, t6, t7⟩ := ht
  have f1 : ∀ (x : Nat) (j : Int), x < 8 ∨ 11 < x → (x ≠ 1 ∨ j ≠ 13) → m1 x j = m x j := fun x j a b => by
    rw [t7 x j (by omega) (by omega) (by omega) (by omega)]
    rcases b with b | b
    · exact aup_a b
    · exact aup_k b
  have f13 : m1 1 13 = m 1 13 + 1 := by rw [t7 1 13 (by omega) (by omega) (by omega) (by omega), aup_eq]
  have hT1 : tkB m1 := by
    obtain ⟨h1, h2, h3, h4⟩ := hT
    refine ⟨by rw [t7 1 11 (by omega) (by omega) (by omega) (by omega)]; exact h1, by rw [t7 1 13 (by omega) (by omega) (by omega) (by omega)]; exact h2, ?_, fun i hi => ?_⟩
    · unfold lgOk at *; rw [t7 4 3 (by omega) (by omega) (by omega) (by omega), t7 4 4 (by omega) (by omega) (by omega) (by omega)]; exact h3
    · have k := h4 i hi
      unfold bOk at *
      simp only [t7 (28 + i) _ (Or.inl (by omega)) (by omega) (by omega) (by omega)]
      exact k
  have hnb : (m 1 11).toNat ≤ 12 := by omega
  have hT2 := tkB_sdF r0.toNat (m 1 11).toNat 0 m1 (by omega) hT1
  have hT3 := tkB_tbF (m 1 11).toNat 0 _ (by omega) hT2
  have f2 : ∀ (x : Nat) (j : Int), (x < 4 ∨ (7 < x ∧ (x < 28 ∨ 40 ≤ x)) ∨ (28 ≤ x ∧ j ≠ 4)) → sdF r0.toNat (m 1 11).toNat 0 m1 x j = m1 x j := fun x j a => sdF_o _ a _ _ _ (by omega)
  have f3 : ∀ (x : Nat) (j : Int), (x < 4 ∨ 7 < x) → (x < 28 ∨ 40 ≤ x ∨ (j ≠ 6 ∧ j ≠ 8 ∧ j ≠ 9 ∧ j ≠ 11)) → tbF (m 1 11).toNat 0 (sdF r0.toNat (m 1 11).toNat 0 m1) x j = sdF r0.toNat (m 1 11).toNat 0 m1 x j := fun x j a b => tbF_o a _ _ _ (by omega)
  have g1 : ∀ j : Int, j ≠ 13 → tbF (m 1 11).toNat 0 (sdF r0.toNat (m 1 11).toNat 0 m1) 1 j = m 1 j := fun j hj => by rw [f3 1 j (by omega) (by omega), f2 1 j (by omega), f1 1 j (by omega) (by omega)]
  have g13 : tbF (m 1 11).toNat 0 (sdF r0.toNat (m 1 11).toNat 0 m1) 1 13 = m 1 13 + 1 := by rw [f3 1 13 (by omega) (by omega), f2 1 13 (by omega), f13]
  have gf : ∀ (x : Nat) (j : Int), (11 < x ∧ x < 28) ∨ 40 ≤ x → tbF (m 1 11).toNat 0 (sdF r0.toNat (m 1 11).toNat 0 m1) x j = m x j := fun x j a => by rw [f3 x j (by omega) (by omega), f2 x j (by omega), f1 x j (by omega) (by omega)]
  have gs : ∀ (x : Nat) (j : Int), 8 ≤ x ∧ x ≤ 11 → tbF (m 1 11).toNat 0 (sdF r0.toNat (m 1 11).toNat 0 m1) x j = m1 x j := fun x j a => by rw [f3 x j (by omega) (by omega), f2 x j (by omega)]
  have gn : ∀ (i : Nat) (j : Int), (m 1 11).toNat ≤ i → j ≠ 4 → tbF (m 1 11).toNat 0 (sdF r0.toNat (m 1 11).toNat 0 m1) (28 + i) j = m (28 + i) j := fun i j a b => by rw [tbF_o (by omega) _ _ _ (by omega), f2 _ _ (by omega), f1 _ _ (by omega) (by omega)]
  refine ⟨hT1, hT2, ⟨⟨by rw [g1 11 (by decide)]; exact a1, by rw [g13]; omega, fun i hi => ⟨hT3.2.2.2 i hi, ?_⟩⟩, by rw [g1 14 (by decide)]; exact b2, sOk_congr (fun j => ⟨gs _ _ (by omega), gs _ _ (by omega), gs _ _ (by omega)⟩) (gs _ _ (by omega)) t6, fun x x0 x1 => pOk_fr (fun j => gf _ _ (by omega)) (fun j => gf _ _ (by omega)) (b4 x x0 x1), by rw [g1 12 (by decide)]; exact b5, fun j j0 j1 => ?_⟩, hT3.2.2.1, fun i hi q => ?_, g1, g13⟩
  · by_cases q : i < (m 1 11).toNat
    · have e : ∀ j : Int, j ≠ 4 → sdF r0.toNat (m 1 11).toNat 0 m1 (28 + i) j = m (28 + i) j := fun j hj => by rw [f2 _ _ (by omega), f1 _ _ (by omega) (by omega)]
      have hp : prel (sdF r0.toNat (m 1 11).toNat 0 m1) i := by
        unfold prel
        rw [e 11 (by decide), e 6 (by decide), e 3 (by decide), f2 1 13 (by omega), f13]
        have := a3 i hi
        refine ⟨by omega, fun hs9 => ?_⟩
        have := this.2.2 hs9
        omega
      have hl9 := tbF_late (m 1 11).toNat 0 _ hp (by rw [e 3 (by decide)]; exact (a3 i hi).1.2.2.2.1.1) (by omega) (by omega)
      unfold late at hl9
      exact hl9
    · have hz := hs i hi (by omega)
      rw [gn i 11 (by omega) (by decide), gn i 6 (by omega) (by decide), g13]
      have := a3 i hi
      exact ⟨by omega, fun q9 => absurd hz q9⟩
  · rw [g1 12 (by decide)] at j1
    have k := b6 j j0 j1
    by_cases q : 40 ≤ E j
    · unfold eOk at *
      simp only [gf (E j) _ (Or.inr q)]
      exact k
    · exact absurd q (by have := hE9 j j0 j1; omega)
  · rw [g1 11 (by decide)] at q
    rw [gn i 6 (by omega) (by decide)]
    exact hs i hi q
theorem prC_keep {mr : aR} : ∀ (k : Nat) (i : Int) (m : aM) (E : Int → Nat) (m' : aM) (E' : Int → Nat) (r : aR), enI r E → pgI m E → (0 ≤ i ∧ i + k ≤ m 1 12) → prC k i m E m' E' → (∀ (x : Nat) (j : Int), (x < 8 ∨ (17 < x ∧ x < 50)) → (x ≠ 1 ∨ (j ≠ 12 ∧ j ≠ 16)) → m' x j = m x j) ∧ (m 1 16 ≤ m' 1 16 ∧ m' 1 16 ≤ m 1 16 + k)
  | 0, i, m, E, m', E', r, h1, h2, h3, h4 => by
    obtain ⟨rfl, -⟩ := h4
    exact ⟨fun _ _ _ _ => rfl, by omega⟩
  | k + 1, i, m, E, m', E', r, h1, h2, h3, h4 => by
    have h5 := h2.2.2.2.2.1
    have he := (h1.1 i (by omega) (by omega)).2
    have ek : ((k + 1 : Nat) : Int) = (k : Int) + 1 := rfl
    rw [ek] at h3 ⊢
    rcases h4 with ⟨-, h4⟩ | ⟨-, m1, hc, h4⟩ | ⟨-, m1, hc, h4⟩
    · have := prC_keep (mr := mr) k (i + 1) m E m' E' r h1 h2 (by omega) h4
      exact ⟨this.1, by omega⟩
    · have hp := pgI_co h1 h2 ⟨by omega, by omega⟩ hc
      obtain ⟨f, o, k16, -⟩ := coR_fr h2.2.2.1 he hc
      have := prC_keep (mr := mr) k (i + 1) m1 E m' E' r h1 hp.1 (by rw [hp.2]; omega) h4
      exact ⟨fun x j a b => by rw [this.1 x j a b]; exact f _ _ (by omega) (by omega) (by omega), by omega⟩
    · have hp := pgI_co h1 h2 ⟨by omega, by omega⟩ hc
      obtain ⟨f, o, k16, -⟩ := coR_fr h2.2.2.1 he hc
      have hd := pgI_drop h1 hp.1 (i := i) ⟨by omega, by rw [hp.2]; omega⟩
      have hen : enI (fun a j => if a = 24 then some (edr i (m1 1 12) E j) else r a j) (edr i (m1 1 12) E) := edr_ok h1 ⟨by omega, by rw [hp.2]; omega⟩ (by rw [hp.2]; omega) (fun j j0 j1 => if_pos rfl)
      have := prC_keep (mr := mr) k i (aup m1 1 12 (m1 1 12 - 1)) (edr i (m1 1 12) E) m' E' _ hen hd (by rw [aup_eq, hp.2]; omega) h4
      rw [aup_k (a := 1) (x := 1) (j := 16) (by decide)] at this
      refine ⟨fun x j a b => ?_, by omega⟩
      rw [this.1 x j a b]
      by_cases q : x = 1
      · rw [aup_k (by omega)]; exact f _ _ (by omega) (by omega) (by omega)
      · rw [aup_a q]; exact f _ _ (by omega) (by omega) (by omega)
theorem avI_prC {m m' : aM} {mr : aR} {E E' : Int → Nat} (hen : enI mr E) (hp : pgI m E) (hl : lgOk m) (hs : nsw m) (hf : 0 ≤ m 1 16 ∧ m 1 16 + 8 ≤ 8 * m 1 13) (hc : prC (m 1 12).toNat 0 m E m' E') (hp' : pgI m' E') : avI m' E' := by
  have h5 := hp.2.2.2.2.1
  obtain ⟨f, k⟩ := prC_keep (mr := mr) _ 0 m E m' E' mr hen hp (by omega) hc
  refine ⟨hp', ?_, ?_, fun i hi q => ?_⟩
  · unfold lgOk at *
    rw [f 4 3 (by omega) (by omega), f 4 4 (by omega) (by omega)]
    exact hl
  · rw [f 1 13 (by omega) (by omega)]; omega
  · rw [f 1 11 (by omega) (by omega)] at q
    rw [f (28 + i) 6 (by omega) (by omega)]
    exact hs i hi q
theorem l_adv {mr0 : aR} (hR0 : Rok mr0) {mi : aM} {E0 : Int → Nat} {t : Int} (ht : 0 ≤ t ∧ t ≤ 2000) (hno : mi 1 13 + t ≤ 100000) : ∀ (n : Nat) (r : aR) (m : aM) (E : Int → Nat) (g z : Int), enI r E → fr24 mr0 r → avI m E → (0 ≤ z ∧ z ≤ t ∧ m 1 13 + z ≤ 100000) → (0 ≤ g ∧ g + 24 * z ≤ 48000) → (∀ (k : Int) (m' : aM) (E' : Int → Nat), tkN z.toNat m E k m' E' → tkN t.toNat mi E0 (g + k) m' E') → z < n → AWm RX6 cX6_advance 4 8 (Pg (fun r m s => (¬ (0 ≤ t ∧ t ≤ 2000) ∧ r = -3 ∧ m = mi ∧ s = mr0) ∨ ((0 ≤ t ∧ t ≤ 2000) ∧ 100000 < mi 1 13 + t ∧ r = -4 ∧ m = mi ∧ s = mr0) ∨ ((0 ≤ t ∧ t ≤ 2000) ∧ mi 1 13 + t ≤ 100000 ∧ ∃ E : Int → Nat, tkN t.toNat mi E0 r m E ∧ enI s E ∧ fr24 mr0 s ∧ avI m E))) 32 [(0, .ref 1), (1, iI t), (2, iI g), (3, iI z)] [] m r := by
  intro n
  induction n with
  | zero => intro r m E g z h1 hf h2 h3 h4 h5 h6; omega
  | succ n ih =>
    intro r m E g z h1 hf h2 h3 h4 h5 h6
    have hR := Rok_fr hR0 hf
    have hnw := h2.1.1.2.1
    have hnn := h2.1.1.1
    have h12 := h2.1.2.2.2.2.1
    refine aw_iload_n (i := 3) (q := 3) dX6_advance_32 rfl rfl ?_
    refine aw_if_le (tgt := 70) dX6_advance_33 (by decide) (by first | assumption | omega) (fun c33 => ?_) (fun c33 => ?_)
    · refine aw_iload_n (i := 2) (q := 2) dX6_advance_70 rfl rfl ?_
      exact aw_iret ⟨_, rfl, rfl, Or.inr (Or.inr ⟨ht, hno, E, by have h9 := h5 0 m E (by rw [show z.toNat = 0 by omega]; exact ⟨rfl, rfl, rfl⟩); rw [Int.add_zero] at h9; exact h9, h1, hf, h2⟩)⟩ (Nat.le_refl _) (Nat.le_refl _) dX6_advance_71
    · refine aw_aload_n (i := 0) (q := 0) dX6_advance_36 rfl rfl ?_
      refine aw_dup dX6_advance_37 rfl ?_
      refine aw_getIk (x := m 1 13) 13 flX6_73 SH_1 (by decide) rfl rfl rfl dX6_advance_38 (fun r38 => ?_)
      refine aw_iconst dX6_advance_41 ?_
      refine aw_iadd dX6_advance_42 ?_
      refine aw_putIk 13 flX6_73 SH_1 (by decide) rfl rfl rfl (by first | assumption | omega) dX6_advance_43 ?_
      refine aw_iload_n (i := 2) (q := 2) dX6_advance_46 rfl rfl ?_
      refine aw_aload_n (i := 0) (q := 0) dX6_advance_47 rfl rfl ?_
      refine aw_cVi (As := []) (st := [iI g]) clX6_108 (s_X6_soundHammers (mi := aup m 1 13 (m 1 13 + 1)) hR (tkB_of h2 (by omega)) (sOk_congr (fun j => ⟨aup_a (by decide), aup_a (by decide), aup_a (by decide)⟩) (aup_a (by decide)) h2.1.2.2.1)) SH_1 rfl (by decide) rfl rfl (Nat.le_of_ble_eq_true rfl) (by decide) (by decide) (Nat.le_refl _) (Nat.le_refl _) dX6_advance_48 (fun v48 m2 hv48 => ?_)
      obtain ⟨r0, m1, hts, hm2, hv9⟩ := hv48
      have e11 : (aup m 1 13 (m 1 13 + 1)) 1 11 = m 1 11 := aup_k (by decide)
      rw [e11] at hm2 hv9
      subst hm2
      have hmid := tick_mid h2 (by omega) (fun j j0 j1 => by have := (h1.1 j j0 (by omega)).2; omega) hts
      have hcb := cnB_le r0.toNat (m 1 11).toNat 0
      refine aw_iadd dX6_advance_51 ?_
      refine aw_istore_n (i := 2) (lv' := [(0, .ref 1), (1, iI t), (2, iI (g + v48)), (3, iI z)]) [1, 2, 0, 3] dX6_advance_52 rfl (by decide) rfl ?_
      refine aw_iload_n (i := 2) (q := 2) dX6_advance_53 rfl rfl ?_
      refine aw_aload_n (i := 0) (q := 0) dX6_advance_54 rfl rfl ?_
      refine aw_cVi (As := []) (st := [iI (g + v48)]) clX6_112 (s_X6_turnBells hR hmid.2.1) SH_1 rfl (by decide) rfl rfl (Nat.le_of_ble_eq_true rfl) (by decide) (by decide) (Nat.le_refl _) (Nat.le_refl _) dX6_advance_55 (fun v55 m3 hv55 => ?_)
      obtain ⟨hm3, hv8⟩ := hv55
      have e12 : sdF r0.toNat (m 1 11).toNat 0 m1 1 11 = m 1 11 := by obtain ⟨rem, t1, t2, t3, t4, t5, t6, t7⟩ := hts; rw [sdF_o _ (by omega) _ _ _ (by omega), t7 1 11 (by omega) (by omega) (by omega) (by omega)]; exact e11
      rw [e12] at hm3 hv8
      subst hm3
      have htc := tbC_le (m 1 11).toNat 0 (sdF r0.toNat (m 1 11).toNat 0 m1)
      obtain ⟨-, -, hpg, hlg, hns, hk1, hk13⟩ := hmid
      have k16 := hk1 16 (by decide)
      have k12 := hk1 12 (by decide)
      have hf8 := h2.2.2.1
      refine aw_iadd dX6_advance_58 ?_
      refine aw_istore_n (i := 2) (lv' := [(0, .ref 1), (1, iI t), (2, iI ((g + v48) + v55)), (3, iI z)]) [1, 2, 0, 3] dX6_advance_59 rfl (by decide) rfl ?_
      refine aw_aload_n (i := 0) (q := 0) dX6_advance_60 rfl rfl ?_
      refine aw_cVw (As := []) (st := []) clX6_115 (s_X6_runProgramme hR h1 hpg (by omega)) SH_1 rfl (by decide) rfl rfl (Nat.le_of_ble_eq_true rfl) (by decide) (by decide) (Nat.le_refl _) (Nat.le_refl _) dX6_advance_61 (fun m4 r4 hv61 => ?_)
      obtain ⟨E4, hpc, hen4, hf4, hpg4⟩ := hv61
      have hav := avI_prC h1 hpg hlg hns (by omega) hpc hpg4
      have hkp := (prC_keep (mr := r) _ 0 _ E m4 E4 r h1 hpg (by omega) hpc).1
      have k13 : m4 1 13 = m 1 13 + 1 := by rw [hkp 1 13 (by omega) (by omega)]; exact hk13
      rw [k12] at hpc
      refine aw_iinc (i := 3) (q := 3) (x := z) (lv' := [(0, .ref 1), (1, iI t), (2, iI ((g + v48) + v55)), (3, iI (z + -1))]) [1, 2, 3, 0] dX6_advance_64 rfl (by decide) rfl ?_
      refine aw_goto (tgt := 32) dX6_advance_67 (by decide) ?_
      exact ih r4 m4 E4 _ (z - 1) hen4 (fun a j h => (hf4 a j h).trans (hf a j h)) hav (by omega) (by omega) (fun k m' E' h => by have h9 := h5 (v48 + v55 + k) m' E' (by rw [show z.toNat = (z - 1).toNat + 1 by omega]; exact ⟨v48 + v55, m4, E4, ⟨r0, m1, hts, hpc, by omega⟩, by rw [show v48 + v55 + k - (v48 + v55) = k by omega]; exact h⟩); rw [show g + v48 + v55 + k = g + (v48 + v55 + k) by omega]; exact h9) (by omega)
theorem s_X6_advance {mr : aR} (hR : Rok mr) {mi : aM} {t : Int} (h_t : -2147483648 ≤ t ∧ t ≤ 2147483647) {E0 : Int → Nat} (hen : enI mr E0) (hav : avI mi E0) : SPg yX6_advance cX6_advance 4 (some .int) 8 [.ref 1, iI t] mi mr (Pg (fun r m s => (¬ (0 ≤ t ∧ t ≤ 2000) ∧ r = -3 ∧ m = mi ∧ s = mr) ∨ ((0 ≤ t ∧ t ≤ 2000) ∧ 100000 < mi 1 13 + t ∧ r = -4 ∧ m = mi ∧ s = mr) ∨ ((0 ≤ t ∧ t ≤ 2000) ∧ mi 1 13 + t ≤ 100000 ∧ ∃ E : Int → Nat, tkN t.toNat mi E0 r m E ∧ enI s E ∧ fr24 mr s ∧ avI m E))) := by
  refine SPg.gint rfl (by decide +kernel) (Nat.le_of_ble_eq_true rfl) ?_
  show AWm RX6 cX6_advance 4 8 _ 0 [(0, .ref 1), (1, iI t)] [] mi mr
  have hnw := hav.1.1.2.1
  refine aw_iload_n (i := 1) (q := 1) dX6_advance_0 rfl rfl ?_
  refine aw_iconst dX6_advance_1 ?_
  refine aw_sipush (x := 2000) dX6_advance_2 rfl ?_
  refine aw_cSp (As := [iI t, iI 0, iI 2000]) (st := []) clX6_87 (s_X6_outside hR (by omega) (by omega) (by omega)) rfl rfl (Nat.le_of_ble_eq_true rfl) (by decide) (by decide) (Nat.le_refl _) (Nat.le_refl _) dX6_advance_5 (fun v5 hv5 => ?_)
  refine aw_if_eq (tgt := 14) dX6_advance_8 (by decide) (by first | assumption | omega) (fun c8 => ?_) (fun c8 => ?_)
  · refine aw_aload_n (i := 0) (q := 0) dX6_advance_14 rfl rfl ?_
    refine aw_getIk (x := mi 1 13) 13 flX6_73 SH_1 (by decide) rfl rfl rfl dX6_advance_15 (fun r15 => ?_)
    refine aw_iload_n (i := 1) (q := 1) dX6_advance_18 rfl rfl ?_
    refine aw_iadd dX6_advance_19 ?_
    refine aw_ldc (x := 100000) coX6_107 rfl dX6_advance_20 ?_
    refine aw_icmp_le (tgt := 28) dX6_advance_22 (by decide) (by first | assumption | omega) (by decide) (fun c22 => ?_) (fun c22 => ?_)
    · refine aw_iconst dX6_advance_28 ?_
      refine aw_istore_n (i := 2) (lv' := [(0, .ref 1), (1, iI t), (2, iI 0)]) [1, 2, 0] dX6_advance_29 rfl (by decide) rfl ?_
      refine aw_iload_n (i := 1) (q := 1) dX6_advance_30 rfl rfl ?_
      refine aw_istore_n (i := 3) (lv' := [(0, .ref 1), (1, iI t), (2, iI 0), (3, iI t)]) [1, 2, 3, 0] dX6_advance_31 rfl (by decide) rfl ?_
      exact l_adv hR ⟨by omega, by omega⟩ (by omega) (t.toNat + 1) mr mi E0 0 t hen (fun _ _ _ => rfl) hav (by omega) (by omega) (fun k m' E' h => by rw [Int.zero_add]; exact h) (by omega)
    · refine aw_bipush (x := -4) dX6_advance_25 rfl ?_
      exact aw_iret ⟨_, rfl, rfl, Or.inr (Or.inl ⟨by omega, by omega, rfl, rfl, rfl⟩)⟩ (Nat.le_refl _) (Nat.le_refl _) dX6_advance_27
  · refine aw_bipush (x := -3) dX6_advance_11 rfl ?_
    exact aw_iret ⟨_, rfl, rfl, Or.inl ⟨by omega, rfl, rfl, rfl⟩⟩ (Nat.le_refl _) (Nat.le_refl _) dX6_advance_13
