-- part 67: the coupling of both sides (printed by wip/whole/gen/p67.py)
/-- strokes of one bell lie apart -/
def disS (s t : Str) : Prop := s.1 = t.1 → s.2.2 ≤ t.2.1 ∨ t.2.2 ≤ s.2.1
def disL : List Str → Prop
  | [] => True
  | s :: L => (∀ t ∈ L, disS s t) ∧ disL L
theorem disS_sym {s t : Str} (h : disS s t) : disS t s := fun e => (h e.symm).symm
theorem disL_perm {L M : List Str} (h : L.Perm M) : disL L → disL M := by
  induction h with
  | nil => exact id
  | cons x h ih => exact fun q => ⟨fun a ha => q.1 a (h.mem_iff.mpr ha), ih q.2⟩
  | swap x y l =>
    intro q
    refine ⟨fun a ha => ?_, fun a ha => q.1 a (List.mem_cons_of_mem _ ha), q.2.2⟩
    rcases List.mem_cons.mp ha with rfl | ha
    · exact disS_sym (q.1 x List.mem_cons_self)
    · exact q.2.1 a ha
  | trans _ _ ih1 ih2 => exact fun q => ih2 (ih1 q)
theorem disL_app {L M : List Str} (h : disL (L ++ M)) : disL M ∧ disL L := by
  induction L with
  | nil => exact ⟨h, trivial⟩
  | cons s L ih =>
    have h2 := ih h.2
    exact ⟨h2.1, fun t ht => h.1 t (List.mem_append_left _ ht), h2.2⟩
/-- two strokes of a bell at one time are one -/
theorem disL_uni {L : List Str} (hp : ∀ s ∈ L, s.2.1 < s.2.2) : disL L → ∀ s ∈ L, ∀ t ∈ L, s.1 = t.1 → s.2.2 = t.2.2 → s = t := by
  induction L with
  | nil => intro _ s hs; cases hs
  | cons a L ih =>
    intro h s hs t ht e1 e2
    have hps := hp s hs
    have hpt := hp t ht
    rcases List.mem_cons.mp hs with hs2 | hs2
    · rcases List.mem_cons.mp ht with ht2 | ht2
      · rw [hs2, ht2]
      · have := h.1 t ht2 (by rw [← hs2]; exact e1); rw [hs2] at hps e2; omega
    · rcases List.mem_cons.mp ht with ht2 | ht2
      · have := h.1 s hs2 (by rw [← ht2]; exact e1.symm); rw [ht2] at hpt e2; omega
      · exact ih (fun s hs => hp s (List.mem_cons_of_mem _ hs)) h.2 s hs2 t ht2 e1 e2
theorem disL_new {L : List Str} {b c t e : Int} (h : disL L) (he : 0 ≤ e) (hn : ¬ clash L b c t e) (hct : c < t) (hp : ∀ s ∈ L, s.2.1 < s.2.2) : disL ((b, c, t) :: L) := by
  refine ⟨fun s hs e1 => ?_, h⟩
  have e1 : b = s.1 := e1
  show t ≤ s.2.1 ∨ s.2.2 ≤ c
  have hps := hp s hs
  by_cases q : s.2.1 < t + e ∧ c < s.2.2 + e
  · exact absurd ⟨s, hs, e1.symm, q⟩ hn
  · omega
/-- the class's invariant -/
def CI (c : aM) (E : Int → Nat) : Prop := avI c E ∧ (0 ≤ c 1 15 ∧ c 1 15 ≤ 100000)
/-- class cells read from c, the model's from m -/
def K1 (c m : aM) : Prop := m 58 6 = c 1 11 ∧ m 58 7 = c 1 14 ∧ m 58 8 = c 1 15 ∧ m 58 9 = c 1 13 ∧ m 58 42 = c 1 12 ∧ m 58 43 = c 1 16
def K2 (c m : aM) : Prop := ∀ b : Int, 0 ≤ b → b < 12 → (m 63 b = c (28 + b.toNat) 4 ∧ m 87 b = c (28 + b.toNat) 5 ∧ m 86 b = c (28 + b.toNat) 6) ∧ (b < c 1 11 → (m 59 b = c (28 + b.toNat) 0 ∧ m 60 b = c (28 + b.toNat) 1 ∧ m 61 b = c (28 + b.toNat) 2 ∧ m 62 b = c (28 + b.toNat) 3) ∧ (c (28 + b.toNat) 6 ≠ 0 → m 88 b = c (28 + b.toNat) 7 ∧ m 89 b = c (28 + b.toNat) 8 ∧ m 90 b = c (28 + b.toNat) 9 ∧ m 91 b = c (28 + b.toNat) 10 ∧ m 92 b = c (28 + b.toNat) 11 + c (28 + b.toNat) 3))
def K3 (c m : aM) : Prop := c 4 3 = (if m 58 13 < 200 then m 58 13 else 200) ∧ c 4 4 = m 58 13 % 200 ∧ (0 ≤ m 58 13 ∧ m 58 13 ≤ 24 * m 58 9) ∧ ∀ k : Int, 0 ≤ k → k < 200 → m 64 k = c 5 k ∧ m 65 k = c 6 k ∧ m 66 k = c 7 k ∧ (m 66 k = 0 ∨ m 66 k = 1)
def K4 (c m : aM) : Prop := (sL c 8).Perm (mL m) ∧ m 58 18 = c 8 4 ∧ disL (sL c 8) ∧ ∀ s ∈ sL c 8, 0 ≤ s.2.2
def K5 (c m : aM) : Prop := ∀ w : Int, 0 ≤ w → w < 5 → m 73 w = c (40 + 2 * w.toNat) 1 ∧ ∀ k : Int, 0 ≤ k → k < c (40 + 2 * w.toNat) 1 → m 72 (100 * w + k) = c (40 + 2 * w.toNat + 1) k
def K6 (c m : aM) (E : Int → Nat) : Prop := ∀ j : Int, 0 ≤ j → j < c 1 12 → m 80 j = c (E j) 0 ∧ m 81 j = c (E j) 1 ∧ m 82 j = c (E j) 2 ∧ m 83 j = c (E j) 3 ∧ m 84 j = c (E j) 4 ∧ m 85 j = c (E j) 5
def K7 (c m : aM) : Prop := m 58 23 = c 18 1 ∧ (0 ≤ c 18 1 ∧ c 18 1 ≤ 300) ∧ m 58 29 = c 18 4 ∧ m 58 30 = c 18 5 ∧ ∀ j : Int, 0 ≤ j → j < c 18 1 → m 71 j = c 19 j
def mX (m : aM) : Prop := mW m ∧ ∀ i : Int, 0 ≤ i → i < 12 → (m 88 i = 0 ∨ m 88 i = 1) ∧ (0 ≤ m 89 i ∧ m 89 i ≤ 1000) ∧ (0 ≤ m 91 i ∧ m 91 i ≤ 1000) ∧ (0 ≤ m 92 i ∧ m 92 i ≤ 200100)
def KK (c m : aM) (E : Int → Nat) : Prop := CI c E ∧ K1 c m ∧ K2 c m ∧ K3 c m ∧ K4 c m ∧ K5 c m ∧ K6 c m E ∧ K7 c m ∧ mX m
def RR (mi : aM) (mr : aR) (E : Int → Nat) : Prop := Rok mr ∧ enI mr E ∧ KK mi mi E
/-! what stays when the cells that count stay -/
theorem bOk_fr {c c' : aM} {a : Nat} (g : ∀ j : Int, c' a j = c a j) (h : bOk c a) : bOk c' a := by
  unfold bOk at *
  simp only [g]
  exact h
theorem CI_fr {c c' : aM} {E : Int → Nat} {mr : aR} (hen : enI mr E) (f : ∀ (x : Nat) (j : Int), x < 58 → x ≠ 3 → (x < 12 ∨ 17 < x) → (x < 20 ∨ 22 < x) → (x < 25 ∨ 27 < x) → c' x j = c x j) (h : CI c E) : CI c' E := by
  obtain ⟨⟨⟨a1, a2, a3, a4, a5, a6⟩, b1, b2, b3⟩, d1⟩ := h
  have f1 : ∀ j : Int, c' 1 j = c 1 j := fun j => f 1 j (by decide) (by decide) (by decide) (by decide) (by decide)
  have f4 : ∀ j : Int, c' 4 j = c 4 j := fun j => f 4 j (by decide) (by decide) (by decide) (by decide) (by decide)
  have fb : ∀ (i : Nat) (j : Int), i < 12 → c' (28 + i) j = c (28 + i) j := fun i j hi => f _ j (by omega) (by omega) (by omega) (by omega) (by omega)
  refine ⟨⟨⟨cB_fr a1 (f1 _) (f1 _) fb, by rw [f1]; exact a2, sOk_congr (fun j => ⟨f _ _ (by decide) (by decide) (by decide) (by decide) (by decide), f _ _ (by decide) (by decide) (by decide) (by decide) (by decide), f _ _ (by decide) (by decide) (by decide) (by decide) (by decide)⟩) (f _ _ (by decide) (by decide) (by decide) (by decide) (by decide)) a3, fun x x0 x1 => pOk_fr (fun j => f _ _ (by omega) (by omega) (by omega) (by omega) (by omega)) (fun j => f _ _ (by omega) (by omega) (by omega) (by omega) (by omega)) (a4 x x0 x1), by rw [f1]; exact a5, fun j j0 j1 => ?_⟩, ?_, by rw [f1, f1]; exact b2, fun i hi h1 => ?_⟩, by rw [f1]; exact d1⟩
  · rw [f1] at j1
    have ej := (hen.1 j j0 (by omega)).2
    have k := a6 j j0 j1
    have g : ∀ q : Int, c' (E j) q = c (E j) q := fun q => f _ _ (by omega) (by omega) (by omega) (by omega) (by omega)
    unfold eOk at *
    rw [g, g, g, g, g]
    exact k
  · unfold lgOk at *; rw [f4, f4]; exact b1
  · rw [fb i _ hi]; rw [f1] at h1; exact b3 i hi h1
theorem K1_fr {c c' m m' : aM} (fc : ∀ j : Int, c' 1 j = c 1 j) (fm : ∀ j : Int, j = 6 ∨ j = 7 ∨ j = 8 ∨ j = 9 ∨ j = 42 ∨ j = 43 → m' 58 j = m 58 j) (h : K1 c m) : K1 c' m' := by
  unfold K1 at *
  rw [fm 6 (by omega), fm 7 (by omega), fm 8 (by omega), fm 9 (by omega), fm 42 (by omega), fm 43 (by omega), fc, fc, fc, fc, fc, fc]
  exact h
theorem K2_fr {c c' m m' : aM} (f1 : c' 1 11 = c 1 11) (fc : ∀ (x : Nat) (j : Int), 28 ≤ x → x < 40 → c' x j = c x j) (fm : ∀ (x : Nat) (j : Int), (59 ≤ x ∧ x ≤ 63) ∨ (86 ≤ x ∧ x ≤ 92) → m' x j = m x j) (h : K2 c m) : K2 c' m' := by
  intro b b0 b1
  have g : ∀ j : Int, c' (28 + b.toNat) j = c (28 + b.toNat) j := fun j => fc _ j (by omega) (by omega)
  have k := h b b0 b1
  rw [g, g, g, g, g, g, g, g, g, g, g, g, f1, fm 63 b (by omega), fm 87 b (by omega), fm 86 b (by omega), fm 59 b (by omega), fm 60 b (by omega), fm 61 b (by omega), fm 62 b (by omega), fm 88 b (by omega), fm 89 b (by omega), fm 90 b (by omega), fm 91 b (by omega), fm 92 b (by omega)]
  exact k
theorem K3_fr {c c' m m' : aM} (fc : ∀ (x : Nat) (j : Int), 4 ≤ x → x ≤ 7 → c' x j = c x j) (f13 : m' 58 13 = m 58 13) (f9 : m' 58 9 = m 58 9) (fm : ∀ (x : Nat) (j : Int), 64 ≤ x → x ≤ 66 → m' x j = m x j) (h : K3 c m) : K3 c' m' := by
  obtain ⟨h1, h2, h3, h4⟩ := h
  refine ⟨by rw [fc 4 _ (by decide) (by decide), f13]; exact h1, by rw [fc 4 _ (by decide) (by decide), f13]; exact h2, by rw [f13, f9]; exact h3, fun k k0 k1 => ?_⟩
  rw [fm 64 k (by decide) (by decide), fm 65 k (by decide) (by decide), fm 66 k (by decide) (by decide), fc 5 k (by decide) (by decide), fc 6 k (by decide) (by decide), fc 7 k (by decide) (by decide)]
  exact h4 k k0 k1
theorem K4_fr {c c' m m' : aM} (f4 : c' 8 4 = c 8 4) (fc : ∀ (x : Nat) (j : Int), 9 ≤ x → x ≤ 11 → c' x j = c x j) (f18 : m' 58 18 = m 58 18) (fm : ∀ j : Int, 0 ≤ j → j < m 58 18 → m' 67 j = m 67 j ∧ m' 68 j = m 68 j ∧ m' 69 j = m 69 j) (h : K4 c m) : K4 c' m' := by
  obtain ⟨h1, h2, h3, h4⟩ := h
  have e1 : sL c' 8 = sL c 8 := sL_congr (fun j => ⟨fc _ _ (by decide) (by decide), fc _ _ (by decide) (by decide), fc _ _ (by decide) (by decide)⟩) f4
  have e2 : mL m' = mL m := by
    unfold mL
    rw [f18]
    refine lst_congr (fun i i0 i1 => ?_)
    have k := fm i i0 (by omega)
    unfold mS
    rw [k.1, k.2.1, k.2.2]
  exact ⟨by rw [e1, e2]; exact h1, by rw [f18, f4]; exact h2, by rw [e1]; exact h3, by rw [e1]; exact h4⟩
theorem K5_fr {c c' m m' : aM} (fc : ∀ (x : Nat) (j : Int), 40 ≤ x → x < 50 → c' x j = c x j) (fm : ∀ (x : Nat) (j : Int), x = 72 ∨ x = 73 → m' x j = m x j) (h : K5 c m) : K5 c' m' := by
  intro w w0 w1
  obtain ⟨h1, h2⟩ := h w w0 w1
  have g := fc (40 + 2 * w.toNat) 1 (by omega) (by omega)
  refine ⟨by rw [g, fm 73 w (by omega)]; exact h1, fun k k0 k1 => ?_⟩
  rw [fm 72 _ (by omega), fc _ _ (by omega) (by omega)]
  exact h2 k k0 (by omega)
theorem K6_fr {c c' m m' : aM} {E : Int → Nat} {mr : aR} (hen : enI mr E) (h8 : c 1 12 ≤ 8) (f1 : c' 1 12 = c 1 12) (fc : ∀ (x : Nat) (j : Int), 50 ≤ x → x ≤ 57 → c' x j = c x j) (fm : ∀ (x : Nat) (j : Int), 80 ≤ x → x ≤ 85 → m' x j = m x j) (h : K6 c m E) : K6 c' m' E := by
  intro j j0 j1
  rw [f1] at j1
  have ej := (hen.1 j j0 (by omega)).2
  have k := h j j0 j1
  have g : ∀ q : Int, c' (E j) q = c (E j) q := fun q => fc _ q (by omega) (by omega)
  rw [g, g, g, g, g, g, fm 80 j (by decide) (by decide), fm 81 j (by decide) (by decide), fm 82 j (by decide) (by decide), fm 83 j (by decide) (by decide), fm 84 j (by decide) (by decide), fm 85 j (by decide) (by decide)]
  exact k
theorem K7_fr {c c' m m' : aM} (f1 : c' 18 1 = c 18 1) (f4 : c' 18 4 = c 18 4) (f5 : c' 18 5 = c 18 5) (fc : ∀ j : Int, c' 19 j = c 19 j) (fm : ∀ j : Int, j = 23 ∨ j = 29 ∨ j = 30 → m' 58 j = m 58 j) (ft : ∀ j : Int, m' 71 j = m 71 j) (h : K7 c m) : K7 c' m' := by
  obtain ⟨h1, h2, h3, h4, h5⟩ := h
  refine ⟨by rw [fm 23 (by omega), f1]; exact h1, by rw [f1]; exact h2, by rw [fm 29 (by omega), f4]; exact h3, by rw [fm 30 (by omega), f5]; exact h4, fun j j0 j1 => ?_⟩
  rw [ft, fc]
  exact h5 j j0 (by omega)
theorem mX_fr {m m' : aM} (f6 : m' 58 6 = m 58 6) (f9 : m' 58 9 = m 58 9) (fm : ∀ (x : Nat) (j : Int), x = 62 ∨ (86 ≤ x ∧ x ≤ 92) → m' x j = m x j) (h : mX m) : mX m' := by
  obtain ⟨h1, h2⟩ := h
  refine ⟨fun i i0 i1 => ?_, fun i i0 i1 => ?_⟩
  · rw [f6] at i1
    rw [f9, fm 89 i (by omega), fm 90 i (by omega), fm 86 i (by omega), fm 91 i (by omega), fm 92 i (by omega), fm 62 i (by omega)]
    exact h1 i i0 i1
  · rw [fm 88 i (by omega), fm 89 i (by omega), fm 91 i (by omega), fm 92 i (by omega)]
    exact h2 i i0 i1
theorem KK_m {c m m' : aM} {E : Int → Nat} {mr : aR} (hen : enI mr E) (f : ∀ (x : Nat) (j : Int), 58 ≤ x → (x ≠ 58 ∨ j ≠ 0) → (x < 67 ∨ 70 < x) → (x < 74 ∨ 79 < x) → x < 93 → m' x j = m x j) (fs : ∀ j : Int, 0 ≤ j → j < m 58 18 → m' 67 j = m 67 j ∧ m' 68 j = m 68 j ∧ m' 69 j = m 69 j) (h : KK c m E) : KK c m' E := by
  obtain ⟨h0, h1, h2, h3, h4, h5, h6, h7, h8⟩ := h
  have g : ∀ j : Int, j ≠ 0 → m' 58 j = m 58 j := fun j hj => f 58 j (by decide) (Or.inr hj) (by decide) (by decide) (by decide)
  exact ⟨h0, K1_fr (fun _ => rfl) (fun j hj => g j (by omega)) h1, K2_fr rfl (fun _ _ _ _ => rfl) (fun x j hx => f x j (by omega) (by omega) (by omega) (by omega) (by omega)) h2, K3_fr (fun _ _ _ _ => rfl) (g _ (by decide)) (g _ (by decide)) (fun x j a b => f x j (by omega) (by omega) (by omega) (by omega) (by omega)) h3, K4_fr rfl (fun _ _ _ _ => rfl) (g _ (by decide)) fs h4, K5_fr (fun _ _ _ _ => rfl) (fun x j hx => f x j (by omega) (by omega) (by omega) (by omega) (by omega)) h5, K6_fr hen h0.1.1.2.2.2.2.1.2 rfl (fun _ _ _ _ => rfl) (fun x j a b => f x j (by omega) (by omega) (by omega) (by omega) (by omega)) h6, K7_fr rfl rfl rfl (fun _ => rfl) (fun j hj => g j (by omega)) (fun j => f 71 j (by omega) (by omega) (by omega) (by omega) (by omega)) h7, mX_fr (g _ (by decide)) (g _ (by decide)) (fun x j hx => f x j (by omega) (by omega) (by omega) (by omega) (by omega)) h8⟩
theorem KK_c {c c' m : aM} {E : Int → Nat} {mr : aR} (hen : enI mr E) (f : ∀ (x : Nat) (j : Int), x < 58 → x ≠ 3 → (x < 12 ∨ 17 < x) → (x < 20 ∨ 22 < x) → (x < 25 ∨ 27 < x) → c' x j = c x j) (h : KK c m E) : KK c' m E := by
  obtain ⟨h0, h1, h2, h3, h4, h5, h6, h7, h8⟩ := h
  have g : ∀ (x : Nat) (j : Int), (x < 58 ∧ x ≠ 3 ∧ (x < 12 ∨ 17 < x) ∧ (x < 20 ∨ 22 < x) ∧ (x < 25 ∨ 27 < x)) → c' x j = c x j := fun x j q => f x j q.1 q.2.1 q.2.2.1 q.2.2.2.1 q.2.2.2.2
  exact ⟨CI_fr hen f h0, K1_fr (fun j => g _ _ (by decide)) (fun _ _ => rfl) h1, K2_fr (g _ _ (by decide)) (fun x j a b => g _ _ (by omega)) (fun _ _ _ => rfl) h2, K3_fr (fun x j a b => g _ _ (by omega)) rfl rfl (fun _ _ _ _ => rfl) h3, K4_fr (g _ _ (by decide)) (fun x j a b => g _ _ (by omega)) rfl (fun _ _ _ => ⟨rfl, rfl, rfl⟩) h4, K5_fr (fun x j a b => g _ _ (by omega)) (fun _ _ _ => rfl) h5, K6_fr hen h0.1.1.2.2.2.2.1.2 (g _ _ (by decide)) (fun x j a b => g _ _ (by omega)) (fun _ _ _ _ => rfl) h6, K7_fr (g _ _ (by decide)) (g _ _ (by decide)) (g _ _ (by decide)) (fun j => g _ _ (by decide)) (fun _ _ => rfl) (fun _ => rfl) h7, h8⟩
/-! what both contracts ask -/
section KF
variable {c m : aM} {E : Int → Nat}
theorem kc_B (h : KK c m E) : cB c := h.1.1.1.1
theorem kc_n (h : KK c m E) : 0 ≤ c 1 11 ∧ c 1 11 ≤ 12 := h.1.1.1.1.1
theorem kc_pl (h : KK c m E) : 1 ≤ c 1 14 ∧ c 1 14 ≤ 12 := h.1.1.1.2.1
theorem kc_o (h : KK c m E) : sOk c 8 := h.1.1.1.2.2.1
theorem kc_p (h : KK c m E) : ∀ x : Int, 0 ≤ x → x < 5 → pOk c (40 + 2 * x.toNat) := h.1.1.1.2.2.2.1
theorem kc_e8 (h : KK c m E) : 0 ≤ c 1 12 ∧ c 1 12 ≤ 8 := h.1.1.1.2.2.2.2.1
theorem kc_lg (h : KK c m E) : lgOk c := h.1.1.2.1
theorem kc_sl (h : KK c m E) : 0 ≤ c 1 15 ∧ c 1 15 ≤ 100000 := h.1.2
theorem kc_T (h : KK c m E) : 0 ≤ c 18 1 ∧ c 18 1 ≤ 300 := h.2.2.2.2.2.2.2.1.2.1
theorem kc_t0 (h : KK c m E) : ∀ i : Int, 0 ≤ i → i < c 8 4 → 0 ≤ c 11 i := fun i i0 i1 => h.2.2.2.2.1.2.2.2 _ ((sL_mem (kc_o h)).mpr ⟨i, i0, i1, rfl⟩)
theorem km_n (h : KK c m E) : 0 ≤ m 58 6 ∧ m 58 6 ≤ 12 := by rw [h.2.1.1]; exact kc_n h
theorem km_pl (h : KK c m E) : 1 ≤ m 58 7 ∧ m 58 7 ≤ 12 := by rw [h.2.1.2.1]; exact kc_pl h
theorem km_sl (h : KK c m E) : 0 ≤ m 58 8 ∧ m 58 8 ≤ 100000 := by rw [h.2.1.2.2.1]; exact kc_sl h
theorem km_e8 (h : KK c m E) : 0 ≤ m 58 42 ∧ m 58 42 ≤ 8 := by rw [h.2.1.2.2.2.2.1]; exact kc_e8 h
theorem km_now (h : KK c m E) : 0 ≤ m 58 9 ∧ m 58 9 ≤ 100000 := by rw [h.2.1.2.2.2.1]; exact (kc_B h).2.1
theorem km_r (h : KK c m E) : 0 ≤ m 58 13 ∧ m 58 13 ≤ 3000000 := by
  have h1 := h.2.2.2.1.2.2.1
  have h2 := km_now h
  omega
theorem km_T (h : KK c m E) : 0 ≤ m 58 23 ∧ m 58 23 ≤ 300 := by rw [h.2.2.2.2.2.2.2.1.1]; exact kc_T h
theorem km_66 (h : KK c m E) : ∀ j : Int, 0 ≤ j → j < 200 → m 66 j = 0 ∨ m 66 j = 1 := fun j j0 j1 => (h.2.2.2.1.2.2.2 j j0 j1).2.2.2
theorem kk_bell (h : KK c m E) {b : Int} (hb : 0 ≤ b ∧ b < 12) : bOk c (28 + b.toNat) := ((kc_B h).2.2 b.toNat (by omega)).1
theorem km_86 (h : KK c m E) : ∀ j : Int, 0 ≤ j → j < 12 → m 86 j = 0 ∨ m 86 j = 1 := fun j j0 j1 => by
  rw [(h.2.2.1 j j0 j1).1.2.2]
  exact (kk_bell h ⟨j0, j1⟩).2.2.2.2.2.2.1
theorem km_B (h : KK c m E) : mB m := by
  have hn := km_n h
  refine ⟨hn, km_now h, fun i i0 i1 => ?_⟩
  obtain ⟨⟨k63, k87, k86⟩, k⟩ := h.2.2.1 i i0 (by omega)
  obtain ⟨⟨k59, k60, k61, k62⟩, -⟩ := k (by rw [← h.2.1.1]; exact i1)
  have q := kk_bell h (b := i) ⟨i0, by omega⟩
  rw [k63, k87, k86, k59, k60, k61, k62]
  exact ⟨q.1, q.2.1, q.2.2.1, q.2.2.2.1, q.2.2.2.2.1, q.2.2.2.2.2.2.1, q.2.2.2.2.2.1, (h.2.2.2.2.2.2.2.2.2 i i0 (by omega)).1⟩
theorem km_W (h : KK c m E) : mW m := h.2.2.2.2.2.2.2.2.1
theorem km_o (h : KK c m E) : mOk m := by
  obtain ⟨h1, h2, h3, h4⟩ := h.2.2.2.2.1
  have ho := kc_o h
  have hc := ho.1
  refine ⟨by rw [h2]; exact hc, fun i i0 i1 => ?_⟩
  have hm : mS m i ∈ mL m := lst_mem.mpr ⟨i, i0, by omega, rfl⟩
  obtain ⟨j, j0, j1, j2⟩ := (sL_mem ho).mp (h1.mem_iff.mpr hm)
  have k := ho.2.1 j j0 j1
  unfold sF mS at j2
  rw [Prod.mk.injEq, Prod.mk.injEq] at j2
  rw [← j2.1, ← j2.2.1, ← j2.2.2]
  exact k
theorem km_t0 (h : KK c m E) : ∀ i : Int, 0 ≤ i → i < m 58 18 → 0 ≤ m 68 i := fun i i0 i1 => by
  have hm : mS m i ∈ mL m := lst_mem.mpr ⟨i, i0, by omega, rfl⟩
  exact h.2.2.2.2.1.2.2.2 _ (h.2.2.2.2.1.1.mem_iff.mpr hm)
theorem km_p (h : KK c m E) : pM m := by
  intro w w0 w1
  obtain ⟨h1, h2⟩ := h.2.2.2.2.2.1 w w0 w1
  obtain ⟨p1, p2⟩ := kc_p h w w0 w1
  refine ⟨by rw [h1]; exact p1, fun k k0 k1 => ?_⟩
  rw [h1] at k1
  rw [h2 k k0 k1]
  exact p2 k k0 k1
theorem km_pm (h : KK c m E) : ∀ x : Int, 0 ≤ x → x < 5 → 0 ≤ m 73 x ∧ m 73 x ≤ 100 := fun x x0 x1 => (km_p h x x0 x1).1
theorem km_d (h : KK c m E) : ∀ i : Int, 0 ≤ i → i < m 58 6 → 1 ≤ m 59 i ∧ m 59 i ≤ 50 := fun i i0 i1 => ((km_B h).2.2 i i0 i1).1
theorem km_hz (h : KK c m E) : ∀ i : Int, 0 ≤ i → i < m 58 6 → (m 86 i = 0 ∨ m 86 i = 1) ∧ (m 87 i = 0 ∨ m 87 i = 1) ∧ (0 ≤ m 89 i ∧ m 89 i ≤ 1000) := fun i i0 i1 => by
  have k := (km_B h).2.2 i i0 i1
  exact ⟨k.2.2.2.2.2.1, k.2.2.2.2.2.2.1, (km_W h i i0 i1).1⟩
theorem km_S (h : KK c m E) : ∀ i : Int, 0 ≤ i → i < m 58 6 → m 90 i = 1 ∨ m 90 i = -1 ∨ m 86 i = 0 := fun i i0 i1 => (km_W h i i0 i1).2.1
theorem km_av (h : KK c m E) : avM m := by
  obtain ⟨e1, e2, e3, e4, e5, e6⟩ := h.2.1
  have hf := h.1.1.2.2.1
  refine ⟨⟨km_B h, km_pl h, km_o h, km_p h, km_e8 h, fun i i0 i1 => ?_⟩, km_W h, by rw [e6, e4]; exact hf, h.2.2.2.1.2.2.1⟩
  rw [e5] at i1
  obtain ⟨k0, k1, k2, k3, k4, k5⟩ := h.2.2.2.2.2.2.1 i i0 i1
  have q := h.1.1.1.2.2.2.2.2 i i0 i1
  unfold meOk
  rw [k0, k1, k2, k3, k4]
  exact q
end KF
/-- behind the class's call: both views -/
theorem RR_go {mi m1 : aM} {mr : aR} {E : Int → Nat} (h : RR mi mr E) (f : ∀ (x : Nat) (j : Int), 58 ≤ x → m1 x j = mi x j) : KK mi (aup m1 58 0 0) E := by
  have g : ∀ (x : Nat) (j : Int), 58 ≤ x → (x ≠ 58 ∨ j ≠ 0) → aup m1 58 0 0 x j = mi x j := fun x j a b => by
    have e : aup m1 58 0 0 x j = m1 x j := by rcases b with b | b; (exact aup_a b); (exact aup_k b)
    rw [e]; exact f x j a
  exact KK_m h.2.1 (fun x j a b _ _ _ => g x j a b) (fun j _ _ => ⟨g _ _ (by decide) (by omega), g _ _ (by decide) (by omega), g _ _ (by decide) (by omega)⟩) h.2.2
/-- behind the model's call -/
theorem RR_end {m1 m2 : aM} {mr : aR} {E : Int → Nat} (hR : Rok mr) (hen : enI mr E) (f : ∀ (x : Nat) (j : Int), x < 58 → m2 x j = m1 x j) (h : KK m1 m2 E) : RR m2 mr E := ⟨hR, hen, KK_c hen (fun x j a _ _ _ _ => f x j a) h⟩
/-- a call that asks only -/
theorem RR_quiet {mi m1 m2 : aM} {mr : aR} {E : Int → Nat} (h : RR mi mr E) (fh : ∀ (x : Nat) (j : Int), 58 ≤ x → m1 x j = mi x j) (fl : ∀ (x : Nat) (j : Int), x < 58 → x ≠ 3 → (x < 12 ∨ 17 < x) → (x < 20 ∨ 22 < x) → (x < 25 ∨ 27 < x) → m1 x j = mi x j) (gl : ∀ (x : Nat) (j : Int), x < 58 → m2 x j = m1 x j) (gh : ∀ (x : Nat) (j : Int), 58 ≤ x → (x ≠ 58 ∨ j ≠ 0) → (x < 67 ∨ 70 < x) → (x < 74 ∨ 79 < x) → x < 93 → m2 x j = aup m1 58 0 0 x j) (gs : ∀ j : Int, 0 ≤ j → j < aup m1 58 0 0 58 18 → m2 67 j = aup m1 58 0 0 67 j ∧ m2 68 j = aup m1 58 0 0 68 j ∧ m2 69 j = aup m1 58 0 0 69 j) : RR m2 mr E :=
  RR_end h.1 h.2.1 gl (KK_m h.2.1 gh gs (KK_c h.2.1 fl (RR_go h fh)))
