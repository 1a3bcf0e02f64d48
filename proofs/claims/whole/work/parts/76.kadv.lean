-- part 76: advance on both sides (printed by wip/whole/gen/p76.py)
theorem aMz_snC : ∀ (k : Nat) (b : Int) (m m' : aM) (q : Int), aMz m 0 q → (0 ≤ b ∧ b + k ≤ m 58 6) → snC k b m m' → aMz m' 0 (q + k) ∧ m' 58 6 = m 58 6 ∧ m' 58 9 = m 58 9 ∧ m' 58 42 = m 58 42
  | 0, b, m, m', q, h, _, hs => by
    rw [show m' = m from hs, show q + ((0 : Nat) : Int) = q by omega]
    exact ⟨h, rfl, rfl, rfl⟩
  | k + 1, b, m, m', q, h, hb, ⟨m1, h1, h2⟩ => by
    have e := aMz_sn h (b := b) ⟨hb.1, by omega⟩ h1
    have ih := aMz_snC k (b + 1) m1 m' (q + 1) e.1 (by rw [e.2.1]; omega) h2
    rw [show q + ((k + 1 : Nat) : Int) = q + 1 + k by omega]
    exact ⟨ih.1, ih.2.1.trans e.2.1, ih.2.2.1.trans e.2.2.1, ih.2.2.2.trans e.2.2.2⟩
theorem aMz_mtF : ∀ (k : Nat) (b : Int) (m : aM) (q : Int), aMz m b q → (0 ≤ b ∧ b + k ≤ m 58 6) → aMz (mtF k b m) (b + k) (q + k)
  | 0, b, m, q, h, _ => by
    rw [show b + ((0 : Nat) : Int) = b by omega, show q + ((0 : Nat) : Int) = q by omega]
    exact h
  | k + 1, b, m, q, h, hb => by
    show aMz (if m 86 b ≠ 0 ∧ m 92 b = m 58 9 then mtF k (b + 1) (mtA m b) else mtF k (b + 1) m) _ _
    rw [show b + ((k + 1 : Nat) : Int) = b + 1 + k by omega, show q + ((k + 1 : Nat) : Int) = q + 1 + k by omega]
    by_cases d : m 86 b ≠ 0 ∧ m 92 b = m 58 9
    · rw [if_pos d]
      exact aMz_mtF k (b + 1) (mtA m b) (q + 1) (aMz_mt h ⟨hb.1, by omega⟩ d) (by rw [mtA_o (by omega) (by omega)]; omega)
    · rw [if_neg d]
      exact aMz_mtF k (b + 1) m (q + 1) (aMz_no h d) (by omega)
theorem mtF_col : ∀ (k : Nat) (b : Int) (m : aM) {x : Nat} {j : Int}, (x < 64 ∨ 66 < x) → x ≠ 58 → b + k ≤ j → mtF k b m x j = m x j
  | 0, _, _, _, _, _, _, _ => rfl
  | k + 1, b, m, x, j, h1, h2, h3 => by
    show (if m 86 b ≠ 0 ∧ m 92 b = m 58 9 then mtF k (b + 1) (mtA m b) else mtF k (b + 1) m) x j = _
    by_cases d : m 86 b ≠ 0 ∧ m 92 b = m 58 9
    · rw [if_pos d, mtF_col k (b + 1) (mtA m b) h1 h2 (by omega)]
      exact mtA_o ⟨h1, Or.inl h2⟩ (Or.inl (by omega))
    · rw [if_neg d]
      exact mtF_col k (b + 1) m h1 h2 (by omega)
theorem pmC_I : ∀ (k : Nat) (i : Int) (m m' : aM), pmI m → (0 ≤ i ∧ i + k = m 58 42) → pmC k i m m' → pmI m'
  | 0, i, m, m', h, _, hc => by rw [show m' = m from hc]; exact h
  | k + 1, i, m, m', h, hi, hc => by
    rcases hc with ⟨-, hc⟩ | ⟨-, m1, h1, hc⟩ | ⟨-, m1, m2, h1, h2, hc⟩
    · exact pmC_I k (i + 1) m m' h (by omega) hc
    · have hp := pmI_co h ⟨by omega, by omega⟩ h1
      exact pmC_I k (i + 1) m1 m' hp.1 (by rw [hp.2]; omega) hc
    · have hp := pmI_co h (i := i) ⟨by omega, by omega⟩ h1
      have hd := pmI_drop hp.1 (i := i) ⟨by omega, by rw [hp.2]; omega⟩ h2
      exact pmC_I k i m2 m' hd (by rw [h2.1, hp.2]; omega) hc
theorem tk_eq {c m c' m' : aM} {E E' : Int → Nat} {mr : aR} {g : Int} (hen : enI mr E) (h : KK c m E) (h8 : K8 c) (hnow : c 1 13 < 100000) (hP : tkC c E g c' E') (hQ : tkM m m') : g = m' 58 13 - m 58 13 ∧ KK c' m' E' ∧ K8 c' ∧ (∃ r : aR, enI r E') ∧ c' 1 13 = c 1 13 + 1 := by
  obtain ⟨r0, c1, hts, hpr, hg⟩ := hP
  obtain ⟨m1, hsn, hpm⟩ := hQ
  have hn := kc_n h
  have he8 := kc_e8 h
  have hmid := tick_mid h.1.1 hnow (fun j j0 j1 => by have := (hen.1 j j0 (by omega)).2; omega) hts
  obtain ⟨rem, t1, t2, t3, t4, t5, t6, t7⟩ := hts
  have h4 := h.2.2.2.2.1
  have hk1 := h.2.1
  have hsr := h.1.1.2.2.1
  rw [hk1.1] at hsn hpm
  generalize hN : (c 1 11).toNat = N at *
  have hN2 : (N : Int) = c 1 11 := by omega
  have g0 : ∀ (x : Nat) (j : Int), (x ≠ 1 ∨ j ≠ 13) → aup c 1 13 (c 1 13 + 1) x j = c x j := fun x j q => by rcases q with q | q; (exact aup_a q); (exact aup_k q)
  have e0 : aup c 1 13 (c 1 13 + 1) 1 13 = c 1 13 + 1 := aup_eq _ _ _ _
  rw [e0] at t2 t3
  have sL0 : sL (aup c 1 13 (c 1 13 + 1)) 8 = sL c 8 := sL_congr (fun j => ⟨g0 _ _ (by omega), g0 _ _ (by omega), g0 _ _ (by omega)⟩) (g0 _ _ (by omega))
  rw [sL0] at t1
  have f1 : ∀ (x : Nat) (j : Int), (x ≠ 8 ∨ j ≠ 4) → x ≠ 9 → x ≠ 10 → x ≠ 11 → (x ≠ 1 ∨ j ≠ 13) → c1 x j = c x j := fun x j q1 q2 q3 q4 q5 => (t7 x j q1 q2 q3 q4).trans (g0 x j q5)
  have c113 : c1 1 13 = c 1 13 + 1 := (t7 _ _ (by omega) (by decide) (by decide) (by decide)).trans e0
  generalize hM0 : aup m 58 9 (m 58 9 + 1) = m0 at hsn
  have fm0 : ∀ (x : Nat) (j : Int), (x ≠ 58 ∨ j ≠ 9) → m0 x j = m x j := fun x j q => by rw [← hM0]; rcases q with q | q; (exact aup_a q); (exact aup_k q)
  have m09 : m0 58 9 = c 1 13 + 1 := by rw [← hM0, aup_eq, hk1.2.2.2.1]
  have inC : ∀ s ∈ rem, s ∈ sL c 8 := fun s hs => t1.mem_iff.mpr (List.mem_append_left _ hs)
  have hdis := disL_perm t1 h4.2.2.1
  have hda := disL_app hdis
  have hpos := pos_L (kc_o h)
  have hbell : ∀ s ∈ sL c 8, 0 ≤ s.1 := fun s hs => by
    obtain ⟨i, i0, i1, i2⟩ := (sL_mem (kc_o h)).mp hs
    rw [← i2]; exact ((kc_o h).2.1 i i0 i1).1.1
  have hmL0 : mL m0 = mL m := mL_congr (fun j => ⟨fm0 _ _ (by omega), fm0 _ _ (by omega), fm0 _ _ (by omega)⟩) (fm0 _ _ (by omega))
  have hS0 : SS c1 m0 rem 0 c1 m0 0 := by
    refine ⟨?_, mOk_congr (fun j => ⟨fm0 _ _ (by omega), fm0 _ _ (by omega), fm0 _ _ (by omega)⟩) (fm0 _ _ (by omega)) (km_o h), K3e_fr (fun x j q1 q2 => f1 _ _ (by omega) (by omega) (by omega) (by omega) (by omega)) (fm0 _ _ (by omega)) (fun x j q1 q2 => fm0 _ _ (by omega)) (K3_e h.2.2.2.1), fun x x0 x1 => ?_, fun _ _ _ => rfl, fun _ _ _ _ => rfl, by omega⟩
    · rw [hmL0, show ((0 : Nat) : Int) = 0 from rfl, geB_all (fun s hs => hbell s (inC s hs))]
      exact h4.1.symm.trans t1
    · rw [fm0 _ _ (by omega), f1 _ _ (by omega) (by omega) (by omega) (by omega) (by omega)]
      exact (h.2.2.1 x x0 x1).1.1
  have hSS := SS_all (r0 := r0) (t := c 1 13 + 1) (N := N) (by omega) ⟨c113, m09⟩ t2 (disB_of hda.2 t2 (fun s hs => hpos s (inC s hs))) t3 t5 (fun b hb => by rw [fm0 _ _ (by omega), f1 _ _ (by omega) (by omega) (by omega) (by omega) (by omega), (kk2 h (b := (b : Int)) (by omega) (by omega)).2.1.2.1, Int.toNat_natCast]) N 0 c1 m0 m1 0 (by omega) hS0 hsn
  obtain ⟨q1, q2, q3, q4, q5, q6, q7⟩ := hSS
  rw [geB_nil (fun s hs => by have := h8 s (inC s hs); omega), List.nil_append] at q1
  generalize hcs : sdF r0.toNat N 0 c1 = cs at *
  have hK2 : K2 cs m1 := fun y y0 y1 => by
    have k := h.2.2.1 y y0 y1
    have gc : ∀ j : Int, j ≠ 4 → cs (28 + y.toNat) j = c (28 + y.toNat) j := fun j hj => (q5 _ _ (by omega)).trans (f1 _ _ (by omega) (by omega) (by omega) (by omega) (by omega))
    have gm : ∀ x : Nat, (x < 63 ∨ 69 < x) → x ≠ 58 → m1 x y = m x y := fun x z1 z2 => (q6 _ _ z1 (Or.inl z2)).trans (fm0 _ _ (Or.inl z2))
    have g11 : cs 1 11 = c 1 11 := (q5 _ _ (by omega)).trans (f1 _ _ (by omega) (by omega) (by omega) (by omega) (by omega))
    refine ⟨⟨q4 y y0 y1, by rw [gm 87 (by decide) (by decide), gc 5 (by decide)]; exact k.1.2.1, by rw [gm 86 (by decide) (by decide), gc 6 (by decide)]; exact k.1.2.2⟩, fun hy => ?_⟩
    rw [gc 0 (by decide), gc 1 (by decide), gc 2 (by decide), gc 3 (by decide), gc 6 (by decide), gc 7 (by decide), gc 8 (by decide), gc 9 (by decide), gc 10 (by decide), gc 11 (by decide), gm 59 (by decide) (by decide), gm 60 (by decide) (by decide), gm 61 (by decide) (by decide), gm 62 (by decide) (by decide), gm 88 (by decide) (by decide), gm 89 (by decide) (by decide), gm 90 (by decide) (by decide), gm 91 (by decide) (by decide), gm 92 (by decide) (by decide)]
    exact k.2 (by rw [← g11]; exact hy)
  have hTT := TT_all (t := c 1 13 + 1) (N := N) ⟨by rw [q5 _ _ (by omega), f1 _ _ (by omega) (by omega) (by omega) (by omega) (by omega)]; exact hN2, by omega⟩ ⟨by rw [q5 _ _ (by omega)]; exact c113, by rw [q6 _ _ (by omega) (by omega)]; exact m09⟩ N 0 cs m1 0 (by omega) ⟨hmid.2.1, hK2, q3, fun _ _ _ => rfl, fun _ _ _ _ _ _ _ _ => rfl, by omega⟩
  obtain ⟨-, r2, r3, r4, r5, r6⟩ := hTT
  rw [show ((0 : Nat) : Int) = 0 from rfl] at r2 r3 r5 r6
  obtain ⟨-, -, d3, d4, d5, d6, d7⟩ := hmid
  -- the model's invariants
  have a0 : aMz m0 0 0 := by rw [← hM0]; exact aMz_now (km_av h) (by rw [hk1.2.2.2.1]; omega)
  have m06 : m0 58 6 = c 1 11 := by rw [fm0 _ _ (by omega)]; exact hk1.1
  have a1 := aMz_snC N 0 m0 m1 0 a0 (by rw [m06]; omega) hsn
  have a2 := aMz_mtF N 0 m1 (0 + N) a1.1 (by rw [a1.2.1, m06]; omega)
  generalize hct : tbF N 0 cs = ct at *
  generalize hmt : mtF N 0 m1 = mt at *
  have fct : ∀ (x : Nat) (j : Int), (x < 4 ∨ (7 < x ∧ (x < 28 ∨ 40 ≤ x))) → (x ≠ 8 ∨ j ≠ 4) → x ≠ 9 → x ≠ 10 → x ≠ 11 → (x ≠ 1 ∨ j ≠ 13) → ct x j = c x j := fun x j z1 z2 z3 z4 z5 z6 => ((r4 x j z1).trans (q5 x j (by omega))).trans (f1 x j z2 z3 z4 z5 z6)
  have fmt : ∀ (x : Nat) (j : Int), (x < 63 ∨ 69 < x) → (x ≠ 58 ∨ (j ≠ 13 ∧ j ≠ 18 ∧ j ≠ 9)) → x ≠ 86 → x ≠ 89 → x ≠ 90 → x ≠ 92 → mt x j = m x j := fun x j z1 z2 z3 z4 z5 z6 => ((r5 x j (by omega) (by omega) z3 z4 z5 z6).trans (q6 x j z1 (by omega))).trans (fm0 x j (by omega))
  have mt9 : mt 58 9 = c 1 13 + 1 := by rw [r5 _ _ (by omega) (by omega) (by decide) (by decide) (by decide) (by decide), q6 _ _ (by omega) (by omega)]; exact m09
  have mt58 : ∀ j : Int, j ≠ 13 ∧ j ≠ 18 ∧ j ≠ 9 → mt 58 j = m 58 j := fun j hj => fmt 58 j (by decide) (Or.inr hj) (by decide) (by decide) (by decide) (by decide)
  have sLt : sL ct 8 = sL c1 8 := sL_congr (fun j => ⟨(r4 _ _ (by omega)).trans (q5 _ _ (by omega)), (r4 _ _ (by omega)).trans (q5 _ _ (by omega)), (r4 _ _ (by omega)).trans (q5 _ _ (by omega))⟩) ((r4 _ _ (by omega)).trans (q5 _ _ (by omega)))
  have mtf : ∀ (x : Nat) (j : Int), (67 ≤ x ∧ x ≤ 69) ∨ (x = 58 ∧ j = 18) → mt x j = m1 x j := fun x j z => r5 x j (by omega) (by omega) (by omega) (by omega) (by omega) (by omega)
  have mLt : mL mt = mL m1 := mL_congr (fun j => ⟨mtf _ _ (by omega), mtf _ _ (by omega), mtf _ _ (by omega)⟩) (mtf _ _ (by omega))
  have okt : mOk mt := mOk_congr (fun j => ⟨mtf _ _ (by omega), mtf _ _ (by omega), mtf _ _ (by omega)⟩) (mtf _ _ (by omega)) q2
  have hKW : KW ct mt E := by
    refine ⟨d3, ⟨by rw [mt58 6 (by decide), d6 11 (by decide)]; exact hk1.1, by rw [mt58 7 (by decide), d6 14 (by decide)]; exact hk1.2.1, by rw [mt58 8 (by decide), d6 15 (by decide)]; exact hk1.2.2.1, by rw [mt9, d7], by rw [mt58 42 (by decide), d6 12 (by decide)]; exact hk1.2.2.2.2.1, by rw [mt58 43 (by decide), d6 16 (by decide)]; exact hk1.2.2.2.2.2⟩, r2, r3, ?_, K5_fr (fun x j z1 z2 => fct _ _ (by omega) (by omega) (by omega) (by omega) (by omega) (by omega)) (fun x j z => fmt _ _ (by omega) (by omega) (by omega) (by omega) (by omega) (by omega)) h.2.2.2.2.2.1, K6_fr hen he8.2 (d6 _ (by decide)) (fun x j z1 z2 => fct _ _ (by omega) (by omega) (by omega) (by omega) (by omega) (by omega)) (fun x j z1 z2 => fmt _ _ (by omega) (by omega) (by omega) (by omega) (by omega) (by omega)) h.2.2.2.2.2.2.1, K7_fr (fct _ _ (by omega) (by omega) (by omega) (by omega) (by omega) (by omega)) (fct _ _ (by omega) (by omega) (by omega) (by omega) (by omega) (by omega)) (fct _ _ (by omega) (by omega) (by omega) (by omega) (by omega) (by omega)) (fun j => fct _ _ (by omega) (by omega) (by omega) (by omega) (by omega) (by omega)) (fun j z => mt58 j (by omega)) (fun j => fmt _ _ (by omega) (by omega) (by omega) (by omega) (by omega) (by omega)) h.2.2.2.2.2.2.2.1⟩
    exact K4_of (by rw [sLt, mLt]; exact q1.symm) d3.2.2.1 okt (by rw [sLt]; exact hda.1) (fun s hs => by rw [sLt] at hs; exact h4.2.2.2 s (t1.mem_iff.mpr (List.mem_append_right _ hs)))
  have h8t : K8 ct := fun s hs => by
    rw [sLt] at hs
    rw [d6 11 (by decide)]
    exact h8 s (t1.mem_iff.mpr (List.mem_append_right _ hs))
  have hpm2 : pmC (c 1 12).toNat 0 mt m' := by rw [← hk1.2.2.2.2.1]; exact hpm
  have hres := pr_eq (c 1 12).toNat 0 ct mt E c' m' E' mr hen hKW h8t (by rw [d6 12 (by decide)]; omega) hpr hpm2
  obtain ⟨w1, w2, w3⟩ := hres
  have ct12 : ct 1 12 = c 1 12 := d6 12 (by decide)
  have hav := avI_prC hen d3 d4 d5 (by rw [d6 16 (by decide), d7]; omega) (by rw [ct12]; exact hpr) w1.1
  have hkeep := prC_keep (mr := mr) (c 1 12).toNat 0 ct E c' E' mr hen d3 (by rw [ct12]; omega) hpr
  have mt42 : mt 58 42 = c 1 12 := by rw [mt58 42 (by decide)]; exact hk1.2.2.2.2.1
  have mt6 : mt 58 6 = c 1 11 := by rw [mt58 6 (by decide)]; exact hk1.1
  have hpmI := pmC_I _ 0 mt m' a2.1 (by rw [mt42]; omega) hpm2
  have hav2 := avM_look (m := mt) (m' := m') ⟨a2.1, fun i i0 i1 => (by have z := a2.2.1 i i0 i1; exact ⟨z.1, z.2.1, z.2.2.1, z.2.2.2.1, fun y => by have := z.2.2.2.2 y; rw [mt6]; omega⟩), a2.2.2.1, by have := a2.2.2.2; omega⟩ (by rw [mt42]; exact hpm2) hpmI
  have hpk := pmC_keep _ 0 mt m' a2.1 (by rw [mt42]; omega) hpm2
  have c'13 : c' 1 13 = c 1 13 + 1 := by rw [hkeep.1 _ _ (by omega) (by omega)]; exact d7
  refine ⟨by rw [hav2.2.1, r6, q7, fm0 _ _ (by omega), hg]; omega, KK_of w1 hav.2.1 hav.2.2.1 hav.2.2.2 (by rw [hkeep.1 _ _ (by omega) (by omega), d6 15 (by decide)]; exact kc_sl h) hav2.1.2.2.2.2 ⟨hav2.1.2.1, fun i i0 i1 => ?_⟩, w2, w3, c'13⟩
  have x8 := h.2.2.2.2.2.2.2.2.2 i i0 i1
  have e88 : m' 88 i = m 88 i := by rw [hpk.1 _ _ (by omega) (by omega), fmt _ _ (by omega) (by omega) (by decide) (by decide) (by decide) (by decide)]
  have e91 : m' 91 i = m 91 i := by rw [hpk.1 _ _ (by omega) (by omega), fmt _ _ (by omega) (by omega) (by decide) (by decide) (by decide) (by decide)]
  rw [e88, e91]
  by_cases hi : i < c 1 11
  · have z := hav2.1.2.1 i i0 (by rw [hav2.2.2.2, mt6]; exact hi)
    exact ⟨x8.1, z.1, x8.2.2.1, z.2.2.2.1⟩
  · have col : ∀ x : Nat, 86 ≤ x → m' x i = m x i := fun x hx => by
      rw [hpk.1 _ _ (by omega) (by omega), ← hmt, mtF_col _ _ _ (by omega) (by omega) (by omega), q6 _ _ (by omega) (by omega), fm0 _ _ (by omega)]
    rw [col 89 (by decide), col 92 (by decide)]
    exact x8
theorem adv_eq : ∀ (k : Nat) (c m : aM) (E : Int → Nat) (mr : aR) (g : Int) (c' : aM) (E' : Int → Nat) (m' : aM), enI mr E → KK c m E → K8 c → c 1 13 + k ≤ 100000 → tkN k c E g c' E' → tkMN k m m' → g = m' 58 13 - m 58 13 ∧ KK c' m' E' ∧ K8 c'
  | 0, c, m, E, mr, g, c', E', m', hen, h, h8, _, hP, hQ => by
    obtain ⟨p1, p2, p3⟩ := hP
    rw [p2, p3, show m' = m from hQ]
    exact ⟨by omega, h, h8⟩
  | k + 1, c, m, E, mr, g, c', E', m', hen, h, h8, hk, ⟨g1, c1, E1, hP1, hP2⟩, ⟨m1, hQ1, hQ2⟩ => by
    obtain ⟨a1, a2, a3, ⟨r, a4⟩, a5⟩ := tk_eq hen h h8 (by omega) hP1 hQ1
    have ih := adv_eq k c1 m1 E1 r (g - g1) c' E' m' a4 a2 a3 (by omega) hP2 hQ2
    exact ⟨by omega, ih.2⟩
theorem op_adv {c m c1 m1 : aM} {E : Int → Nat} {mr s : aR} {t r q : Int} (hen : enI mr E) (h : KK c m E) (h8 : K8 c) (hP : (¬ (0 ≤ t ∧ t ≤ 2000) ∧ r = -3 ∧ c1 = c ∧ s = mr) ∨ ((0 ≤ t ∧ t ≤ 2000) ∧ 100000 < c 1 13 + t ∧ r = -4 ∧ c1 = c ∧ s = mr) ∨ ((0 ≤ t ∧ t ≤ 2000) ∧ c 1 13 + t ≤ 100000 ∧ ∃ E' : Int → Nat, tkN t.toNat c E r c1 E' ∧ enI s E' ∧ fr24 mr s ∧ avI c1 E')) (hQ : (¬ (0 ≤ t ∧ t ≤ 2000) ∧ q = -3 ∧ m1 = m) ∨ ((0 ≤ t ∧ t ≤ 2000) ∧ 100000 < m 58 9 + t ∧ q = -4 ∧ m1 = m) ∨ ((0 ≤ t ∧ t ≤ 2000) ∧ m 58 9 + t ≤ 100000 ∧ tkMN t.toNat m m1 ∧ avM m1 ∧ q = m1 58 13 - m 58 13)) : q = r ∧ ∃ E' : Int → Nat, enI s E' ∧ KK c1 m1 E' ∧ K8 c1 := by
  rw [h.2.1.2.2.2.1] at hQ
  rcases hP with ⟨p1, p2, p3, p4⟩ | ⟨p1, p2, p3, p4, p5⟩ | ⟨p1, p2, E', p3, p4, p5, p6⟩
  · rcases hQ with ⟨-, q2, q3⟩ | ⟨q1, -⟩ | ⟨q1, -⟩
    · rw [p3, p4, q3]; exact ⟨by omega, E, hen, h, h8⟩
    · exact absurd q1 p1
    · exact absurd q1 p1
  · rcases hQ with ⟨q1, -⟩ | ⟨-, -, q2, q3⟩ | ⟨-, q1, -⟩
    · exact absurd p1 q1
    · rw [p4, p5, q3]; exact ⟨by omega, E, hen, h, h8⟩
    · omega
  · rcases hQ with ⟨q1, -⟩ | ⟨-, q1, -⟩ | ⟨-, -, q2, -, q3⟩
    · exact absurd p1 q1
    · omega
    · have e := adv_eq t.toNat c m E mr r c1 E' m1 hen h h8 (by omega) p3 q2
      exact ⟨by omega, E', p4, e.2⟩
