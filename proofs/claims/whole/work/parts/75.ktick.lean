-- part 75: hammers and turns on both sides (printed by wip/whole/gen/p75.py)
theorem lgA_567 (m : aM) (b t cl k : Int) : lgA m b t cl 5 k = (if k = m 4 4 then b else m 5 k) ∧ lgA m b t cl 6 k = (if k = m 4 4 then t else m 6 k) ∧ lgA m b t cl 7 k = (if k = m 4 4 then cl else m 7 k) := by
  unfold lgA
  refine ⟨?_, ?_, ?_⟩
  · rw [aup_a (by decide), aup_a (by decide), aup_a (by decide), aup_a (by decide)]
    by_cases q : k = m 4 4
    · rw [if_pos q, q, aup_eq]
    · rw [if_neg q, aup_k q]
  · rw [aup_a (by decide), aup_a (by decide), aup_a (by decide)]
    by_cases q : k = m 4 4
    · rw [if_pos q, q, aup_eq]
    · rw [if_neg q, aup_k q, aup_a (by decide)]
  · rw [aup_a (by decide), aup_a (by decide)]
    by_cases q : k = m 4 4
    · rw [if_pos q, q, aup_eq]
    · rw [if_neg q, aup_k q, aup_a (by decide), aup_a (by decide)]
theorem rcA_456 (m : aM) (b cl k : Int) : rcA m b cl 64 k = (if k = m 58 13 % 200 then b else m 64 k) ∧ rcA m b cl 65 k = (if k = m 58 13 % 200 then m 58 9 else m 65 k) ∧ rcA m b cl 66 k = (if k = m 58 13 % 200 then cl else m 66 k) := by
  unfold rcA
  refine ⟨?_, ?_, ?_⟩
  · rw [aup_a (by decide), aup_a (by decide), aup_a (by decide)]
    by_cases q : k = m 58 13 % 200
    · rw [if_pos q, q, aup_eq]
    · rw [if_neg q, aup_k q]
  · rw [aup_a (by decide), aup_a (by decide)]
    by_cases q : k = m 58 13 % 200
    · rw [if_pos q, q, aup_eq]
    · rw [if_neg q, aup_k q, aup_a (by decide)]
  · rw [aup_a (by decide)]
    by_cases q : k = m 58 13 % 200
    · rw [if_pos q, q, aup_eq]
    · rw [if_neg q, aup_k q, aup_a (by decide), aup_a (by decide)]
theorem K3_log {c m : aM} {b t cl : Int} (h : K3e c m) (ht : t = m 58 9) (hcl : cl = 0 ∨ cl = 1) : K3e (lgA c b t cl) (rcA m b cl) := by
  obtain ⟨h1, h2, h3, h4⟩ := h
  refine ⟨?_, ?_, by rw [rcA_n]; omega, fun k k0 k1 => ?_⟩
  · rw [lgA_3, rcA_n, h1]
    by_cases q : m 58 13 < 200
    · rw [if_pos q]
      by_cases q2 : m 58 13 + 1 < 200
      · rw [if_pos (by omega), if_pos q2]
      · rw [if_pos (by omega), if_neg q2]; omega
    · rw [if_neg q, if_neg (by decide), if_neg (by omega)]
  · rw [lgA_4, rcA_n, h2]
    by_cases q : m 58 13 % 200 + 1 < 200
    · rw [if_pos q]; omega
    · rw [if_neg q]; omega
  · have k4 := h4 k k0 k1
    obtain ⟨a1, a2, a3⟩ := lgA_567 c b t cl k
    obtain ⟨b1, b2, b3⟩ := rcA_456 m b cl k
    rw [a1, a2, a3, b1, b2, b3, h2]
    by_cases q : k = m 58 13 % 200
    · simp only [if_pos q]
      exact ⟨trivial, ht.symm, trivial, hcl⟩
    · simp only [if_neg q]
      exact k4
theorem K3e_fr {c c' m m' : aM} (fc : ∀ (x : Nat) (j : Int), 4 ≤ x → x ≤ 7 → c' x j = c x j) (f13 : m' 58 13 = m 58 13) (fm : ∀ (x : Nat) (j : Int), 64 ≤ x → x ≤ 66 → m' x j = m x j) (h : K3e c m) : K3e c' m' := by
  obtain ⟨h1, h2, h3, h4⟩ := h
  refine ⟨by rw [fc 4 _ (by decide) (by decide), f13]; exact h1, by rw [fc 4 _ (by decide) (by decide), f13]; exact h2, by rw [f13]; exact h3, fun k k0 k1 => ?_⟩
  rw [fm 64 k (by decide) (by decide), fm 65 k (by decide) (by decide), fm 66 k (by decide) (by decide), fc 5 k (by decide) (by decide), fc 6 k (by decide) (by decide), fc 7 k (by decide) (by decide)]
  exact h4 k k0 k1
/-- the strokes of bells from b on -/
def geB (b : Int) : List Str → List Str
  | [] => []
  | s :: R => if b ≤ s.1 then s :: geB b R else geB b R
def disB : List Str → Prop
  | [] => True
  | s :: R => (∀ t ∈ R, t.1 ≠ s.1) ∧ disB R
theorem geB_mem {b : Int} {s : Str} : ∀ {R : List Str}, s ∈ geB b R → s ∈ R ∧ b ≤ s.1
  | [], h => by cases h
  | a :: R, h => by
    unfold geB at h
    by_cases q : b ≤ a.1
    · rw [if_pos q] at h
      rcases List.mem_cons.mp h with rfl | h
      · exact ⟨List.mem_cons_self, q⟩
      · have := geB_mem h; exact ⟨List.mem_cons_of_mem _ this.1, this.2⟩
    · rw [if_neg q] at h
      have := geB_mem h; exact ⟨List.mem_cons_of_mem _ this.1, this.2⟩
theorem geB_in {b : Int} {s : Str} : ∀ {R : List Str}, s ∈ R → b ≤ s.1 → s ∈ geB b R
  | [], h, _ => by cases h
  | a :: R, h, hb => by
    unfold geB
    by_cases q : b ≤ a.1
    · rw [if_pos q]
      rcases List.mem_cons.mp h with h | h
      · rw [h]; exact List.mem_cons_self
      · exact List.mem_cons_of_mem _ (geB_in h hb)
    · rw [if_neg q]
      rcases List.mem_cons.mp h with h | h
      · rw [h] at hb; exact absurd hb q
      · exact geB_in h hb
theorem geB_all {b : Int} : ∀ {R : List Str}, (∀ s ∈ R, b ≤ s.1) → geB b R = R
  | [], _ => rfl
  | a :: R, h => by
    unfold geB
    rw [if_pos (h a List.mem_cons_self), geB_all (fun s hs => h s (List.mem_cons_of_mem _ hs))]
theorem geB_nil {b : Int} : ∀ {R : List Str}, (∀ s ∈ R, s.1 < b) → geB b R = []
  | [], _ => rfl
  | a :: R, h => by
    unfold geB
    have := h a List.mem_cons_self
    rw [if_neg (by omega), geB_nil (fun s hs => h s (List.mem_cons_of_mem _ hs))]
theorem geB_none {b : Int} : ∀ {R : List Str}, (∀ s ∈ R, s.1 ≠ b) → geB b R = geB (b + 1) R
  | [], _ => rfl
  | a :: R, h => by
    have ih := geB_none (b := b) (R := R) (fun s hs => h s (List.mem_cons_of_mem _ hs))
    have ha := h a List.mem_cons_self
    unfold geB
    by_cases q : b ≤ a.1
    · rw [if_pos q, if_pos (by omega), ih]
    · rw [if_neg q, if_neg (by omega), ih]
theorem geB_one {b : Int} {s : Str} (hb : s.1 = b) : ∀ {R : List Str}, disB R → s ∈ R → (geB b R).Perm (s :: geB (b + 1) R)
  | [], _, h => by cases h
  | a :: R, hd, h => by
    unfold geB
    rcases List.mem_cons.mp h with e | h2
    · subst e
      rw [if_pos (by omega), if_neg (by omega), geB_none (fun t ht => by have := hd.1 t ht; omega)]
    · have ih := geB_one hb hd.2 h2
      have hne := hd.1 s h2
      by_cases q : b ≤ a.1
      · rw [if_pos q, if_pos (by omega)]
        exact (ih.cons a).trans (List.Perm.swap _ _ _)
      · rw [if_neg q, if_neg (by omega)]
        exact ih
theorem disB_of {t : Int} : ∀ {R : List Str}, disL R → (∀ s ∈ R, s.2.2 = t) → (∀ s ∈ R, s.2.1 < s.2.2) → disB R
  | [], _, _, _ => trivial
  | a :: R, hd, ht, hp => by
    refine ⟨fun s hs e => ?_, disB_of hd.2 (fun s hs => ht s (List.mem_cons_of_mem _ hs)) (fun s hs => hp s (List.mem_cons_of_mem _ hs))⟩
    have h1 := hd.1 s hs e.symm
    have h2 := ht a List.mem_cons_self
    have h3 := ht s (List.mem_cons_of_mem _ hs)
    have h4 := hp a List.mem_cons_self
    have h5 := hp s (List.mem_cons_of_mem _ hs)
    omega
/-- while the hammers sound: bells below b are done -/
def SS (c1 m0 : aM) (rem : List Str) (b : Nat) (cm mm : aM) (g : Int) : Prop :=
  (mL mm).Perm (geB (b : Int) rem ++ sL c1 8) ∧ mOk mm ∧ K3e cm mm ∧ (∀ x : Int, 0 ≤ x → x < 12 → mm 63 x = cm (28 + x.toNat) 4) ∧ (∀ (x : Nat) (j : Int), (x < 4 ∨ (7 < x ∧ (x < 28 ∨ 40 ≤ x)) ∨ (28 ≤ x ∧ j ≠ 4)) → cm x j = c1 x j) ∧ (∀ (x : Nat) (j : Int), (x < 63 ∨ 69 < x) → (x ≠ 58 ∨ (j ≠ 13 ∧ j ≠ 18)) → mm x j = m0 x j) ∧ mm 58 13 = m0 58 13 + g
theorem SS_step {c1 m0 : aM} {rem : List Str} {b : Nat} {cm mm mm' : aM} {g t r0 : Int} (h : SS c1 m0 rem b cm mm g) (hb : b < 12) (ht : c1 1 13 = t ∧ m0 58 9 = t) (hr : ∀ s ∈ rem, s.2.2 = t) (hd : disB rem) (hn : ∀ s ∈ sL c1 8, s.2.2 ≠ t) (hbit : bit r0 b ↔ ∃ s ∈ rem, s.1 = b) (h60 : m0 60 b = c1 (28 + b) 1) (hs : snR mm b mm') : (bit r0 b ∧ SS c1 m0 rem (b + 1) (sdA cm b) mm' (g + 1)) ∨ (¬ bit r0 b ∧ SS c1 m0 rem (b + 1) cm mm' g) := by
  obtain ⟨h1, h2, h3, h4, h5, h6, h7⟩ := h
  have e9 : mm 58 9 = t := by rw [h6 _ _ (by omega) (by omega)]; exact ht.2
  have bb : ((b + 1 : Nat) : Int) = (b : Int) + 1 := rfl
  rcases hs with ⟨s1, s2⟩ | ⟨k, k0, k1, k2, k3, s2⟩
  · right
    have hno : ∀ s ∈ rem, s.1 ≠ (b : Int) := fun s hs e => by
      have hm := h1.mem_iff.mpr (List.mem_append_left _ (geB_in hs (by omega)))
      obtain ⟨i, i0, i1, i2⟩ := (mL_mem h2).mp hm
      refine s2 i i0 i1 ⟨?_, ?_⟩
      · rw [← e, ← i2]; rfl
      · rw [e9, ← hr s hs, ← i2]; rfl
    refine ⟨fun z => ?_, ?_⟩
    · obtain ⟨s, q1, q2⟩ := hbit.mp z
      exact hno s q1 q2
    · rw [s1]
      exact ⟨by rw [bb, ← geB_none hno]; exact h1, h2, h3, h4, h5, h6, h7⟩
  · left
    have hm : mS mm k ∈ mL mm := (mL_mem h2).mpr ⟨k, k0, k1, rfl⟩
    have hs1 : (mS mm k).1 = (b : Int) := k2
    have hs2 : (mS mm k).2.2 = t := k3.trans e9
    have hrem : mS mm k ∈ rem := by
      rcases List.mem_append.mp (h1.mem_iff.mp hm) with q | q
      · exact (geB_mem q).1
      · exact absurd hs2 (hn _ q)
    refine ⟨hbit.mpr ⟨_, hrem, hs1⟩, ?_⟩
    generalize hA : aup mm 63 b (mm 58 9 + mm 60 b) = ma at s2
    have oA : ∀ (x : Nat) (j : Int), x ≠ 63 → ma x j = mm x j := fun x j q => by rw [← hA]; exact aup_a q
    have hokA : mOk ma := mOk_congr (fun j => ⟨oA _ _ (by decide), oA _ _ (by decide), oA _ _ (by decide)⟩) (oA _ _ (by decide)) h2
    have hLA : mL ma = mL mm := mL_congr (fun j => ⟨oA _ _ (by decide), oA _ _ (by decide), oA _ _ (by decide)⟩) (oA _ _ (by decide))
    have hkA : 0 ≤ k ∧ k < ma 58 18 := ⟨k0, by rw [oA _ _ (by decide)]; exact k1⟩
    have hSA : mS ma k = mS mm k := by unfold mS; rw [oA _ _ (by decide), oA _ _ (by decide), oA _ _ (by decide)]
    have hpR := mL_Rem hokA hkA
    rw [hLA, hSA] at hpR
    have hokR := mOk_Rem hokA hkA
    have rcf : ∀ (x : Nat) (j : Int), (67 ≤ x ∧ x ≤ 69) ∨ (x = 58 ∧ j = 18) → mm' x j = mRem ma k x j := fun x j q => by rw [s2]; exact rcA_o (by omega)
    have hL' : mL mm' = mL (mRem ma k) := mL_congr (fun j => ⟨rcf _ _ (by omega), rcf _ _ (by omega), rcf _ _ (by omega)⟩) (rcf _ _ (by omega))
    have hok' : mOk mm' := mOk_congr (fun j => ⟨rcf _ _ (by omega), rcf _ _ (by omega), rcf _ _ (by omega)⟩) (rcf _ _ (by omega)) hokR
    have hone := geB_one hs1 hd hrem
    have hfr : ∀ (x : Nat) (j : Int), (x < 63 ∨ 69 < x) → (x ≠ 58 ∨ (j ≠ 13 ∧ j ≠ 18)) → mm' x j = mm x j := fun x j q1 q2 => by rw [s2, rcA_o (by omega), mRem_o (by omega)]; exact oA _ _ (by omega)
    have h63 : ∀ j : Int, mm' 63 j = ma 63 j := fun j => by rw [s2, rcA_o (by omega), mRem_o (by omega)]
    have hcm13 : cm 1 13 = t := by rw [h5 _ _ (by omega)]; exact ht.1
    refine ⟨?_, hok', ?_, fun x x0 x1 => ?_, fun x j q => ?_, fun x j q1 q2 => by rw [hfr x j q1 q2]; exact h6 x j q1 q2, ?_⟩
    · rw [hL', bb]
      have q1 : (mS mm k :: mL (mRem ma k)).Perm (mS mm k :: (geB ((b : Int) + 1) rem ++ sL c1 8)) := (hpR.symm.trans h1).trans (hone.append_right _)
      exact q1.cons_inv
    · rw [s2]
      unfold sdA
      refine K3_log (K3e_fr (fun x j q1 q2 => aup_a (by omega)) (by rw [mRem_o (by omega), oA _ _ (by decide)]) (fun x j q1 q2 => by rw [mRem_o (by omega), oA _ _ (by omega)]) h3) ?_ (Or.inl rfl)
      rw [mRem_o (by omega), oA _ _ (by decide), hcm13, e9]
    · rw [h63, ← hA]
      by_cases e : x = (b : Int)
      · subst e
        rw [aup_eq, Int.toNat_natCast]
        have e2 : sdA cm b (28 + b) 4 = cm 1 13 + cm (28 + b) 1 := by
          unfold sdA
          rw [lgA_o (by omega), aup_eq]
        rw [e2, hcm13, e9, h6 60 _ (by omega) (by omega), h60, h5 (28 + b) 1 (by omega)]
      · rw [aup_k e, sdA_o (by omega)]
        exact h4 x x0 x1
    · have e2 : sdA cm b x j = cm x j := by
        rcases q with q | q | q
        · exact sdA_o (Or.inl q) j
        · exact sdA_o (by omega) j
        · exact sdA_b q.1 q.2
      rw [e2]; exact h5 x j q
    · rw [s2, rcA_n, mRem_o (by omega), oA _ _ (by decide), h7]; omega
theorem SS_all {c1 m0 : aM} {rem : List Str} {t r0 : Int} {N : Nat} (hN : N ≤ 12) (ht : c1 1 13 = t ∧ m0 58 9 = t) (hr : ∀ s ∈ rem, s.2.2 = t) (hd : disB rem) (hn : ∀ s ∈ sL c1 8, s.2.2 ≠ t) (hbit : ∀ b : Int, 0 ≤ b → b < 12 → (bit r0 b ↔ ∃ s ∈ rem, s.1 = b)) (h60 : ∀ b : Nat, b < N → m0 60 b = c1 (28 + b) 1) : ∀ (k b : Nat) (cm mm mm' : aM) (g : Int), b + k = N → SS c1 m0 rem b cm mm g → snC k (b : Int) mm mm' → SS c1 m0 rem N (sdF r0.toNat k b cm) mm' (g + (cnB r0.toNat k b : Int))
  | 0, b, cm, mm, mm', g, e, h, hs => by
    rw [show mm' = mm from hs, ← e, Nat.add_zero]
    show SS c1 m0 rem b cm mm (g + ((0 : Nat) : Int))
    rw [show g + ((0 : Nat) : Int) = g by omega]
    exact h
  | k + 1, b, cm, mm, mm', g, e, h, ⟨m1, hs1, hs2⟩ => by
    have st := SS_step (r0 := r0) h (by omega) ht hr hd hn (hbit b (by omega) (by omega)) (h60 b (by omega)) hs1
    have hbb : ∀ z : Int, bit z (b : Int) ↔ z.toNat.testBit b = true := fun z => by unfold bit; rw [Int.toNat_natCast]
    rw [hbb] at st
    rcases st with ⟨q, st⟩ | ⟨q, st⟩
    · have ih := SS_all hN ht hr hd hn hbit h60 k (b + 1) (sdA cm b) m1 mm' (g + 1) (by omega) st hs2
      rw [sdF_yes q, cnB_yes q, show g + ((1 + cnB r0.toNat k (b + 1) : Nat) : Int) = g + 1 + (cnB r0.toNat k (b + 1) : Int) by omega]
      exact ih
    · have ih := SS_all hN ht hr hd hn hbit h60 k (b + 1) cm m1 mm' g (by omega) st hs2
      rw [sdF_no q, cnB_no q]
      exact ih
/-! turns -/
def TT (cs ms : aM) (cm mm : aM) (g : Int) : Prop := tkB cm ∧ K2 cm mm ∧ K3e cm mm ∧ (∀ (x : Nat) (j : Int), (x < 4 ∨ (7 < x ∧ (x < 28 ∨ 40 ≤ x))) → cm x j = cs x j) ∧ (∀ (x : Nat) (j : Int), (x < 64 ∨ 66 < x) → (x ≠ 58 ∨ j ≠ 13) → x ≠ 86 → x ≠ 89 → x ≠ 90 → x ≠ 92 → mm x j = ms x j) ∧ mm 58 13 = ms 58 13 + g
theorem mtA_rec {m : aM} {b : Int} {x : Nat} {j : Int} (h : (64 ≤ x ∧ x ≤ 66) ∨ (x = 58 ∧ j = 13)) : mtA m b x j = (if 400 ≤ trn (m 89 b) (m 88 b) (m 91 b) ∧ m 87 b = 0 then rcA (aup (aup m 90 b (-(m 90 b))) 89 b (trn (m 89 b) (m 88 b) (m 91 b))) b 1 else aup (aup m 90 b (-(m 90 b))) 89 b (trn (m 89 b) (m 88 b) (m 91 b))) x j := by
  unfold mtA
  rw [aup_a (by omega), aup_a (by omega)]
theorem TT_step {cs ms cm mm : aM} {g t : Int} {b : Nat} (h : TT cs ms cm mm g) (hb : (b : Int) < cs 1 11) (hb12 : b < 12) (ht : cs 1 13 = t ∧ ms 58 9 = t) : TT cs ms (tbA cm b) (if mm 86 b ≠ 0 ∧ mm 92 b = mm 58 9 then mtA mm b else mm) (g + (tbN cm b : Int)) := by
  obtain ⟨h0, h1, h2, h3, h4, h5⟩ := h
  have k := h1 (b : Int) (by omega) (by omega)
  rw [Int.toNat_natCast] at k
  have c11 : cm 1 11 = cs 1 11 := h3 _ _ (by omega)
  have c13 : cm 1 13 = t := by rw [h3 _ _ (by omega)]; exact ht.1
  have m9 : mm 58 9 = t := by rw [h4 _ _ (by omega) (by omega) (by decide) (by decide) (by decide) (by decide)]; exact ht.2
  obtain ⟨⟨k63, k87, k86⟩, k2⟩ := k
  obtain ⟨⟨k59, k60, k61, k62⟩, ks⟩ := k2 (by rw [c11]; exact hb)
  have hbo := h0.2.2.2 b hb12
  by_cases hd : due cm b
  · obtain ⟨d6, d13⟩ := hd
    obtain ⟨k88, k89, k90, k91, k92⟩ := ks d6
    rw [if_pos ⟨by rw [k86]; exact d6, by rw [k92, m9, ← c13]; exact d13.symm⟩]
    have hf : trn (mm 89 b) (mm 88 b) (mm 91 b) = trn (cm (28 + b) 8) (cm (28 + b) 7) (cm (28 + b) 10) := by rw [k89, k88, k91]
    have hfr := trn_rng (motor := cm (28 + b) 7) hbo.2.2.2.2.2.2.2.2.1 hbo.2.2.2.2.2.2.2.2.2.2.1
    obtain ⟨v86, v89, v90, v92, v13⟩ := mtA_v mm (b : Int)
    have lou_iff : lou (tnA cm (28 + b)) b ↔ (400 ≤ trn (mm 89 b) (mm 88 b) (mm 91 b) ∧ mm 87 b = 0) := by
      unfold lou
      rw [tnA_8, tnA_k (by decide), hf, k87]
    -- the class's memory behind the turn, but for the record
    have bell : ∀ cc : aM, (∀ (x : Nat) (j : Int), (x < 4 ∨ 7 < x) → cc x j = tnA cm (28 + b) x j) → K2 cc (mtA mm b) ∧ ∀ (x : Nat) (j : Int), (x < 4 ∨ (7 < x ∧ (x < 28 ∨ 40 ≤ x))) → cc x j = cs x j := by
      intro cc hcc
      refine ⟨fun y y0 y1 => ?_, fun x j q => by rw [hcc x j (by omega), tnA_o (by omega)]; exact h3 x j q⟩
      have ky := h1 y y0 y1
      by_cases e : y = (b : Int)
      · subst e
        rw [Int.toNat_natCast] at *
        have gc : ∀ j : Int, cc (28 + b) j = tnA cm (28 + b) (28 + b) j := fun j => hcc _ _ (by omega)
        have gk : ∀ j : Int, j ≠ 6 ∧ j ≠ 8 ∧ j ≠ 9 ∧ j ≠ 11 → cc (28 + b) j = cm (28 + b) j := fun j q => (gc j).trans (tnA_k q _)
        have e6 : mtA mm b 86 b = cc (28 + b) 6 := by
          rw [v86, gc, tnA_6, hf, k88]
          have h6 := hbo.2.2.2.2.2.2.1
          by_cases q : trn (cm (28 + b) 8) (cm (28 + b) 7) (cm (28 + b) 10) = 0 ∧ cm (28 + b) 7 = 0
          · rw [if_pos q, if_neg (by omega)]
          · rw [if_neg q, if_pos (by omega)]; omega
        refine ⟨⟨by rw [mtA_o (by omega) (by omega), gk 4 (by decide)]; exact k63, by rw [mtA_o (by omega) (by omega), gk 5 (by decide)]; exact k87, e6⟩, fun _ => ⟨⟨by rw [mtA_o (by omega) (by omega), gk 0 (by decide)]; exact k59, by rw [mtA_o (by omega) (by omega), gk 1 (by decide)]; exact k60, by rw [mtA_o (by omega) (by omega), gk 2 (by decide)]; exact k61, by rw [mtA_o (by omega) (by omega), gk 3 (by decide)]; exact k62⟩, fun _ => ⟨by rw [mtA_o (by omega) (by omega), gk 7 (by decide)]; exact k88, by rw [v89, gc, tnA_8]; exact hf, by rw [v90, gc, tnA_9, k90], by rw [mtA_o (by omega) (by omega), gk 10 (by decide)]; exact k91, by rw [v92, gc, tnA_11, gk 3 (by decide), k92, k62]⟩⟩⟩
      · have hne : 28 + y.toNat ≠ 28 + b := by omega
        have gc : ∀ j : Int, cc (28 + y.toNat) j = cm (28 + y.toNat) j := fun j => (hcc _ _ (by omega)).trans (tnA_o hne j)
        have g11 : cc 1 11 = cm 1 11 := (hcc _ _ (by omega)).trans (tnA_o (by omega) _)
        have gm : ∀ x : Nat, (x < 64 ∨ 66 < x) → x ≠ 58 → mtA mm b x y = mm x y := fun x q1 q2 => mtA_o (by omega) (Or.inl e)
        rw [gc, gc, gc, gc, gc, gc, gc, gc, gc, gc, gc, gc, g11, gm 63 (by decide) (by decide), gm 87 (by decide) (by decide), gm 86 (by decide) (by decide), gm 59 (by decide) (by decide), gm 60 (by decide) (by decide), gm 61 (by decide) (by decide), gm 62 (by decide) (by decide), gm 88 (by decide) (by decide), gm 89 (by decide) (by decide), gm 90 (by decide) (by decide), gm 91 (by decide) (by decide), gm 92 (by decide) (by decide)]
        exact ky
    have m1fr : ∀ (x : Nat) (j : Int), x ≠ 89 → x ≠ 90 → aup (aup mm 90 b (-(mm 90 b))) 89 b (trn (mm 89 b) (mm 88 b) (mm 91 b)) x j = mm x j := fun x j q1 q2 => by rw [aup_a q1, aup_a q2]
    have hfm : ∀ (x : Nat) (j : Int), (x < 64 ∨ 66 < x) → (x ≠ 58 ∨ j ≠ 13) → x ≠ 86 → x ≠ 89 → x ≠ 90 → x ≠ 92 → mtA mm b x j = ms x j := fun x j q1 q2 q3 q4 q5 q6 => by rw [mtA_o ⟨q1, q2⟩ (Or.inr ⟨q3, q4, q5, q6⟩)]; exact h4 x j q1 q2 q3 q4 q5 q6
    have htk := tkB_tb h0 hb12
    by_cases hl : lou (tnA cm (28 + b)) b
    · obtain ⟨e1, e2⟩ := tbA_l ⟨d6, d13⟩ hl
      have hl2 := lou_iff.mp hl
      rw [e1] at htk ⊢
      rw [e2]
      obtain ⟨b1, b2⟩ := bell (lgA (tnA cm (28 + b)) b (cm 1 13) 1) (fun x j q => lgA_o q j)
      refine ⟨htk, b1, ?_, b2, hfm, by rw [v13, if_pos hl2, h5]; omega⟩
      have q := K3_log (c := tnA cm (28 + b)) (m := aup (aup mm 90 b (-(mm 90 b))) 89 b (trn (mm 89 b) (mm 88 b) (mm 91 b))) (b := (b : Int)) (t := cm 1 13) (cl := 1) (K3e_fr (fun x j q1 q2 => tnA_o (by omega) j) (m1fr _ _ (by decide) (by decide)) (fun x j q1 q2 => m1fr _ _ (by omega) (by omega)) h2) (by rw [m1fr _ _ (by decide) (by decide), c13, m9]) (Or.inr rfl)
      refine K3e_fr (fun _ _ _ _ => rfl) ?_ (fun x j q1 q2 => ?_) q
      · rw [mtA_rec (Or.inr ⟨rfl, rfl⟩), if_pos hl2]
      · rw [mtA_rec (Or.inl ⟨q1, q2⟩), if_pos hl2]
    · obtain ⟨e1, e2⟩ := tbA_q ⟨d6, d13⟩ hl
      have hl2 : ¬ (400 ≤ trn (mm 89 b) (mm 88 b) (mm 91 b) ∧ mm 87 b = 0) := fun z => hl (lou_iff.mpr z)
      rw [e1] at htk ⊢
      rw [e2]
      obtain ⟨b1, b2⟩ := bell (tnA cm (28 + b)) (fun _ _ _ => rfl)
      refine ⟨htk, b1, ?_, b2, hfm, by rw [v13, if_neg hl2, h5]; omega⟩
      refine K3e_fr (fun x j q1 q2 => tnA_o (by omega) j) ?_ (fun x j q1 q2 => ?_) h2
      · rw [mtA_rec (Or.inr ⟨rfl, rfl⟩), if_neg hl2]; exact m1fr _ _ (by decide) (by decide)
      · rw [mtA_rec (Or.inl ⟨q1, q2⟩), if_neg hl2]; exact m1fr _ _ (by omega) (by omega)
  · obtain ⟨e1, e2⟩ := tbA_no hd
    have hn : ¬ (mm 86 b ≠ 0 ∧ mm 92 b = mm 58 9) := fun ⟨z1, z2⟩ => by
      rw [k86] at z1
      have k92 := (ks z1).2.2.2.2
      exact hd ⟨z1, by rw [c13, ← m9, ← z2, k92]⟩
    rw [if_neg hn, e1, e2]
    exact ⟨h0, h1, h2, h3, h4, by omega⟩
theorem TT_all {cs ms : aM} {t : Int} {N : Nat} (hN : (N : Int) = cs 1 11 ∧ N ≤ 12) (ht : cs 1 13 = t ∧ ms 58 9 = t) : ∀ (k b : Nat) (cm mm : aM) (g : Int), b + k = N → TT cs ms cm mm g → TT cs ms (tbF k b cm) (mtF k (b : Int) mm) (g + (tbC k b cm : Int))
  | 0, b, cm, mm, g, e, h => by
    show TT cs ms cm mm (g + ((0 : Nat) : Int))
    rw [show g + ((0 : Nat) : Int) = g by omega]
    exact h
  | k + 1, b, cm, mm, g, e, h => by
    have st := TT_step (b := b) h (by omega) (by omega) ht
    have ih := TT_all hN ht k (b + 1) (tbA cm b) _ _ (by omega) st
    rw [tbF_s, tbC_s, show g + ((tbN cm b + tbC k (b + 1) (tbA cm b) : Nat) : Int) = g + (tbN cm b : Int) + (tbC k (b + 1) (tbA cm b) : Int) by omega]
    have e9 : mtF (k + 1) (b : Int) mm = mtF k ((b + 1 : Nat) : Int) (if mm 86 b ≠ 0 ∧ mm 92 b = mm 58 9 then mtA mm b else mm) := by
      show (if mm 86 b ≠ 0 ∧ mm 92 b = mm 58 9 then mtF k ((b : Int) + 1) (mtA mm b) else mtF k ((b : Int) + 1) mm) = _
      by_cases q : mm 86 b ≠ 0 ∧ mm 92 b = mm 58 9
      · rw [if_pos q, if_pos q]; rfl
      · rw [if_neg q, if_neg q]; rfl
    rw [e9]
    exact ih
