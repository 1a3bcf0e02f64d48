-- part 64: the reader of the model: groups; loadPattern (printed by wip/whole/gen/p64.py)
theorem rep_tot {o : List Int} {g : Nat} {N : Int} (hg : g ≤ o.length) (hN : 1 ≤ N) : ((o.length : Int) - (g : Int)) * N = ((o ++ repL (o.drop g) (N - 1).toNat).length : Int) - (g : Int) := by
  have e1 : ((o.length : Int) - (g : Int)) * N = (((o.length - g) * ((N - 1).toNat + 1) : Nat) : Int) := by
    rw [Int.natCast_mul]
    congr 1
    · omega
    · omega
  rw [e1, Nat.mul_add, Nat.mul_one, List.length_append, repL_len, List.length_drop, Nat.mul_comm (o.length - g)]
  omega
theorem rep_get {o : List Int} {g c j : Nat} (hg : g < o.length) (hj : j < (c + 1) * (o.length - g)) : (o ++ repL (o.drop g) c).getD (g + j) 0 = (o.drop g).getD (j % (o.length - g)) 0 := by
  rw [Nat.add_mul, Nat.one_mul] at hj
  rw [List.getD_eq_getElem?_getD, List.getElem?_append]
  by_cases q : g + j < o.length
  · rw [if_pos q, Nat.mod_eq_of_lt (by omega), List.getD_eq_getElem?_getD, List.getElem?_drop]
  · rw [if_neg q, ← List.getD_eq_getElem?_getD, repL_get _ _ _ (by rw [List.length_drop]; omega), List.length_drop]
    congr 1
    rw [show g + j - o.length = j - (o.length - g) by omega]
    exact (Nat.mod_eq_sub_mod (by omega)).symm
theorem rem_nat (i b : Nat) : (i : Int) - ((i : Int).tdiv (b : Int)) * (b : Int) = ((i % b : Nat) : Int) := by
  have e : ((i : Int).tdiv (b : Int)) = ((i / b : Nat) : Int) := rfl
  have h := Nat.div_add_mod i b
  rw [e, ← Int.natCast_mul, Nat.mul_comm]
  omega
theorem g_rep {mr : aR} (hR : Rok mr) {mi m0 : aM} {p : Int} {o : List Int} {k : rSt} {D : Nat} {a : List Int} {N : Int} {b : Nat} (hb : b = a.length - o.length) (hoa : o.length < a.length) (hN : 1 ≤ N ∧ N ≤ 20) (hT : (a ++ repL (a.drop o.length) (N - 1).toNat).length ≤ 100) (hv : ∀ x ∈ a, 0 ≤ x ∧ x < 4096) (kx : ∀ m : aM, (∀ (x : Nat) (j : Int), x ≠ 74 → (x ≠ 58 ∨ j ≠ 26) → m x j = m0 x j) → m 58 26 = ((a ++ repL (a.drop o.length) (N - 1).toNat).length : Int) → AR m 74 (a ++ repL (a.drop o.length) (N - 1).toNat) → rdI mi (p, o, k) m) (h27 : m0 58 27 = 0) : ∀ (n : Nat) (m : aM) (z : Int) (i : Nat), (∀ (x : Nat) (j : Int), x ≠ 74 → (x ≠ 58 ∨ j ≠ 26) → m x j = m0 x j) → m 58 26 = (o.length : Int) + z → (∀ q : Nat, q < o.length + i → m 74 q = (a ++ repL (a.drop o.length) (N - 1).toNat).getD q 0) → z = (i : Int) → ((b : Int) ≤ z ∧ z ≤ ((b : Int) * N)) → ((b : Int) * N) - z < n → AWm RX7 cX7_readsGroup 7 (D + 1) (Pv mr (fun m => rdI mi (p, o, k) m)) 121 [(0, .ref 58), (1, iI ((k.length : Int))), (2, iI p), (3, iI ((o.length : Int))), (4, iI N), (5, iI ((b : Int))), (6, iI z)] [] m mr := by
  intro n
  induction n with
  | zero => intro m z i hfr h26 hA hz h2 h3; omega
  | succ n ih =>
    intro m z i hfr h26 hA hz h2 h3
    have h4 : m 58 27 = 0 := (hfr _ _ (by decide) (Or.inr (by decide))).trans h27
    have htot := rep_tot (o := a) (g := o.length) (N := N) (by omega) hN.1
    rw [show (a.length : Int) - (o.length : Int) = (b : Int) by omega] at htot
    have hcn : ((((N - 1).toNat + 1) * b : Nat) : Int) = (b : Int) * N := by rw [Int.natCast_mul, Int.mul_comm]; congr 1; omega
    have hm9 := mul_rng (x := (b : Int)) (y := N) (A := 100) (B := 20) (by rw [List.length_append] at hT; omega) (by omega) (by decide) (by decide)
    refine aw_iload (i := 6) (q := 6) dX7_readsGroup_121 rfl ?_
    refine aw_iload (i := 5) (q := 5) dX7_readsGroup_123 rfl ?_
    refine aw_iload (i := 4) (q := 4) dX7_readsGroup_125 rfl ?_
    refine aw_imul dX7_readsGroup_127 ?_
    refine aw_icmp_ge (tgt := 175) dX7_readsGroup_128 (by decide) (by first | assumption | omega) (by first | assumption | omega) (fun c128 => ?_) (fun c128 => ?_)
    · exact aw_vret ⟨rfl, rfl, rfl, kx m hfr (by omega) (fun q hq9 => hA q (by omega))⟩ (Nat.le_refl _) (Nat.le_refl _) dX7_readsGroup_175
    · refine aw_aload_n (i := 0) (q := 0) dX7_readsGroup_131 rfl rfl ?_
      refine aw_getIk (x := 0) 27 flX7_200 SH_58 (by decide) rfl rfl h4 dX7_readsGroup_132 (fun r132 => ?_)
      refine aw_if_ne (tgt := 175) dX7_readsGroup_135 (by decide) (by decide) (fun c135 => ?_) (fun c135 => ?_)
      · exact absurd c135 (by decide)
      · refine aw_aload_n (i := 0) (q := 0) dX7_readsGroup_138 rfl rfl ?_
        refine aw_getR (r := 74) flX7_60 SH_58 (by decide) rfl (rk_58_22 hR) dX7_readsGroup_139 ?_
        refine aw_aload_n (i := 0) (q := 0) dX7_readsGroup_142 rfl rfl ?_
        refine aw_getIk (x := m 58 26) 26 flX7_244 SH_58 (by decide) rfl rfl rfl dX7_readsGroup_143 (fun r143 => ?_)
        refine aw_aload_n (i := 0) (q := 0) dX7_readsGroup_146 rfl rfl ?_
        refine aw_getR (r := 74) flX7_60 SH_58 (by decide) rfl (rk_58_22 hR) dX7_readsGroup_147 ?_
        refine aw_iload_n (i := 3) (q := 3) dX7_readsGroup_150 rfl rfl ?_
        refine aw_iload (i := 6) (q := 6) dX7_readsGroup_151 rfl ?_
        have hrm := rem_nat i b
        have hrl := Nat.mod_lt i (show 0 < b by omega)
        rw [← hz] at hrm
        refine aw_iload (i := 5) (q := 5) dX7_readsGroup_153 rfl ?_
        refine aw_irem dX7_readsGroup_155 (by first | assumption | omega) (by first | assumption | omega) (by omega) (by omega) ?_
        refine aw_iadd dX7_readsGroup_156 ?_
        have hi9 : (o.length : Int) + (z - z.tdiv (b : Int) * (b : Int)) = ((o.length + i % b : Nat) : Int) := by rw [hrm]; omega
        have hva := hA (o.length + i % b) (by omega)
        rw [← hi9] at hva
        have hg1 := rep_get (o := a) (g := o.length) (c := (N - 1).toNat) (j := i % b) hoa (by rw [← hb]; have h9 := Nat.add_mul (N - 1).toNat 1 b; omega)
        rw [← hb, Nat.mod_mod] at hg1
        have hg2 := rep_get (o := a) (g := o.length) (c := (N - 1).toNat) (j := i) hoa (by rw [← hb]; omega)
        rw [← hb, ← hg1] at hg2
        rw [← hg2] at hva
        have hvr : 0 ≤ (a ++ repL (a.drop o.length) (N - 1).toNat).getD (o.length + i) 0 ∧ (a ++ repL (a.drop o.length) (N - 1).toNat).getD (o.length + i) 0 < 4096 := by
          rw [List.getD_eq_getElem?_getD, List.getElem?_eq_getElem (by omega), Option.getD_some]
          have h9 : (a ++ repL (a.drop o.length) (N - 1).toNat)[o.length + i] ∈ (a ++ repL (a.drop o.length) (N - 1).toNat) := List.getElem_mem _
          rcases List.mem_append.mp h9 with h9 | h9
          · exact hv _ h9
          · exact hv _ (List.mem_of_mem_drop (repL_mem _ h9))
        refine aw_ialdv (x := m 74 (((o.length : Int)) + (z - z.tdiv ((b : Int)) * ((b : Int))))) SH_74 (by decide) ⟨by omega, by omega⟩ rfl dX7_readsGroup_157 (fun r157 => ?_)
        refine aw_iast SH_74 (by decide) ⟨by omega, by omega⟩ (by first | assumption | omega) dX7_readsGroup_158 ?_
        refine aw_aload_n (i := 0) (q := 0) dX7_readsGroup_159 rfl rfl ?_
        refine aw_dup dX7_readsGroup_160 rfl ?_
        refine aw_getIk (x := m 58 26) 26 flX7_244 SH_58 (by decide) rfl rfl (by (rw [aup_a (by decide)]) <;> rfl) dX7_readsGroup_161 (fun r161 => ?_)
        refine aw_iconst dX7_readsGroup_164 ?_
        refine aw_iadd dX7_readsGroup_165 ?_
        refine aw_putIk 26 flX7_244 SH_58 (by decide) rfl rfl rfl (by first | assumption | omega) dX7_readsGroup_166 ?_
        refine aw_iinc (i := 6) (q := 6) (x := z) (lv' := [(0, .ref 58), (1, iI ((k.length : Int))), (2, iI p), (3, iI ((o.length : Int))), (4, iI N), (5, iI ((b : Int))), (6, iI (z + 1))]) [1, 2, 3, 4, 5, 6, 0] dX7_readsGroup_169 rfl (by decide) rfl ?_
        refine aw_goto (tgt := 121) dX7_readsGroup_172 (by decide) ?_
        exact ih _ (z + 1) (i + 1) (fun x j a c => by (have e1 : ∀ u v : Int, aup (aup m 74 (m 58 26) u) 58 26 v x j = m x j := fun u v => by rcases c with c | c; (rw [aup_a c, aup_a a]); (rw [aup_k c, aup_a a])); rw [e1]; exact hfr x j a c) (by rw [aup_eq]; omega) (fun q hq9 => by rw [aup_a (by decide)]; by_cases e9 : q = o.length + i; (rw [e9, show ((o.length + i : Nat) : Int) = m 58 26 by omega, aup_eq]; exact hva); (rw [aup_k (by omega)]; exact hA q (by omega))) (by omega) (by omega) (by omega)
theorem rch_pos {X : Int → Int} {E : Int} (hE : E ≤ 300) : ∀ (k : Nat) (q q' : rQ), wfQ E q → rch (sgF X E) E k q q' → q.1 ≤ q'.1
  | 0, q, q', _, h => by rw [show q' = q from h]; exact Int.le_refl _
  | k + 1, q, q', hw, ⟨q1, h1, h2⟩ => by
    have h3 := wf_step hE hw h1
    have := rch_pos hE k q1 q' h3.1 h2
    omega
theorem grp_of {D kl : Nat} (hD : 3 ≤ D) (hlt : kl < 3) (hI : ItsC D (kl + 1)) : GrC (D + 1) kl := by
  intro mr hR mi p o k hE hw hq h27 hkl dp hdp hs
  subst hdp
  refine SPg.void rfl (by decide +kernel) (Nat.le_of_ble_eq_true rfl) ?_
  show AWm RX7 cX7_readsGroup 7 (D + 1) (Pv mr (fun m => rdI mi (p, o, k) m)) 0 [(0, .ref 58), (1, iI ((k.length : Int)))] [] mi mr
  have h7 : mi 58 25 = p := hq.1
  have h26 : mi 58 26 = (o.length : Int) := hq.2.1
  have ho : o.length ≤ 100 := hw.2.2.1
  have hp0 : 0 ≤ p := hw.1
  have hpl := sgM_lt (m := mi) (p := p) (by omega)
  have hok : okS (sgM mi) (mi 58 24) (p, o, k) (p + 1, o, (p, o.length) :: k) := ⟨by show p < mi 58 24; omega, rs_open hs (by omega)⟩
  have hwf1 := (wf_step (X := fun j => mi 71 j) hE.2 hw hok).1
  refine aw_aload_n (i := 0) (q := 0) dX7_readsGroup_0 rfl rfl ?_
  refine aw_getIk (x := p) 25 flX7_206 SH_58 (by decide) rfl rfl h7 dX7_readsGroup_1 (fun r1 => ?_)
  refine aw_istore_n (i := 2) (lv' := [(0, .ref 58), (1, iI ((k.length : Int))), (2, iI p)]) [1, 2, 0] dX7_readsGroup_4 rfl (by decide) rfl ?_
  refine aw_aload_n (i := 0) (q := 0) dX7_readsGroup_5 rfl rfl ?_
  refine aw_getIk (x := (o.length : Int)) 26 flX7_244 SH_58 (by decide) rfl rfl h26 dX7_readsGroup_6 (fun r6 => ?_)
  refine aw_istore_n (i := 3) (lv' := [(0, .ref 58), (1, iI ((k.length : Int))), (2, iI p), (3, iI ((o.length : Int)))]) [1, 2, 3, 0] dX7_readsGroup_9 rfl (by decide) rfl ?_
  refine aw_iload_n (i := 1) (q := 1) dX7_readsGroup_10 rfl rfl ?_
  refine aw_iconst dX7_readsGroup_11 ?_
  refine aw_icmp_ne (tgt := 25) dX7_readsGroup_12 (by decide) (by first | assumption | omega) (by decide) (fun c12 => ?_) (fun c12 => ?_)
  · refine aw_aload_n (i := 0) (q := 0) dX7_readsGroup_25 rfl rfl ?_
    refine aw_dup dX7_readsGroup_26 rfl ?_
    refine aw_getIk (x := p) 25 flX7_206 SH_58 (by decide) rfl rfl h7 dX7_readsGroup_27 (fun r27 => ?_)
    refine aw_iconst dX7_readsGroup_30 ?_
    refine aw_iadd dX7_readsGroup_31 ?_
    refine aw_putIk 25 flX7_206 SH_58 (by decide) rfl rfl rfl (by first | assumption | omega) dX7_readsGroup_32 ?_
    refine aw_aload_n (i := 0) (q := 0) dX7_readsGroup_35 rfl rfl ?_
    refine aw_iload_n (i := 1) (q := 1) dX7_readsGroup_36 rfl rfl ?_
    refine aw_iconst dX7_readsGroup_37 ?_
    refine aw_iadd dX7_readsGroup_38 ?_
    refine aw_cVv (As := [iI (((k.length : Int)) + 1)]) (st := []) clX7_247 (hI mr hR (aup mi 58 25 (p + 1)) (p + 1) o ((p, o.length) :: k) (by rw [aup_k (by decide)]; exact hE) (by rw [aup_k (by decide)]; exact hwf1) ⟨aup_eq _ _ _ _, by rw [aup_k (by decide)]; exact h26, AR_congr hq.2.2 (fun j => aup_a (by decide))⟩ (by rw [aup_k (by decide)]; exact h27) (by rw [List.length_cons]; omega) _ (by rw [List.length_cons]; omega)) SH_58 rfl (by decide) rfl rfl (Nat.le_of_ble_eq_true rfl) (by omega) (by decide) (Nat.le_refl _) (Nat.le_refl _) dX7_readsGroup_39 (fun m1 hm1 => ?_)
    unfold rdL at hm1
    rw [sgM_fr (frT_k (k := 25) (v := p + 1) (by decide) (frT_rfl mi)), aup_k (by decide)] at hm1
    obtain ⟨f1, hcs⟩ := hm1
    have hf1 : frT mi m1 := frT_tr (frT_k (k := 25) (v := p + 1) (by decide) (frT_rfl mi)) f1
    rcases hcs with ⟨k1, o8, k2⟩ | ⟨k1, p1, a, ⟨j1, j2, j3⟩, ⟨kk, k3⟩, k4⟩
    · refine aw_aload_n (i := 0) (q := 0) dX7_readsGroup_42 rfl rfl ?_
      refine aw_getIk (x := m1 58 27) 27 flX7_200 SH_58 (by decide) rfl rfl rfl dX7_readsGroup_43 (fun r43 => ?_)
      refine aw_if_eq (tgt := 50) dX7_readsGroup_46 (by decide) (by first | assumption | omega) (fun c46 => ?_) (fun c46 => ?_)
      · exact absurd (by assumption) k1
      · exact aw_vret ⟨rfl, rfl, rfl, (⟨hf1, Or.inl ⟨k1, o8, Fin9_tr ⟨1, _, hok, rfl⟩ k2⟩⟩ : rdI mi (p, o, k) _)⟩ (Nat.le_refl _) (Nat.le_refl _) dX7_readsGroup_49
    · have hw1 := wf_rch (X := fun j => mi 71 j) hE.2 kk _ _ hwf1 k3
      have hrc : Rch (sgM mi) (mi 58 24) (p, o, k) (p1, a, (p, o.length) :: k) := Rch_tr ⟨1, _, hok, rfl⟩ ⟨kk, k3⟩
      have hal : o.length ≤ a.length ∧ a.length ≤ 100 := ⟨(hw1.2.2.2.2.2 (p, o.length) List.mem_cons_self).2.2, hw1.2.2.1⟩
      have hp1 : 0 ≤ p1 ∧ p1 < mi 58 24 ∧ sgM mi p1 = 41 := by rcases k4 with ⟨z, -⟩ | ⟨-, z1, z2⟩; (exact absurd z (List.cons_ne_nil _ _)); (exact ⟨hw1.1, z1, z2⟩)
      refine aw_aload_n (i := 0) (q := 0) dX7_readsGroup_42 rfl rfl ?_
      refine aw_getIk (x := 0) 27 flX7_200 SH_58 (by decide) rfl rfl k1 dX7_readsGroup_43 (fun r43 => ?_)
      refine aw_if_eq (tgt := 50) dX7_readsGroup_46 (by decide) (by decide) (fun c46 => ?_) (fun c46 => ?_)
      · refine aw_aload_n (i := 0) (q := 0) dX7_readsGroup_50 rfl rfl ?_
        refine aw_getIk (x := (a.length : Int)) 26 flX7_244 SH_58 (by decide) rfl rfl j2 dX7_readsGroup_51 (fun r51 => ?_)
        refine aw_iload_n (i := 3) (q := 3) dX7_readsGroup_54 rfl rfl ?_
        refine aw_icmp_ne (tgt := 68) dX7_readsGroup_55 (by decide) (by first | assumption | omega) (by first | assumption | omega) (fun c55 => ?_) (fun c55 => ?_)
        · refine aw_aload_n (i := 0) (q := 0) dX7_readsGroup_68 rfl rfl ?_
          refine aw_dup dX7_readsGroup_69 rfl ?_
          refine aw_getIk (x := p1) 25 flX7_206 SH_58 (by decide) rfl rfl j1 dX7_readsGroup_70 (fun r70 => ?_)
          refine aw_iconst dX7_readsGroup_73 ?_
          refine aw_iadd dX7_readsGroup_74 ?_
          refine aw_putIk 25 flX7_206 SH_58 (by decide) rfl rfl rfl (by first | assumption | omega) dX7_readsGroup_75 ?_
          have hf2 : frT mi (aup m1 58 25 (p1 + 1)) := frT_k (by decide) hf1
          refine aw_aload_n (i := 0) (q := 0) dX7_readsGroup_78 rfl rfl ?_
          refine aw_cVi (As := []) (st := []) clX7_241 (s_X7_number (p := p1 + 1) hR (by rw [hf2 58 24 (by decide) (by omega)]; exact hE) (aup_eq _ _ _ _) (by omega) (by rw [aup_k (by decide)]; exact k1)) SH_58 rfl (by decide) rfl rfl (Nat.le_of_ble_eq_true rfl) (by omega) (by decide) (Nat.le_refl _) (Nat.le_refl _) dX7_readsGroup_79 (fun v79 m2 hv79 => ?_)
          unfold nuM at hv79
          rw [sgM_fr hf2] at hv79
          have g26 : m2 58 26 = (a.length : Int) ∧ frT mi m2 := by
            rcases hv79 with ⟨-, -, n2⟩ | ⟨-, -, n2, n3, -⟩
            · rw [n2]; exact ⟨by rw [aup_k (by decide), aup_k (by decide), aup_k (by decide)]; exact j2, frT_k (by decide) (frT_k (by decide) hf2)⟩
            · exact ⟨by rw [n3 _ _ (by omega), aup_k (by decide)]; exact j2, frT_tr hf2 (fun x j _ b => n3 x j (by omega))⟩
          rcases hv79 with ⟨nd, n1, n2⟩ | ⟨hd, n1, n2, n3, ⟨k5, k6, k7, k8⟩ | ⟨k5, k6, k7⟩⟩
          · have e27 : m2 58 27 = 1 := by rw [n2, aup_k (by decide), aup_eq]
            have e28 : m2 58 28 = p1 + 1 := by rw [n2, aup_eq]
            have hrg : -1 ≤ v79 ∧ v79 ≤ 100 := by omega
            refine aw_istore (i := 4) (lv' := [(0, .ref 58), (1, iI ((k.length : Int))), (2, iI p), (3, iI ((o.length : Int))), (4, iI v79)]) [1, 2, 3, 4, 0] dX7_readsGroup_82 (by decide) rfl ?_
            refine aw_aload_n (i := 0) (q := 0) dX7_readsGroup_84 rfl rfl ?_
            refine aw_getIk (x := (a.length : Int)) 26 flX7_244 SH_58 (by decide) rfl rfl g26.1 dX7_readsGroup_85 (fun r85 => ?_)
            refine aw_iload_n (i := 3) (q := 3) dX7_readsGroup_88 rfl rfl ?_
            refine aw_isub dX7_readsGroup_89 ?_
            refine aw_istore (i := 5) (lv' := [(0, .ref 58), (1, iI ((k.length : Int))), (2, iI p), (3, iI ((o.length : Int))), (4, iI v79), (5, iI (((a.length : Int)) - ((o.length : Int))))]) [1, 2, 3, 4, 5, 0] dX7_readsGroup_90 (by decide) rfl ?_
            refine aw_aload_n (i := 0) (q := 0) dX7_readsGroup_92 rfl rfl ?_
            refine aw_getIk (x := 1) 27 flX7_200 SH_58 (by decide) rfl rfl e27 dX7_readsGroup_93 (fun r93 => ?_)
            refine aw_if_ne (tgt := 117) dX7_readsGroup_96 (by decide) (by decide) (fun c96 => ?_) (fun c96 => ?_)
            · have hm9 := mul_rng (x := ((a.length : Int) - (o.length : Int))) (y := v79) (A := 100) (B := 100) (by omega) (by omega) (by decide) (by decide)
              refine aw_iload (i := 5) (q := 5) dX7_readsGroup_117 rfl ?_
              refine aw_istore (i := 6) (lv' := [(0, .ref 58), (1, iI ((k.length : Int))), (2, iI p), (3, iI ((o.length : Int))), (4, iI v79), (5, iI (((a.length : Int)) - ((o.length : Int)))), (6, iI (((a.length : Int)) - ((o.length : Int))))]) [1, 2, 3, 4, 5, 6, 0] dX7_readsGroup_119 (by decide) rfl ?_
              refine aw_iload (i := 6) (q := 6) dX7_readsGroup_121 rfl ?_
              refine aw_iload (i := 5) (q := 5) dX7_readsGroup_123 rfl ?_
              refine aw_iload (i := 4) (q := 4) dX7_readsGroup_125 rfl ?_
              refine aw_imul dX7_readsGroup_127 ?_
              refine aw_icmp_ge (tgt := 175) dX7_readsGroup_128 (by decide) (by first | assumption | omega) (by first | assumption | omega) (fun c128 => ?_) (fun c128 => ?_)
              · exact aw_vret ⟨rfl, rfl, rfl, (⟨g26.2, Or.inl ⟨by rw [e27]; decide, [], by rw [e27, e28]; exact Fin9_tr hrc (Fin9_er (by show p1 < mi 58 24; omega) (by decide) (rs_close1 hp1.2.2 (by show ¬ a.length = o.length; omega) nd))⟩⟩ : rdI mi (p, o, k) _)⟩ (Nat.le_refl _) (Nat.le_refl _) dX7_readsGroup_175
              · refine aw_aload_n (i := 0) (q := 0) dX7_readsGroup_131 rfl rfl ?_
                refine aw_getIk (x := 1) 27 flX7_200 SH_58 (by decide) rfl rfl e27 dX7_readsGroup_132 (fun r132 => ?_)
                refine aw_if_ne (tgt := 175) dX7_readsGroup_135 (by decide) (by decide) (fun c135 => ?_) (fun c135 => ?_)
                · exact aw_vret ⟨rfl, rfl, rfl, (⟨g26.2, Or.inl ⟨by rw [e27]; decide, [], by rw [e27, e28]; exact Fin9_tr hrc (Fin9_er (by show p1 < mi 58 24; omega) (by decide) (rs_close1 hp1.2.2 (by show ¬ a.length = o.length; omega) nd))⟩⟩ : rdI mi (p, o, k) _)⟩ (Nat.le_refl _) (Nat.le_refl _) dX7_readsGroup_175
                · exact absurd c135 (by decide)
            · exact absurd c96 (by decide)
          · have hrg : 1 ≤ v79 ∧ v79 ≤ 20 := ⟨k5, k6⟩
            refine aw_istore (i := 4) (lv' := [(0, .ref 58), (1, iI ((k.length : Int))), (2, iI p), (3, iI ((o.length : Int))), (4, iI v79)]) [1, 2, 3, 4, 0] dX7_readsGroup_82 (by decide) rfl ?_
            refine aw_aload_n (i := 0) (q := 0) dX7_readsGroup_84 rfl rfl ?_
            refine aw_getIk (x := (a.length : Int)) 26 flX7_244 SH_58 (by decide) rfl rfl g26.1 dX7_readsGroup_85 (fun r85 => ?_)
            refine aw_iload_n (i := 3) (q := 3) dX7_readsGroup_88 rfl rfl ?_
            refine aw_isub dX7_readsGroup_89 ?_
            refine aw_istore (i := 5) (lv' := [(0, .ref 58), (1, iI ((k.length : Int))), (2, iI p), (3, iI ((o.length : Int))), (4, iI v79), (5, iI (((a.length : Int)) - ((o.length : Int))))]) [1, 2, 3, 4, 5, 0] dX7_readsGroup_90 (by decide) rfl ?_
            refine aw_aload_n (i := 0) (q := 0) dX7_readsGroup_92 rfl rfl ?_
            refine aw_getIk (x := 0) 27 flX7_200 SH_58 (by decide) rfl rfl k7 dX7_readsGroup_93 (fun r93 => ?_)
            refine aw_if_ne (tgt := 117) dX7_readsGroup_96 (by decide) (by decide) (fun c96 => ?_) (fun c96 => ?_)
            · exact absurd c96 (by decide)
            · have hm8 := mul_rng (x := ((a.length : Int) - (o.length : Int))) (y := v79) (A := 100) (B := 100) (by omega) (by omega) (by decide) (by decide)
              refine aw_iload_n (i := 3) (q := 3) dX7_readsGroup_99 rfl rfl ?_
              refine aw_iload (i := 5) (q := 5) dX7_readsGroup_100 rfl ?_
              refine aw_iload (i := 4) (q := 4) dX7_readsGroup_102 rfl ?_
              refine aw_imul dX7_readsGroup_104 ?_
              refine aw_iadd dX7_readsGroup_105 ?_
              refine aw_bipush (x := 100) dX7_readsGroup_106 rfl ?_
              refine aw_icmp_le (tgt := 117) dX7_readsGroup_108 (by decide) (by first | assumption | omega) (by decide) (fun c108 => ?_) (fun c108 => ?_)
              · have hm9 := mul_rng (x := ((a.length : Int) - (o.length : Int))) (y := v79) (A := 100) (B := 100) (by omega) (by omega) (by decide) (by decide)
                refine aw_iload (i := 5) (q := 5) dX7_readsGroup_117 rfl ?_
                refine aw_istore (i := 6) (lv' := [(0, .ref 58), (1, iI ((k.length : Int))), (2, iI p), (3, iI ((o.length : Int))), (4, iI v79), (5, iI (((a.length : Int)) - ((o.length : Int)))), (6, iI (((a.length : Int)) - ((o.length : Int))))]) [1, 2, 3, 4, 5, 6, 0] dX7_readsGroup_119 (by decide) rfl ?_
                have h4n : ¬ 100 < (o.length : Int) + ((a.length : Int) - (o.length : Int)) * v79 := by omega
                have hre := rep_len (o := a) (g := o.length) (N := v79) hal.1 k5 h4n (v79 - 1).toNat (Nat.le_refl _)
                rw [show ((a.length : Int) - (o.length : Int)) = ((a.length - o.length : Nat) : Int) by omega]
                refine g_rep hR (D := D) (m0 := m2) (p := p) (o := o) (k := k) (a := a) (N := v79) rfl (by omega) ⟨k5, k6⟩ (by rw [hre.1]; exact hre.2) (fun x hx => hw1.2.2.2.2.1 x hx) (fun m hfr h26 hA => ?_) k7 ((((a.length - o.length : Nat) : Int) * v79).toNat + 1) m2 _ (a.length - o.length) (fun _ _ _ _ => rfl) (by rw [g26.1]; omega) (fun q hq9 => ?_) rfl ⟨Int.le_refl _, ?_⟩ ?_
                · have hok2 : okS (sgM mi) (mi 58 24) (p1, a, (p, o.length) :: k) (nuP (sgM mi) (p1 + 1), a ++ repL (a.drop o.length) (v79 - 1).toNat, k) := ⟨by show p1 < mi 58 24; omega, by rw [n1]; exact rs_close hp1.2.2 (by show ¬ a.length = o.length; omega) hd (by rw [← n1]; omega) (by rw [← n1]; exact h4n)⟩
                  exact ⟨fun x j b c => by rw [hfr x j b (by omega)]; exact g26.2 x j b c, Or.inr ⟨(hfr _ _ (by decide) (Or.inr (by decide))).trans k7, _, _, ⟨(hfr _ _ (by decide) (Or.inr (by decide))).trans n2, h26, hA⟩, Rch_ok hrc hok2, by have h8 := nuP_rng (X := fun j => mi 71 j) (E := mi 58 24) (p := p1 + 1) hd.1; have h9 := rch_pos (X := fun j => mi 71 j) hE.2 kk _ _ hwf1 k3; have h9 : p + 1 ≤ p1 := h9; show p < nuP (sgM mi) (p1 + 1); have h7 : p1 + 1 < nuP (sgM mi) (p1 + 1) := h8.1; omega⟩⟩
                · have e1 : m2 74 q = m1 74 q := by rw [n3 _ _ (Or.inl (by decide)), aup_a (by decide)]
                  rw [e1, j3 q (by omega), List.getD_eq_getElem?_getD, List.getD_eq_getElem?_getD, List.getElem?_append, if_pos (show q < a.length by omega)]
                · have := rep_tot (o := a) (g := o.length) (N := v79) hal.1 k5; rw [show ((a.length : Int) - (o.length : Int)) = ((a.length - o.length : Nat) : Int) by omega] at this; rw [this, hre.1]; omega
                · omega
              · refine aw_aload_n (i := 0) (q := 0) dX7_readsGroup_111 rfl rfl ?_
                refine aw_iconst dX7_readsGroup_112 ?_
                refine aw_iload_n (i := 2) (q := 2) dX7_readsGroup_113 rfl rfl ?_
                refine aw_cVv (As := [iI 4, iI p]) (st := []) clX7_227 (s_fails0 hR (by decide) (by omega) k7) SH_58 rfl (by decide) rfl rfl (Nat.le_of_ble_eq_true rfl) (by omega) (by decide) (Nat.le_refl _) (Nat.le_refl _) dX7_readsGroup_114 (fun m9 hm9 => ?_)
                subst hm9
                have hm9 := mul_rng (x := ((a.length : Int) - (o.length : Int))) (y := v79) (A := 100) (B := 100) (by omega) (by omega) (by decide) (by decide)
                refine aw_iload (i := 5) (q := 5) dX7_readsGroup_117 rfl ?_
                refine aw_istore (i := 6) (lv' := [(0, .ref 58), (1, iI ((k.length : Int))), (2, iI p), (3, iI ((o.length : Int))), (4, iI v79), (5, iI (((a.length : Int)) - ((o.length : Int)))), (6, iI (((a.length : Int)) - ((o.length : Int))))]) [1, 2, 3, 4, 5, 6, 0] dX7_readsGroup_119 (by decide) rfl ?_
                refine aw_iload (i := 6) (q := 6) dX7_readsGroup_121 rfl ?_
                refine aw_iload (i := 5) (q := 5) dX7_readsGroup_123 rfl ?_
                refine aw_iload (i := 4) (q := 4) dX7_readsGroup_125 rfl ?_
                refine aw_imul dX7_readsGroup_127 ?_
                refine aw_icmp_ge (tgt := 175) dX7_readsGroup_128 (by decide) (by first | assumption | omega) (by first | assumption | omega) (fun c128 => ?_) (fun c128 => ?_)
                · exact aw_vret ⟨rfl, rfl, rfl, (⟨frT_k (by decide) (frT_k (by decide) g26.2), Or.inl ⟨by rw [aup_k (by decide), aup_eq]; decide, [], by rw [aup_k (by decide), aup_eq, aup_eq]; exact Fin9_tr hrc (Fin9_er (by show p1 < mi 58 24; omega) (by decide) (rs_close4 hp1.2.2 (by show ¬ a.length = o.length; omega) hd (by rw [← n1]; omega) (by rw [← n1]; show 100 < (o.length : Int) + _; omega)))⟩⟩ : rdI mi (p, o, k) _)⟩ (Nat.le_refl _) (Nat.le_refl _) dX7_readsGroup_175
                · refine aw_aload_n (i := 0) (q := 0) dX7_readsGroup_131 rfl rfl ?_
                  refine aw_getIk (x := 4) 27 flX7_200 SH_58 (by decide) rfl rfl (by (rw [aup_k (by decide), aup_eq]) <;> rfl) dX7_readsGroup_132 (fun r132 => ?_)
                  refine aw_if_ne (tgt := 175) dX7_readsGroup_135 (by decide) (by decide) (fun c135 => ?_) (fun c135 => ?_)
                  · exact aw_vret ⟨rfl, rfl, rfl, (⟨frT_k (by decide) (frT_k (by decide) g26.2), Or.inl ⟨by rw [aup_k (by decide), aup_eq]; decide, [], by rw [aup_k (by decide), aup_eq, aup_eq]; exact Fin9_tr hrc (Fin9_er (by show p1 < mi 58 24; omega) (by decide) (rs_close4 hp1.2.2 (by show ¬ a.length = o.length; omega) hd (by rw [← n1]; omega) (by rw [← n1]; show 100 < (o.length : Int) + _; omega)))⟩⟩ : rdI mi (p, o, k) _)⟩ (Nat.le_refl _) (Nat.le_refl _) dX7_readsGroup_175
                  · exact absurd c135 (by decide)
          · have hnr := nuV_rng hd
            have hrg : -1 ≤ v79 ∧ v79 ≤ 100 := by omega
            refine aw_istore (i := 4) (lv' := [(0, .ref 58), (1, iI ((k.length : Int))), (2, iI p), (3, iI ((o.length : Int))), (4, iI v79)]) [1, 2, 3, 4, 0] dX7_readsGroup_82 (by decide) rfl ?_
            refine aw_aload_n (i := 0) (q := 0) dX7_readsGroup_84 rfl rfl ?_
            refine aw_getIk (x := (a.length : Int)) 26 flX7_244 SH_58 (by decide) rfl rfl g26.1 dX7_readsGroup_85 (fun r85 => ?_)
            refine aw_iload_n (i := 3) (q := 3) dX7_readsGroup_88 rfl rfl ?_
            refine aw_isub dX7_readsGroup_89 ?_
            refine aw_istore (i := 5) (lv' := [(0, .ref 58), (1, iI ((k.length : Int))), (2, iI p), (3, iI ((o.length : Int))), (4, iI v79), (5, iI (((a.length : Int)) - ((o.length : Int))))]) [1, 2, 3, 4, 5, 0] dX7_readsGroup_90 (by decide) rfl ?_
            refine aw_aload_n (i := 0) (q := 0) dX7_readsGroup_92 rfl rfl ?_
            refine aw_getIk (x := 2) 27 flX7_200 SH_58 (by decide) rfl rfl k6 dX7_readsGroup_93 (fun r93 => ?_)
            refine aw_if_ne (tgt := 117) dX7_readsGroup_96 (by decide) (by decide) (fun c96 => ?_) (fun c96 => ?_)
            · have hm9 := mul_rng (x := ((a.length : Int) - (o.length : Int))) (y := v79) (A := 100) (B := 100) (by omega) (by omega) (by decide) (by decide)
              refine aw_iload (i := 5) (q := 5) dX7_readsGroup_117 rfl ?_
              refine aw_istore (i := 6) (lv' := [(0, .ref 58), (1, iI ((k.length : Int))), (2, iI p), (3, iI ((o.length : Int))), (4, iI v79), (5, iI (((a.length : Int)) - ((o.length : Int)))), (6, iI (((a.length : Int)) - ((o.length : Int))))]) [1, 2, 3, 4, 5, 6, 0] dX7_readsGroup_119 (by decide) rfl ?_
              refine aw_iload (i := 6) (q := 6) dX7_readsGroup_121 rfl ?_
              refine aw_iload (i := 5) (q := 5) dX7_readsGroup_123 rfl ?_
              refine aw_iload (i := 4) (q := 4) dX7_readsGroup_125 rfl ?_
              refine aw_imul dX7_readsGroup_127 ?_
              refine aw_icmp_ge (tgt := 175) dX7_readsGroup_128 (by decide) (by first | assumption | omega) (by first | assumption | omega) (fun c128 => ?_) (fun c128 => ?_)
              · exact aw_vret ⟨rfl, rfl, rfl, (⟨g26.2, Or.inl ⟨by rw [k6]; decide, [], by rw [k6, k7]; exact Fin9_tr hrc (Fin9_er (by show p1 < mi 58 24; omega) (by decide) (rs_close2 hp1.2.2 (by show ¬ a.length = o.length; omega) hd (by rw [← n1]; exact k5)))⟩⟩ : rdI mi (p, o, k) _)⟩ (Nat.le_refl _) (Nat.le_refl _) dX7_readsGroup_175
              · refine aw_aload_n (i := 0) (q := 0) dX7_readsGroup_131 rfl rfl ?_
                refine aw_getIk (x := 2) 27 flX7_200 SH_58 (by decide) rfl rfl k6 dX7_readsGroup_132 (fun r132 => ?_)
                refine aw_if_ne (tgt := 175) dX7_readsGroup_135 (by decide) (by decide) (fun c135 => ?_) (fun c135 => ?_)
                · exact aw_vret ⟨rfl, rfl, rfl, (⟨g26.2, Or.inl ⟨by rw [k6]; decide, [], by rw [k6, k7]; exact Fin9_tr hrc (Fin9_er (by show p1 < mi 58 24; omega) (by decide) (rs_close2 hp1.2.2 (by show ¬ a.length = o.length; omega) hd (by rw [← n1]; exact k5)))⟩⟩ : rdI mi (p, o, k) _)⟩ (Nat.le_refl _) (Nat.le_refl _) dX7_readsGroup_175
                · exact absurd c135 (by decide)
            · exact absurd c96 (by decide)
        · refine aw_aload_n (i := 0) (q := 0) dX7_readsGroup_58 rfl rfl ?_
          refine aw_iconst dX7_readsGroup_59 ?_
          refine aw_aload_n (i := 0) (q := 0) dX7_readsGroup_60 rfl rfl ?_
          refine aw_getIk (x := p1) 25 flX7_206 SH_58 (by decide) rfl rfl j1 dX7_readsGroup_61 (fun r61 => ?_)
          refine aw_cVv (As := [iI 5, iI p1]) (st := []) clX7_227 (s_fails0 hR (by decide) (by omega) k1) SH_58 rfl (by decide) rfl rfl (Nat.le_of_ble_eq_true rfl) (by omega) (by decide) (Nat.le_refl _) (Nat.le_refl _) dX7_readsGroup_64 (fun m9 hm9 => ?_)
          subst hm9
          exact aw_vret ⟨rfl, rfl, rfl, (⟨frT_k (by decide) (frT_k (by decide) hf1), Or.inl ⟨by rw [aup_k (by decide), aup_eq]; decide, [], by rw [aup_k (by decide), aup_eq, aup_eq]; exact Fin9_tr hrc (Fin9_er (by show p1 < mi 58 24; omega) (by decide) (rs_close5 hp1.2.2 (by show a.length = o.length; omega)))⟩⟩ : rdI mi (p, o, k) _)⟩ (Nat.le_refl _) (Nat.le_refl _) dX7_readsGroup_67
      · exact absurd c46 (by decide)
  · exfalso; omega
theorem its3 : ItsC 6 3 := items_of (by decide) (item_of (by decide) grp3)
theorem its2 : ItsC 9 2 := items_of (by decide) (item_of (by decide) (grp_of (by decide) (by decide) its3))
theorem its1 : ItsC 12 1 := items_of (by decide) (item_of (by decide) (grp_of (by decide) (by decide) its2))
theorem its0 : ItsC 15 0 := items_of (by decide) (item_of (by decide) (grp_of (by decide) (by decide) its1))
