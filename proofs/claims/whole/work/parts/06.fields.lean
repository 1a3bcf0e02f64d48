-- part 06: fields under their numbers as integers; Math (printed by wip/whole/gen/gen06.py)
section AWT
variable {own : String} {cc : ByteArray} {nL d : Nat} {ini : Bool} {kc ks : Nat} {xo : Option (Nat × (Int → Int))} {Po : Option Int → Nat → aM → aR → Prop} {pc : Nat} {lv : List (Nat × Value)} {st : List Value} {mi : aM} {mr : aR} {ck sk : Nat}
theorem aw_getIk {idx ci f a n : Nat} {x : Int} (k : Int) (hf : aFld own idx ci f) (hs : SH a = (0, ci)) (ha : 0 < a ∧ a ≤ n) (hk : (f : Int) = k) (hr : (fty ci f).isReference = false) (hx : mi a k = x) (hd : decode cc pc = .ok (.getfield idx, 3)) (kk : -2147483648 ≤ x ∧ x ≤ 2147483647 → AW own cc nL d ini kc ks xo Po n (pc + 3) lv (iI x :: st) mi mr ck sk) : AW own cc nL d ini kc ks xo Po n pc lv (.ref a :: st) mi mr ck sk := by
  subst hk
  exact aw_getIv hf hs ha hr hx hd kk
theorem aw_putIk {idx ci f a n : Nat} {v : Int} (k : Int) (hf : aFld own idx ci f) (hs : SH a = (0, ci)) (ha : 0 < a ∧ a ≤ n) (hk : (f : Int) = k) (hfin : aFin ci f = false) (hty : fty ci f = .int) (hv : -2147483648 ≤ v ∧ v ≤ 2147483647) (hd : decode cc pc = .ok (.putfield idx, 3)) (kk : AW own cc nL d ini kc ks xo Po n (pc + 3) lv st (aup mi a k v) mr ck sk) : AW own cc nL d ini kc ks xo Po n pc lv (iI v :: .ref a :: st) mi mr ck sk := by
  subst hk
  exact aw_putI hf hs ha hfin hty hv hd kk
theorem aw_putZk {idx ci f a n : Nat} {v : Int} (k : Int) (hf : aFld own idx ci f) (hs : SH a = (0, ci)) (ha : 0 < a ∧ a ≤ n) (hk : (f : Int) = k) (hfin : aFin ci f = false) (hty : fty ci f = .boolean) (hv : v = 0 ∨ v = 1) (hd : decode cc pc = .ok (.putfield idx, 3)) (kk : AW own cc nL d ini kc ks xo Po n (pc + 3) lv st (aup mi a k v) mr ck sk) : AW own cc nL d ini kc ks xo Po n pc lv (iI v :: .ref a :: st) mi mr ck sk := by
  subst hk
  exact aw_putZ hf hs ha hfin hty hv hd kk
theorem aw_putRk {idx ci f a n r : Nat} (k : Int) (hf : aFld own idx ci f) (hs : SH a = (0, ci)) (ha : 0 < a ∧ a ≤ n) (hk : (f : Int) = k) (hfin : aFin ci f = true) (hini : ini = true) (hdc : ∀ q, vwCl[ci]? = some q → (q.2.1 f).1 = own) (hty : (fty ci f).isReference = true) (hd : decode cc pc = .ok (.putfield idx, 3)) (kk : AW own cc nL d ini kc ks xo Po n (pc + 3) lv st mi (aup mr a k (some r)) ck sk) : AW own cc nL d ini kc ks xo Po n pc lv (.ref r :: .ref a :: st) mi mr ck sk := by
  subst hk
  exact aw_putR hf hs ha hfin hini hdc hty hd kk
theorem mth_max : yJ9_max_7cf53 = Lib.Math.max.name ∧ cJ9_max_7cf53 = Lib.Math.max.code := ⟨rfl, by decide +kernel⟩
theorem aw_mmax {idx : Nat} {x y : Int} (hx : -2147483648 ≤ x ∧ x ≤ 2147483647) (hy : -2147483648 ≤ y ∧ y ≤ 2147483647) (hcal : aCalS own idx yJ9_max_7cf53 cJ9_max_7cf53 2 (some .int) 2) (hr : (st.map fun v => v.category).sum ≤ 8) (hd1 : 1 ≤ d) (hck : ck ≤ kc) (hsk : sk ≤ ks) (hd : decode cc pc = .ok (.invokestatic idx, 3)) (kk : ∀ r : Int, (r = x ∧ y ≤ x) ∨ (r = y ∧ x < y) → AW own cc nL d ini kc ks xo Po 94 (pc + 3) lv (iI r :: st) mi mr ck sk) : AW own cc nL d ini kc ks xo Po 94 pc lv (iI y :: iI x :: st) mi mr ck sk := by
  intro p l e R s m args below meth c H locs ls D cA b base Q C I S L T
  obtain ⟨hml, hsta, hini, hcode, -⟩ := hcal
  rw [mth_max.1] at hml hsta hcode hini
  rw [mth_max.2] at hcode
  have hts := C.2.2.2.2.1
  have hR := C.2.2.2.2.2.2.2.2.1
  have hcat := cat_sum b base st
  refine va_mmax (x := Int32.ofInt x) (y := Int32.ofInt y) (rest := st.map (cv b base)) C.1 C.2.1 (by rw [C.2.2.1]; exact L.1.symm) C.2.2.2.1 (hts _ hml) (hts _ hsta) (hts _ hini) (hts _ hcode) (by omega) (by rw [hcat]; omega) (by omega) (by omega) hd ?_
  by_cases h : x < y
  · have h2 := (oI_lt hx hy).mpr h
    rw [if_pos h2]
    exact kk y (Or.inr ⟨rfl, h⟩) p l e R s m args below meth c H locs ls D cA b base Q C I S L T
  · have h2 : ¬ Int32.ofInt x < Int32.ofInt y := fun q => h ((oI_lt hx hy).mp q)
    rw [if_neg h2]
    exact kk x (Or.inl ⟨rfl, by omega⟩) p l e R s m args below meth c H locs ls D cA b base Q C I S L T
theorem mth_min : yJ9_min_7cf53 = Lib.Math.min.name ∧ cJ9_min_7cf53 = Lib.Math.min.code := ⟨rfl, by decide +kernel⟩
theorem aw_mmin {idx : Nat} {x y : Int} (hx : -2147483648 ≤ x ∧ x ≤ 2147483647) (hy : -2147483648 ≤ y ∧ y ≤ 2147483647) (hcal : aCalS own idx yJ9_min_7cf53 cJ9_min_7cf53 2 (some .int) 2) (hr : (st.map fun v => v.category).sum ≤ 8) (hd1 : 1 ≤ d) (hck : ck ≤ kc) (hsk : sk ≤ ks) (hd : decode cc pc = .ok (.invokestatic idx, 3)) (kk : ∀ r : Int, (r = x ∧ x ≤ y) ∨ (r = y ∧ y < x) → AW own cc nL d ini kc ks xo Po 94 (pc + 3) lv (iI r :: st) mi mr ck sk) : AW own cc nL d ini kc ks xo Po 94 pc lv (iI y :: iI x :: st) mi mr ck sk := by
  intro p l e R s m args below meth c H locs ls D cA b base Q C I S L T
  obtain ⟨hml, hsta, hini, hcode, -⟩ := hcal
  rw [mth_min.1] at hml hsta hcode hini
  rw [mth_min.2] at hcode
  have hts := C.2.2.2.2.1
  have hR := C.2.2.2.2.2.2.2.2.1
  have hcat := cat_sum b base st
  refine va_mmin (x := Int32.ofInt x) (y := Int32.ofInt y) (rest := st.map (cv b base)) C.1 C.2.1 (by rw [C.2.2.1]; exact L.1.symm) C.2.2.2.1 (hts _ hml) (hts _ hsta) (hts _ hini) (hts _ hcode) (by omega) (by rw [hcat]; omega) (by omega) (by omega) hd ?_
  by_cases h : y < x
  · have h2 := (oI_lt hy hx).mpr h
    rw [if_pos h2]
    exact kk y (Or.inr ⟨rfl, h⟩) p l e R s m args below meth c H locs ls D cA b base Q C I S L T
  · have h2 : ¬ Int32.ofInt y < Int32.ofInt x := fun q => h ((oI_lt hy hx).mp q)
    rw [if_neg h2]
    exact kk x (Or.inl ⟨rfl, by omega⟩) p l e R s m args below meth c H locs ls D cA b base Q C I S L T
theorem mth_abs : yJ9_abs_0f7a4 = Lib.Math.abs.name ∧ cJ9_abs_0f7a4 = Lib.Math.abs.code := ⟨rfl, by decide +kernel⟩
theorem aw_mabs {idx : Nat} {x : Int} (hx : -2147483647 ≤ x ∧ x ≤ 2147483647) (hcal : aCalS own idx yJ9_abs_0f7a4 cJ9_abs_0f7a4 1 (some .int) 1) (hr : (st.map fun v => v.category).sum ≤ 8) (hd1 : 1 ≤ d) (hck : ck ≤ kc) (hsk : sk ≤ ks) (hd : decode cc pc = .ok (.invokestatic idx, 3)) (kk : ∀ r : Int, (r = x ∧ 0 ≤ x) ∨ (r = -x ∧ x < 0) → AW own cc nL d ini kc ks xo Po 94 (pc + 3) lv (iI r :: st) mi mr ck sk) : AW own cc nL d ini kc ks xo Po 94 pc lv (iI x :: st) mi mr ck sk := by
  intro p l e R s m args below meth c H locs ls D cA b base Q C I S L T
  obtain ⟨hml, hsta, hini, hcode, -⟩ := hcal
  rw [mth_abs.1] at hml hsta hcode hini
  rw [mth_abs.2] at hcode
  have hts := C.2.2.2.2.1
  have hR := C.2.2.2.2.2.2.2.2.1
  have hcat := cat_sum b base st
  refine va_mabs (x := Int32.ofInt x) (rest := st.map (cv b base)) C.1 C.2.1 (by rw [C.2.2.1]; exact L.1.symm) C.2.2.2.1 (hts _ hml) (hts _ hsta) (hts _ hini) (hts _ hcode) (by omega) (by rw [hcat]; omega) (by omega) (by omega) hd ?_
  by_cases h : 0 ≤ x
  · have h2 : ¬ Int32.ofInt x < 0 := oI_neg ⟨h, hx.2⟩
    first | rw [if_neg h2] | rw [if_pos (Int32.not_lt.mp h2)]
    exact kk x (Or.inl ⟨rfl, h⟩) p l e R s m args below meth c H locs ls D cA b base Q C I S L T
  · have h2 : Int32.ofInt x < 0 := by rw [← oI_0, oI_lt (by omega) (by omega)]; omega
    first | rw [if_pos h2] | rw [if_neg (Int32.not_le.mpr h2)]
    rw [show (0 : Int32) - Int32.ofInt x = Int32.ofInt (-x) by rw [← oI_0, ← Int32.ofInt_sub]; congr 1; omega]
    exact kk (-x) (Or.inr ⟨rfl, by omega⟩) p l e R s m args below meth c H locs ls D cA b base Q C I S L T
end AWT
