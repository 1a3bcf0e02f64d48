-- part 02: the abstract machine over integers (printed by wip/whole/gen/gen02.py)
/-! Every object and array of a run has a number (its place in the order of making, from 1 on; 0 is the script). A number's kind is SH. Ints of all cells: mi (cell, place) as integers; references: mr. AW says: from this frame the method comes to a return that meets Po. -/
abbrev aM : Type := Nat → Int → Int
abbrev aR : Type := Nat → Int → Option Nat
def iI (x : Int) : Value := .int (Int32.ofInt x)
def lL (x : Int) : Value := .long (Int64.ofInt x)
def adr (b base k : Nat) : Nat := match k with
  | 0 => b
  | k + 1 => base + k
def cv (b base : Nat) (v : Value) : Value := match v with
  | .ref k => .ref (adr b base k)
  | v => v
def clv (b base : Nat) (lv : List (Nat × Value)) : List (Nat × Value) := lv.map (fun q => (q.1, cv b base q.2))
def aup {α : Type} (f : Nat → Int → α) (a : Nat) (k : Int) (v : α) : Nat → Int → α := fun x j => if x = a ∧ j = k then v else f x j
def SHL : List (Nat × Nat) := [(99, 0), (0, 6), (3, 12), (0, 0), (0, 5), (1, 200), (1, 200), (1, 200), (0, 4), (1, 300), (1, 300), (1, 300), (1, 51), (0, 4), (1, 300), (1, 300), (1, 300), (1, 51), (0, 3), (1, 300), (1, 100), (1, 3), (1, 3), (4, 5), (5, 8), (1, 720), (1, 601), (1, 51), (0, 0), (0, 0), (0, 0), (0, 0), (0, 0), (0, 0), (0, 0), (0, 0), (0, 0), (0, 0), (0, 0), (0, 0), (0, 2), (1, 100), (0, 2), (1, 100), (0, 2), (1, 100), (0, 2), (1, 100), (0, 2), (1, 100), (0, 1), (0, 1), (0, 1), (0, 1), (0, 1), (0, 1), (0, 1), (0, 1), (0, 7), (1, 12), (1, 12), (1, 12), (1, 12), (1, 12), (1, 200), (1, 200), (2, 200), (1, 300), (1, 300), (1, 300), (1, 52), (1, 300), (1, 500), (1, 5), (1, 100), (1, 300), (1, 300), (1, 300), (1, 12), (2, 12), (1, 8), (1, 8), (1, 8), (1, 8), (1, 8), (1, 8), (2, 12), (2, 12), (2, 12), (1, 12), (1, 12), (1, 12), (1, 12), (1, 720), (1, 601)]
def SH (a : Nat) : Nat × Nat := SHL.getD a (99, 0)
theorem SH_len (a : Nat) : (SH a).2 ≤ 1000 := by
  unfold SH
  by_cases h : a < SHL.length
  · have key : ∀ q ∈ SHL, q.2 ≤ 1000 := by decide +kernel
    have e : SHL.getD a (99, 0) ∈ SHL := by
      rw [List.getD_eq_getElem?_getD, List.getElem?_eq_getElem h]
      exact List.getElem_mem h
    exact key _ e
  · rw [List.getD_eq_getElem?_getD, List.getElem?_eq_none (by omega)]
    exact Nat.zero_le _
abbrev aTys (cA : Nat → ClassId) : List (ClassId × FieldType) := [(cA 0, .int), (cA 1, .boolean), (cA 2, .object RX0), (cA 3, .object RX2), (cA 4, .object RX1)]
def fval (mi : aM) (mr : aR) (b base a ci k : Nat) : Value := if (fty ci k).isReference = true then va_rf ((mr a k).map (adr b base)) else .int (Int32.ofInt (mi a k))
def cel (cA : Nat → ClassId) (mi : aM) (mr : aR) (b base a : Nat) : va_E := match SH a with
  | (0, ci) => .inr (ci, (List.range (nF ci)).map (fval mi mr b base a ci))
  | (1, n) => .inl (cA 0, n, .inl (fun j => Int32.ofInt (mi a j)))
  | (2, n) => .inl (cA 1, n, .inl (fun j => Int32.ofInt (mi a j)))
  | (t + 3, n) => .inl (cA (t + 2), n, .inr (.inr (.inr (.inr (fun j => (mr a j).map (adr b base))))))
def wld (cA : Nat → ClassId) (mi : aM) (mr : aR) (b base n : Nat) : va_W := (List.range n).map (fun k => (base + k, cel cA mi mr b base (k + 1)))
def aI (D : va_G) (cA : Nat → ClassId) (b base n : Nat) (mi : aM) (mr : aR) (H : Heap) : Prop :=
  H.size = base + n ∧ va_P D vwCl (wld cA mi mr b base n) H ∧ (∀ (a : Nat) (k : Int), -2147483648 ≤ mi a k ∧ mi a k ≤ 2147483647) ∧ (∀ (a : Nat) (k : Int), n < a → mi a k = 0 ∧ mr a k = none)
theorem aOwn {ci N : Nat} {C : String} {F : u_T} (h : vwCl[ci]? = some (C, F, N)) : ∀ k, k < N → (F k).1 = C := by
  match ci, h with
  | 0, h => cases h; decide +kernel
  | 1, h => cases h; decide +kernel
  | 2, h => cases h; decide +kernel
  | 3, h => cases h; decide +kernel
  | 4, h => cases h; decide +kernel
  | 5, h => cases h; decide +kernel
  | 6, h => cases h; decide +kernel
  | 7, h => cases h; decide +kernel
  | k + 8, h => simp [vwCl] at h
theorem cv_cat (b base : Nat) (v : Value) : (cv b base v).category = v.category := by cases v <;> rfl
theorem clv_at {b base : Nat} {lv : List (Nat × Value)} {k i : Nat} {v : Value} (h : lv[k]? = some (i, v)) : (clv b base lv)[k]? = some (i, cv b base v) := by simp [clv, h]
theorem clv_store (b base i : Nat) (v : Value) (lv : List (Nat × Value)) : (i, cv b base v) :: (clv b base lv).filter (fun q => !(q.1 == i) && !(q.1 + 1 == i && q.2.category == 2)) = clv b base ((i, v) :: lv.filter (fun q => !(q.1 == i) && !(q.1 + 1 == i && q.2.category == 2))) := by
  simp [clv, List.filter_map, Function.comp_def, cv_cat]
theorem clv_store2 (b base i : Nat) (v : Value) (lv : List (Nat × Value)) : (i, cv b base v) :: (clv b base lv).filter (fun q => !(q.1 == i) && (!(q.1 == i + 1) && !(q.1 + 1 == i && q.2.category == 2))) = clv b base ((i, v) :: lv.filter (fun q => !(q.1 == i) && (!(q.1 == i + 1) && !(q.1 + 1 == i && q.2.category == 2)))) := by
  simp [clv, List.filter_map, Function.comp_def, cv_cat]
theorem clv_pick (b base : Nat) (lv : List (Nat × Value)) (ks : List Nat) : lv_pick (clv b base lv) ks = clv b base (lv_pick lv ks) := by
  induction ks with
  | nil => rfl
  | cons k ks ih =>
    simp only [lv_pick, clv, List.filterMap_cons, List.getElem?_map] at ih ⊢
    cases h : lv[k]? <;> simp [ih]
theorem clv_args (b base : Nat) (av : List Value) : ∀ i, lv_args i (av.map (cv b base)) = clv b base (lv_args i av) := by
  induction av with
  | nil => intro i; rfl
  | cons v t ih =>
    intro i
    simp only [List.map_cons, lv_args, cv_cat, ih, clv, List.map_cons]
theorem sl_len (b base : Nat) (av : List Value) : (lg_sl (av.map (cv b base))).length = (lg_sl av).length := by
  induction av with
  | nil => rfl
  | cons v t ih =>
    simp only [lg_sl, List.map_cons, List.flatMap_cons, List.length_append] at ih ⊢
    rw [ih, cv_cat]
    by_cases h : v.category = 2 <;> simp [h]
theorem cat_sum (b base : Nat) (st : List Value) : ((st.map (cv b base)).map fun v => v.category).sum = (st.map fun v => v.category).sum := by
  induction st with
  | nil => rfl
  | cons v t ih => simp only [List.map_cons, List.sum_cons, ih, cv_cat]
theorem wld_at {cA : Nat → ClassId} {mi : aM} {mr : aR} {b base n a : Nat} (h : 0 < a ∧ a ≤ n) : (wld cA mi mr b base n)[a - 1]? = some (adr b base a, cel cA mi mr b base a) := by
  obtain ⟨k, rfl⟩ : ∃ k, a = k + 1 := ⟨a - 1, by omega⟩
  have hk : k < n := by omega
  simp [wld, hk, adr]
theorem wld_D (cA : Nat → ClassId) (mi : aM) (mr : aR) (b base n : Nat) : va_D (fun q => base ≤ q) (wld cA mi mr b base n) := by
  have key : ∀ (k : Nat) (q : Nat × va_E), (wld cA mi mr b base n)[k]? = some q → q.1 = base + k := by
    intro k q h
    simp only [wld, List.getElem?_map, Option.map_eq_some_iff] at h
    obtain ⟨j, h1, rfl⟩ := h
    have := List.getElem?_eq_some_iff.mp h1
    obtain ⟨h2, h3⟩ := this
    simp at h3
    simp [h3]
  refine ⟨fun i j p q h1 h2 h3 => ?_, fun k q h => ?_⟩
  · have e1 := key i p h1
    have e2 := key j q h2
    omega
  · have e1 := key k q h
    show base ≤ q.1
    omega
theorem cel_eq {cA : Nat → ClassId} {mi mi' : aM} {mr mr' : aR} {b base a : Nat} (h : ∀ j : Int, mi' a j = mi a j ∧ mr' a j = mr a j) : cel cA mi' mr' b base a = cel cA mi mr b base a := by
  have e1 : ∀ j : Int, mi' a j = mi a j := fun j => (h j).1
  have e2 : ∀ j : Int, mr' a j = mr a j := fun j => (h j).2
  unfold cel fval
  simp only [e1, e2]
theorem wld_set {cA : Nat → ClassId} {mi mi' : aM} {mr mr' : aR} {b base n a : Nat} {e : va_E} (ha : 0 < a ∧ a ≤ n) (hm : ∀ (x : Nat) (j : Int), x ≠ a → mi' x j = mi x j ∧ mr' x j = mr x j) (he : e = cel cA mi' mr' b base a) :
    (wld cA mi mr b base n).set (a - 1) (adr b base a, e) = wld cA mi' mr' b base n := by
  obtain ⟨k, rfl⟩ : ∃ k, a = k + 1 := ⟨a - 1, by omega⟩
  have hk : k < n := by omega
  apply List.ext_getElem?
  intro j
  simp only [Nat.add_sub_cancel, List.getElem?_set]
  by_cases hj : k = j
  · subst hj
    simp [wld, hk, adr, he]
  · simp only [hj, if_false, wld, List.getElem?_map]
    cases hr : (List.range n)[j]? with
    | none => simp
    | some x =>
      have hx : x = j := by
        obtain ⟨h2, h3⟩ := List.getElem?_eq_some_iff.mp hr
        simpa using h3.symm
      subst hx
      simp only [Option.map_some]
      rw [cel_eq (mi := mi) (mi' := mi') (mr := mr) (mr' := mr') (fun q => hm (x + 1) q (by omega))]
theorem oI_toInt {x : Int} (h : -2147483648 ≤ x ∧ x ≤ 2147483647) : (Int32.ofInt x).toInt = x := Int32.toInt_ofInt_of_le (by omega) (by omega)
theorem oI_lt {x y : Int} (hx : -2147483648 ≤ x ∧ x ≤ 2147483647) (hy : -2147483648 ≤ y ∧ y ≤ 2147483647) : Int32.ofInt x < Int32.ofInt y ↔ x < y := by rw [Int32.lt_iff_toInt_lt, oI_toInt hx, oI_toInt hy]
theorem oI_le {x y : Int} (hx : -2147483648 ≤ x ∧ x ≤ 2147483647) (hy : -2147483648 ≤ y ∧ y ≤ 2147483647) : Int32.ofInt x ≤ Int32.ofInt y ↔ x ≤ y := by rw [Int32.le_iff_toInt_le, oI_toInt hx, oI_toInt hy]
theorem oI_eq {x y : Int} (hx : -2147483648 ≤ x ∧ x ≤ 2147483647) (hy : -2147483648 ≤ y ∧ y ≤ 2147483647) : Int32.ofInt x = Int32.ofInt y ↔ x = y := by rw [← Int32.toInt_inj, oI_toInt hx, oI_toInt hy]
theorem oI_0 : Int32.ofInt 0 = 0 := by decide
theorem oL_toInt {x : Int} (h : -9000000000000000000 ≤ x ∧ x ≤ 9000000000000000000) : (Int64.ofInt x).toInt = x := Int64.toInt_ofInt_of_le (by omega) (by omega)
theorem oI_in {i : Int} {n : Nat} (h : 0 ≤ i ∧ i < n) (hn : n ≤ 1000) : vp_in (Int32.ofInt i) n := by rw [vp_in_iff, oI_toInt (by omega)]; exact h
theorem oI_clamp {i : Int} (h : 0 ≤ i) (h2 : i ≤ 2147483647) : (((Int32.ofInt i).toNatClampNeg : Nat) : Int) = i := by
  rw [Int32.toNatClampNeg_ofInt_of_le (by omega) (by omega)]
  omega
theorem oI_neg {x : Int} (h : 0 ≤ x ∧ x ≤ 2147483647) : ¬ Int32.ofInt x < 0 := by
  rw [← oI_0, oI_lt (by omega) (by omega)]
  omega
theorem tdiv_rng {x y : Int} (hx : -2147483648 ≤ x ∧ x ≤ 2147483647) (h1 : y ≠ -1) : -2147483648 ≤ x.tdiv y ∧ x.tdiv y ≤ 2147483647 := by
  have e : (x.tdiv y).natAbs = x.natAbs / y.natAbs := Int.natAbs_tdiv x y
  by_cases h2 : y = 1
  · subst h2; rw [Int.tdiv_one]; exact hx
  · by_cases h3 : y = 0
    · subst h3; rw [Int.tdiv_zero]; omega
    · have h4 : x.natAbs / y.natAbs ≤ x.natAbs / 2 := Nat.div_le_div_left (by omega) (by omega)
      omega
def aRet (v : Option Int) : Instr × Nat := match v with
  | none => (.return_, 1)
  | some _ => (.ireturn, 1)
def aStk (v : Option Int) : List Value := match v with
  | none => []
  | some x => [iI x]
def aC (own : String) (cc : ByteArray) (nL d : Nat) (ini : Bool) (kc ks : Nat) (xo : Option (Nat × (Int → Int))) (D : va_G) (cA : Nat → ClassId) (b base : Nat) (p : Program) (R : Room) (s : State) (m : MethodId) (args : Array Value) (meth : Method) (c : Code) : Prop :=
  p.tables.exec = Jvm.exec ∧ c.code = cc ∧ c.maxLocals = nL ∧ s.vm.findClass own = some m.cls ∧ (∀ w ∈ aT, w.before args s = true) ∧ va_K D vwCl (aTys cA) s ∧ aN s ∧ (ini = true → meth.name = "<init>") ∧ (d ≤ R.frames ∧ 60 * d ≤ R.locals ∧ kc ≤ R.cells ∧ ks ≤ R.slots) ∧ base ≤ s.heap.size ∧ (∀ L xs, xo = some (L, xs) → b < base ∧ base = s.heap.size ∧ va_X b L (fun j => Int32.ofInt (xs j)) s s.heap)
def aRT (cc : ByteArray) (kc ks : Nat) (Po : Option Int → Nat → aM → aR → Prop) (D : va_G) (cA : Nat → ClassId) (b base : Nat) (p : Program) (l : Launch) (e : Env) (R : Room) (s : State) (m : MethodId) (args : Array Value) (below : List Frame) (meth : Method) (c : Code) (Q : State → Prop) : Prop :=
  ∀ (v : Option Int) (n' : Nat) (mi' : aM) (mr' : aR) (ck' sk' : Nat) (H' : Heap) (locs' : List Loc) (pc' : Nat) (ls' : Array Slot), Po v n' mi' mr' → aI D cA b base n' mi' mr' H' → va_S (fun q => base ≤ q) s.heap H' locs' → ck' ≤ kc → sk' ≤ ks → decode cc pc' = .ok (aRet v) → W p l e R s m args below meth c H' locs' ck' sk' Q (F0 m pc' ls' (aStk v))
def AW (own : String) (cc : ByteArray) (nL d : Nat) (ini : Bool) (kc ks : Nat) (xo : Option (Nat × (Int → Int))) (Po : Option Int → Nat → aM → aR → Prop) (n pc : Nat) (lv : List (Nat × Value)) (st : List Value) (mi : aM) (mr : aR) (ck sk : Nat) : Prop :=
  ∀ (p : Program) (l : Launch) (e : Env) (R : Room) (s : State) (m : MethodId) (args : Array Value) (below : List Frame) (meth : Method) (c : Code) (H : Heap) (locs : List Loc) (ls : Array Slot) (D : va_G) (cA : Nat → ClassId) (b base : Nat) (Q : State → Prop),
    aC own cc nL d ini kc ks xo D cA b base p R s m args meth c → aI D cA b base n mi mr H → va_S (fun q => base ≤ q) s.heap H locs → lv_has ls nL (clv b base lv) → aRT cc kc ks Po D cA b base p l e R s m args below meth c Q → W p l e R s m args below meth c H locs ck sk Q (F0 m pc ls (st.map (cv b base)))
theorem aI_put {D : va_G} {cA : Nat → ClassId} {b base n a : Nat} {mi mi' : aM} {mr mr' : aR} {H H1 : Heap} {e : va_E} (I : aI D cA b base n mi mr H) (ha : 0 < a ∧ a ≤ n) (hP : va_P D vwCl ((wld cA mi mr b base n).set (a - 1) (adr b base a, e)) H1) (hz : H1.size = H.size)
    (hm : ∀ (x : Nat) (j : Int), x ≠ a → mi' x j = mi x j ∧ mr' x j = mr x j) (he : e = cel cA mi' mr' b base a) (hr : ∀ j : Int, -2147483648 ≤ mi' a j ∧ mi' a j ≤ 2147483647) : aI D cA b base n mi' mr' H1 := by
  refine ⟨by rw [hz]; exact I.1, by rw [← wld_set ha hm he]; exact hP, fun x k => ?_, fun x k hx => ?_⟩
  · by_cases h : x = a
    · subst h; exact hr k
    · rw [(hm x k h).1]; exact I.2.2.1 x k
  · have hne : x ≠ a := by omega
    rw [(hm x k hne).1, (hm x k hne).2]
    exact I.2.2.2 x k hx
theorem aup_rng {mi : aM} {a : Nat} {k v : Int} (h : ∀ (a : Nat) (k : Int), -2147483648 ≤ mi a k ∧ mi a k ≤ 2147483647) (hv : -2147483648 ≤ v ∧ v ≤ 2147483647) (x : Nat) (j : Int) : -2147483648 ≤ aup mi a k v x j ∧ aup mi a k v x j ≤ 2147483647 := by
  unfold aup
  split
  · exact hv
  · exact h x j
section AWR
variable {own : String} {cc : ByteArray} {nL d : Nat} {ini : Bool} {kc ks : Nat} {xo : Option (Nat × (Int → Int))} {Po : Option Int → Nat → aM → aR → Prop} {n pc : Nat} {lv : List (Nat × Value)} {st : List Value} {mi : aM} {mr : aR} {ck sk : Nat}

theorem aw_iconst {i : Int} (hd : decode cc pc = .ok (.iconst i, 1)) (k : AW own cc nL d ini kc ks xo Po n (pc + 1) lv (iI i :: st) mi mr ck sk) : AW own cc nL d ini kc ks xo Po n pc lv st mi mr ck sk := by
  intro p l e R s m args below meth c H locs ls D cA b base Q C I S L T
  exact lv_iconst (v := Int32.ofInt i) C.1 C.2.1 hd rfl (k p l e R s m args below meth c H locs ls D cA b base Q C I S L T)
theorem aw_bipush {i x : Int} (hd : decode cc pc = .ok (.bipush i, 2)) (hx : (Int8.ofInt i).toInt32 = Int32.ofInt x) (k : AW own cc nL d ini kc ks xo Po n (pc + 2) lv (iI x :: st) mi mr ck sk) : AW own cc nL d ini kc ks xo Po n pc lv st mi mr ck sk := by
  intro p l e R s m args below meth c H locs ls D cA b base Q C I S L T
  exact lv_bipush (v := Int32.ofInt x) C.1 C.2.1 hd hx (k p l e R s m args below meth c H locs ls D cA b base Q C I S L T)
theorem aw_sipush {i x : Int} (hd : decode cc pc = .ok (.sipush i, 3)) (hx : (Int16.ofInt i).toInt32 = Int32.ofInt x) (k : AW own cc nL d ini kc ks xo Po n (pc + 3) lv (iI x :: st) mi mr ck sk) : AW own cc nL d ini kc ks xo Po n pc lv st mi mr ck sk := by
  intro p l e R s m args below meth c H locs ls D cA b base Q C I S L T
  exact lv_sipush (v := Int32.ofInt x) C.1 C.2.1 hd hx (k p l e R s m args below meth c H locs ls D cA b base Q C I S L T)
theorem aw_lconst {i : Fin 2} {x : Int} (hd : decode cc pc = .ok (.lconst i, 1)) (hx : Int64.ofNat (i : Nat) = Int64.ofInt x) (k : AW own cc nL d ini kc ks xo Po n (pc + 1) lv (lL x :: st) mi mr ck sk) : AW own cc nL d ini kc ks xo Po n pc lv st mi mr ck sk := by
  intro p l e R s m args below meth c H locs ls D cA b base Q C I S L T
  exact lv_lconst (v := Int64.ofInt x) C.1 C.2.1 hd hx (k p l e R s m args below meth c H locs ls D cA b base Q C I S L T)
theorem aw_ldc {i : Nat} {v : Int32} {x : Int} (hc : Cond.constant own i v ∈ aT) (hx : v = Int32.ofInt x) (hd : decode cc pc = .ok (.ldc i, 2)) (k : AW own cc nL d ini kc ks xo Po n (pc + 2) lv (iI x :: st) mi mr ck sk) : AW own cc nL d ini kc ks xo Po n pc lv st mi mr ck sk := by
  intro p l e R s m args below meth c H locs ls D cA b base Q C I S L T
  subst hx
  exact lv_ldc C.1 C.2.1 C.2.2.2.1 (C.2.2.2.2.1 _ hc) hd (k p l e R s m args below meth c H locs ls D cA b base Q C I S L T)
theorem aw_ldcw {i : Nat} {v : Int32} {x : Int} (hc : Cond.constant own i v ∈ aT) (hx : v = Int32.ofInt x) (hd : decode cc pc = .ok (.ldc_w i, 3)) (k : AW own cc nL d ini kc ks xo Po n (pc + 3) lv (iI x :: st) mi mr ck sk) : AW own cc nL d ini kc ks xo Po n pc lv st mi mr ck sk := by
  intro p l e R s m args below meth c H locs ls D cA b base Q C I S L T
  subst hx
  exact lv_ldcw C.1 C.2.1 C.2.2.2.1 (C.2.2.2.2.1 _ hc) hd (k p l e R s m args below meth c H locs ls D cA b base Q C I S L T)
theorem aw_ldc2 {i : Nat} {v : Int64} {x : Int} (hc : Cond.constantLong own i v ∈ aT) (hx : v = Int64.ofInt x) (hd : decode cc pc = .ok (.ldc2_w i, 3)) (k : AW own cc nL d ini kc ks xo Po n (pc + 3) lv (lL x :: st) mi mr ck sk) : AW own cc nL d ini kc ks xo Po n pc lv st mi mr ck sk := by
  intro p l e R s m args below meth c H locs ls D cA b base Q C I S L T
  subst hx
  exact lv_ldc2 C.1 C.2.1 C.2.2.2.1 (C.2.2.2.2.1 _ hc) hd (k p l e R s m args below meth c H locs ls D cA b base Q C I S L T)
theorem aw_iload_n {f : Fin 4} {i q : Nat} {x : Int} (hd : decode cc pc = .ok (.iload_n f, 1)) (hi : (f : Nat) = i) (hq : lv[q]? = some (i, iI x)) (k : AW own cc nL d ini kc ks xo Po n (pc + 1) lv (iI x :: st) mi mr ck sk) : AW own cc nL d ini kc ks xo Po n pc lv st mi mr ck sk := by
  intro p l e R s m args below meth c H locs ls D cA b base Q C I S L T
  exact lv_iload_n C.1 C.2.1 hd hi (lv_at L q (clv_at hq)) (k p l e R s m args below meth c H locs ls D cA b base Q C I S L T)
theorem aw_iload {i q : Nat} {x : Int} (hd : decode cc pc = .ok (.iload i, 2)) (hq : lv[q]? = some (i, iI x)) (k : AW own cc nL d ini kc ks xo Po n (pc + 2) lv (iI x :: st) mi mr ck sk) : AW own cc nL d ini kc ks xo Po n pc lv st mi mr ck sk := by
  intro p l e R s m args below meth c H locs ls D cA b base Q C I S L T
  exact lv_iload C.1 C.2.1 hd (lv_at L q (clv_at hq)) (k p l e R s m args below meth c H locs ls D cA b base Q C I S L T)
theorem aw_lload_n {f : Fin 4} {i q : Nat} {x : Int} (hd : decode cc pc = .ok (.lload_n f, 1)) (hi : (f : Nat) = i) (hq : lv[q]? = some (i, lL x)) (k : AW own cc nL d ini kc ks xo Po n (pc + 1) lv (lL x :: st) mi mr ck sk) : AW own cc nL d ini kc ks xo Po n pc lv st mi mr ck sk := by
  intro p l e R s m args below meth c H locs ls D cA b base Q C I S L T
  exact lv_lload_n C.1 C.2.1 hd hi (lv_at L q (clv_at hq)) (k p l e R s m args below meth c H locs ls D cA b base Q C I S L T)
theorem aw_lload {i q : Nat} {x : Int} (hd : decode cc pc = .ok (.lload i, 2)) (hq : lv[q]? = some (i, lL x)) (k : AW own cc nL d ini kc ks xo Po n (pc + 2) lv (lL x :: st) mi mr ck sk) : AW own cc nL d ini kc ks xo Po n pc lv st mi mr ck sk := by
  intro p l e R s m args below meth c H locs ls D cA b base Q C I S L T
  exact lv_lload C.1 C.2.1 hd (lv_at L q (clv_at hq)) (k p l e R s m args below meth c H locs ls D cA b base Q C I S L T)
theorem aw_aload_n {f : Fin 4} {i q : Nat} {x : Nat} (hd : decode cc pc = .ok (.aload_n f, 1)) (hi : (f : Nat) = i) (hq : lv[q]? = some (i, .ref x)) (k : AW own cc nL d ini kc ks xo Po n (pc + 1) lv (.ref x :: st) mi mr ck sk) : AW own cc nL d ini kc ks xo Po n pc lv st mi mr ck sk := by
  intro p l e R s m args below meth c H locs ls D cA b base Q C I S L T
  exact lv_aload_n C.1 C.2.1 hd hi (lv_at L q (clv_at hq)) (k p l e R s m args below meth c H locs ls D cA b base Q C I S L T)
theorem aw_aload {i q : Nat} {x : Nat} (hd : decode cc pc = .ok (.aload i, 2)) (hq : lv[q]? = some (i, .ref x)) (k : AW own cc nL d ini kc ks xo Po n (pc + 2) lv (.ref x :: st) mi mr ck sk) : AW own cc nL d ini kc ks xo Po n pc lv st mi mr ck sk := by
  intro p l e R s m args below meth c H locs ls D cA b base Q C I S L T
  exact lv_aload C.1 C.2.1 hd (lv_at L q (clv_at hq)) (k p l e R s m args below meth c H locs ls D cA b base Q C I S L T)
theorem aw_istore_n {f : Fin 4} {i : Nat} {lv' : List (Nat × Value)} {x : Int} (zs : List Nat) (hd : decode cc pc = .ok (.istore_n f, 1)) (hi : (f : Nat) = i) (hn : i < nL) (hl : lv_pick ((i, iI x) :: lv.filter (fun q => !(q.1 == i) && !(q.1 + 1 == i && q.2.category == 2))) zs = lv') (k : AW own cc nL d ini kc ks xo Po n (pc + 1) lv' st mi mr ck sk) : AW own cc nL d ini kc ks xo Po n pc lv (iI x :: st) mi mr ck sk := by
  intro p l e R s m args below meth c H locs ls D cA b base Q C I S L T
  exact lv_istore_n (x := Int32.ofInt x) C.1 C.2.1 hd hi L hn (clv_store b base i (iI x) lv) (fun ls' h' => k p l e R s m args below meth c H locs ls' D cA b base Q C I S (by have h2 := lv_sub h' zs (clv_pick b base _ zs); rw [hl] at h2; exact h2) T)
theorem aw_istore {i : Nat} {lv' : List (Nat × Value)} {x : Int} (zs : List Nat) (hd : decode cc pc = .ok (.istore i, 2)) (hn : i < nL) (hl : lv_pick ((i, iI x) :: lv.filter (fun q => !(q.1 == i) && !(q.1 + 1 == i && q.2.category == 2))) zs = lv') (k : AW own cc nL d ini kc ks xo Po n (pc + 2) lv' st mi mr ck sk) : AW own cc nL d ini kc ks xo Po n pc lv (iI x :: st) mi mr ck sk := by
  intro p l e R s m args below meth c H locs ls D cA b base Q C I S L T
  exact lv_istore (x := Int32.ofInt x) C.1 C.2.1 hd L hn (clv_store b base i (iI x) lv) (fun ls' h' => k p l e R s m args below meth c H locs ls' D cA b base Q C I S (by have h2 := lv_sub h' zs (clv_pick b base _ zs); rw [hl] at h2; exact h2) T)
theorem aw_astore_n {f : Fin 4} {i : Nat} {lv' : List (Nat × Value)} {x : Nat} (zs : List Nat) (hd : decode cc pc = .ok (.astore_n f, 1)) (hi : (f : Nat) = i) (hn : i < nL) (hl : lv_pick ((i, .ref x) :: lv.filter (fun q => !(q.1 == i) && !(q.1 + 1 == i && q.2.category == 2))) zs = lv') (k : AW own cc nL d ini kc ks xo Po n (pc + 1) lv' st mi mr ck sk) : AW own cc nL d ini kc ks xo Po n pc lv (.ref x :: st) mi mr ck sk := by
  intro p l e R s m args below meth c H locs ls D cA b base Q C I S L T
  exact lv_astore_n (x := adr b base x) C.1 C.2.1 hd hi L hn (clv_store b base i (.ref x) lv) (fun ls' h' => k p l e R s m args below meth c H locs ls' D cA b base Q C I S (by have h2 := lv_sub h' zs (clv_pick b base _ zs); rw [hl] at h2; exact h2) T)
theorem aw_astore {i : Nat} {lv' : List (Nat × Value)} {x : Nat} (zs : List Nat) (hd : decode cc pc = .ok (.astore i, 2)) (hn : i < nL) (hl : lv_pick ((i, .ref x) :: lv.filter (fun q => !(q.1 == i) && !(q.1 + 1 == i && q.2.category == 2))) zs = lv') (k : AW own cc nL d ini kc ks xo Po n (pc + 2) lv' st mi mr ck sk) : AW own cc nL d ini kc ks xo Po n pc lv (.ref x :: st) mi mr ck sk := by
  intro p l e R s m args below meth c H locs ls D cA b base Q C I S L T
  exact lv_astore (x := adr b base x) C.1 C.2.1 hd L hn (clv_store b base i (.ref x) lv) (fun ls' h' => k p l e R s m args below meth c H locs ls' D cA b base Q C I S (by have h2 := lv_sub h' zs (clv_pick b base _ zs); rw [hl] at h2; exact h2) T)
theorem aw_lstore_n {f : Fin 4} {i : Nat} {lv' : List (Nat × Value)} {x : Int} (zs : List Nat) (hd : decode cc pc = .ok (.lstore_n f, 1)) (hi : (f : Nat) = i) (hn : i + 1 < nL) (hl : lv_pick ((i, lL x) :: lv.filter (fun q => !(q.1 == i) && (!(q.1 == i + 1) && !(q.1 + 1 == i && q.2.category == 2)))) zs = lv') (k : AW own cc nL d ini kc ks xo Po n (pc + 1) lv' st mi mr ck sk) : AW own cc nL d ini kc ks xo Po n pc lv (lL x :: st) mi mr ck sk := by
  intro p l e R s m args below meth c H locs ls D cA b base Q C I S L T
  exact lv_lstore_n (x := Int64.ofInt x) C.1 C.2.1 hd hi L hn (clv_store2 b base i (lL x) lv) (fun ls' h' => k p l e R s m args below meth c H locs ls' D cA b base Q C I S (by have h2 := lv_sub h' zs (clv_pick b base _ zs); rw [hl] at h2; exact h2) T)
theorem aw_lstore {i : Nat} {lv' : List (Nat × Value)} {x : Int} (zs : List Nat) (hd : decode cc pc = .ok (.lstore i, 2)) (hn : i + 1 < nL) (hl : lv_pick ((i, lL x) :: lv.filter (fun q => !(q.1 == i) && (!(q.1 == i + 1) && !(q.1 + 1 == i && q.2.category == 2)))) zs = lv') (k : AW own cc nL d ini kc ks xo Po n (pc + 2) lv' st mi mr ck sk) : AW own cc nL d ini kc ks xo Po n pc lv (lL x :: st) mi mr ck sk := by
  intro p l e R s m args below meth c H locs ls D cA b base Q C I S L T
  exact lv_lstore (x := Int64.ofInt x) C.1 C.2.1 hd L hn (clv_store2 b base i (lL x) lv) (fun ls' h' => k p l e R s m args below meth c H locs ls' D cA b base Q C I S (by have h2 := lv_sub h' zs (clv_pick b base _ zs); rw [hl] at h2; exact h2) T)
theorem aw_iinc {i q : Nat} {z x : Int} {lv' : List (Nat × Value)} (zs : List Nat) (hd : decode cc pc = .ok (.iinc i z, 3)) (hq : lv[q]? = some (i, iI x)) (hn : i < nL) (hl : lv_pick ((i, iI (x + z)) :: lv.filter (fun q => !(q.1 == i) && !(q.1 + 1 == i && q.2.category == 2))) zs = lv') (k : AW own cc nL d ini kc ks xo Po n (pc + 3) lv' st mi mr ck sk) : AW own cc nL d ini kc ks xo Po n pc lv st mi mr ck sk := by
  intro p l e R s m args below meth c H locs ls D cA b base Q C I S L T
  exact lv_iinc (v := Int32.ofInt (x + z)) C.1 C.2.1 hd L (clv_at hq) (Int32.ofInt_add x z).symm hn (clv_store b base i (iI (x + z)) lv) (fun ls' h' => k p l e R s m args below meth c H locs ls' D cA b base Q C I S (by have h2 := lv_sub h' zs (clv_pick b base _ zs); rw [hl] at h2; exact h2) T)
theorem aw_iadd {x y : Int} (hd : decode cc pc = .ok (.iadd, 1)) (k : AW own cc nL d ini kc ks xo Po n (pc + 1) lv (iI (x + y) :: st) mi mr ck sk) : AW own cc nL d ini kc ks xo Po n pc lv (iI y :: iI x :: st) mi mr ck sk := by
  intro p l e R s m args below meth c H locs ls D cA b base Q C I S L T
  refine lv_iadd (x := Int32.ofInt x) (y := Int32.ofInt y) (rest := (st.map (cv b base))) C.1 C.2.1 hd ?_
  rw [← Int32.ofInt_add]
  exact k p l e R s m args below meth c H locs ls D cA b base Q C I S L T
theorem aw_isub {x y : Int} (hd : decode cc pc = .ok (.isub, 1)) (k : AW own cc nL d ini kc ks xo Po n (pc + 1) lv (iI (x - y) :: st) mi mr ck sk) : AW own cc nL d ini kc ks xo Po n pc lv (iI y :: iI x :: st) mi mr ck sk := by
  intro p l e R s m args below meth c H locs ls D cA b base Q C I S L T
  refine lv_isub (x := Int32.ofInt x) (y := Int32.ofInt y) (rest := (st.map (cv b base))) C.1 C.2.1 hd ?_
  rw [← Int32.ofInt_sub]
  exact k p l e R s m args below meth c H locs ls D cA b base Q C I S L T
theorem aw_imul {x y : Int} (hd : decode cc pc = .ok (.imul, 1)) (k : AW own cc nL d ini kc ks xo Po n (pc + 1) lv (iI (x * y) :: st) mi mr ck sk) : AW own cc nL d ini kc ks xo Po n pc lv (iI y :: iI x :: st) mi mr ck sk := by
  intro p l e R s m args below meth c H locs ls D cA b base Q C I S L T
  refine lv_imul (x := Int32.ofInt x) (y := Int32.ofInt y) (rest := (st.map (cv b base))) C.1 C.2.1 hd ?_
  rw [← Int32.ofInt_mul]
  exact k p l e R s m args below meth c H locs ls D cA b base Q C I S L T
theorem aw_ineg {x : Int} (hd : decode cc pc = .ok (.ineg, 1)) (k : AW own cc nL d ini kc ks xo Po n (pc + 1) lv (iI (-x) :: st) mi mr ck sk) : AW own cc nL d ini kc ks xo Po n pc lv (iI x :: st) mi mr ck sk := by
  intro p l e R s m args below meth c H locs ls D cA b base Q C I S L T
  refine lv_ineg (x := Int32.ofInt x) (rest := (st.map (cv b base))) C.1 C.2.1 hd ?_
  rw [← Int32.ofInt_neg]
  exact k p l e R s m args below meth c H locs ls D cA b base Q C I S L T
theorem aw_idiv {x y : Int} (hd : decode cc pc = .ok (.idiv, 1)) (hx : -2147483648 ≤ x ∧ x ≤ 2147483647) (hy : -2147483648 ≤ y ∧ y ≤ 2147483647) (h0 : y ≠ 0) (h1 : y ≠ -1) (k : AW own cc nL d ini kc ks xo Po n (pc + 1) lv (iI (x.tdiv y) :: st) mi mr ck sk) : AW own cc nL d ini kc ks xo Po n pc lv (iI y :: iI x :: st) mi mr ck sk := by
  intro p l e R s m args below meth c H locs ls D cA b base Q C I S L T
  refine lv_idiv (x := Int32.ofInt x) (y := Int32.ofInt y) (rest := (st.map (cv b base))) C.1 C.2.1 hd (fun q => h0 ((oI_eq hy (by omega)).mp (by rw [q, oI_0]))) ?_
  have e9 : Int32.ofInt x / Int32.ofInt y = Int32.ofInt (x.tdiv y) := by
    rw [← Int32.toInt_inj, Int32.toInt_div_of_ne_right _ _ (fun q => h1 ((oI_eq hy (by omega)).mp (by rw [q]; decide))), oI_toInt hx, oI_toInt hy, oI_toInt (tdiv_rng hx h1)]
  rw [e9]
  exact k p l e R s m args below meth c H locs ls D cA b base Q C I S L T
theorem aw_irem {x y : Int} (hd : decode cc pc = .ok (.irem, 1)) (hx : -2147483648 ≤ x ∧ x ≤ 2147483647) (hy : -2147483648 ≤ y ∧ y ≤ 2147483647) (h0 : y ≠ 0) (h1 : y ≠ -1) (k : AW own cc nL d ini kc ks xo Po n (pc + 1) lv (iI (x - x.tdiv y * y) :: st) mi mr ck sk) : AW own cc nL d ini kc ks xo Po n pc lv (iI y :: iI x :: st) mi mr ck sk := by
  intro p l e R s m args below meth c H locs ls D cA b base Q C I S L T
  refine lv_irem (x := Int32.ofInt x) (y := Int32.ofInt y) (rest := (st.map (cv b base))) C.1 C.2.1 hd (fun q => h0 ((oI_eq hy (by omega)).mp (by rw [q, oI_0]))) ?_
  have e9 : Int32.ofInt x / Int32.ofInt y = Int32.ofInt (x.tdiv y) := by
    rw [← Int32.toInt_inj, Int32.toInt_div_of_ne_right _ _ (fun q => h1 ((oI_eq hy (by omega)).mp (by rw [q]; decide))), oI_toInt hx, oI_toInt hy, oI_toInt (tdiv_rng hx h1)]
  rw [e9, ← Int32.ofInt_mul, ← Int32.ofInt_sub]
  exact k p l e R s m args below meth c H locs ls D cA b base Q C I S L T
theorem aw_iand {x y z : Int} (hd : decode cc pc = .ok (.iand, 1)) (hz : Int32.ofInt x &&& Int32.ofInt y = Int32.ofInt z) (k : AW own cc nL d ini kc ks xo Po n (pc + 1) lv (iI z :: st) mi mr ck sk) : AW own cc nL d ini kc ks xo Po n pc lv (iI y :: iI x :: st) mi mr ck sk := by
  intro p l e R s m args below meth c H locs ls D cA b base Q C I S L T
  refine lv_iand (x := Int32.ofInt x) (y := Int32.ofInt y) (rest := (st.map (cv b base))) C.1 C.2.1 hd ?_
  rw [hz]
  exact k p l e R s m args below meth c H locs ls D cA b base Q C I S L T
theorem aw_ior {x y z : Int} (hd : decode cc pc = .ok (.ior, 1)) (hz : Int32.ofInt x ||| Int32.ofInt y = Int32.ofInt z) (k : AW own cc nL d ini kc ks xo Po n (pc + 1) lv (iI z :: st) mi mr ck sk) : AW own cc nL d ini kc ks xo Po n pc lv (iI y :: iI x :: st) mi mr ck sk := by
  intro p l e R s m args below meth c H locs ls D cA b base Q C I S L T
  refine lv_ior (x := Int32.ofInt x) (y := Int32.ofInt y) (rest := (st.map (cv b base))) C.1 C.2.1 hd ?_
  rw [hz]
  exact k p l e R s m args below meth c H locs ls D cA b base Q C I S L T
theorem aw_ishl {x y z : Int} (hd : decode cc pc = .ok (.ishl, 1)) (hz : Int32.ofInt x <<< (Int32.ofInt y &&& 31) = Int32.ofInt z) (k : AW own cc nL d ini kc ks xo Po n (pc + 1) lv (iI z :: st) mi mr ck sk) : AW own cc nL d ini kc ks xo Po n pc lv (iI y :: iI x :: st) mi mr ck sk := by
  intro p l e R s m args below meth c H locs ls D cA b base Q C I S L T
  refine lv_ishl (x := Int32.ofInt x) (y := Int32.ofInt y) (rest := (st.map (cv b base))) C.1 C.2.1 hd ?_
  rw [hz]
  exact k p l e R s m args below meth c H locs ls D cA b base Q C I S L T
theorem aw_ishr {x y z : Int} (hd : decode cc pc = .ok (.ishr, 1)) (hz : Int32.ofInt x >>> (Int32.ofInt y &&& 31) = Int32.ofInt z) (k : AW own cc nL d ini kc ks xo Po n (pc + 1) lv (iI z :: st) mi mr ck sk) : AW own cc nL d ini kc ks xo Po n pc lv (iI y :: iI x :: st) mi mr ck sk := by
  intro p l e R s m args below meth c H locs ls D cA b base Q C I S L T
  refine lv_ishr (x := Int32.ofInt x) (y := Int32.ofInt y) (rest := (st.map (cv b base))) C.1 C.2.1 hd ?_
  rw [hz]
  exact k p l e R s m args below meth c H locs ls D cA b base Q C I S L T
theorem aw_iushr {x y z : Int} (hd : decode cc pc = .ok (.iushr, 1)) (hz : ((Int32.ofInt x).toUInt32 >>> ((Int32.ofInt y).toUInt32 &&& Int32.toUInt32 31)).toInt32 = Int32.ofInt z) (k : AW own cc nL d ini kc ks xo Po n (pc + 1) lv (iI z :: st) mi mr ck sk) : AW own cc nL d ini kc ks xo Po n pc lv (iI y :: iI x :: st) mi mr ck sk := by
  intro p l e R s m args below meth c H locs ls D cA b base Q C I S L T
  exact lv_iushr (x := Int32.ofInt x) (y := Int32.ofInt y) (v := Int32.ofInt z) (rest := (st.map (cv b base))) C.1 C.2.1 hd hz (k p l e R s m args below meth c H locs ls D cA b base Q C I S L T)
theorem aw_i2l {x : Int} (hd : decode cc pc = .ok (.i2l, 1)) (hx : -2147483648 ≤ x ∧ x ≤ 2147483647) (k : AW own cc nL d ini kc ks xo Po n (pc + 1) lv (lL x :: st) mi mr ck sk) : AW own cc nL d ini kc ks xo Po n pc lv (iI x :: st) mi mr ck sk := by
  intro p l e R s m args below meth c H locs ls D cA b base Q C I S L T
  exact lv_i2l (x := Int32.ofInt x) (v := Int64.ofInt x) (rest := (st.map (cv b base))) C.1 C.2.1 hd (Int32.toInt64_ofInt (by rw [show Int32.minValue.toInt = -2147483648 by decide]; omega) (by rw [show Int32.maxValue.toInt = 2147483647 by decide]; omega)) (k p l e R s m args below meth c H locs ls D cA b base Q C I S L T)
theorem aw_l2i {x : Int} (hd : decode cc pc = .ok (.l2i, 1)) (k : AW own cc nL d ini kc ks xo Po n (pc + 1) lv (iI x :: st) mi mr ck sk) : AW own cc nL d ini kc ks xo Po n pc lv (lL x :: st) mi mr ck sk := by
  intro p l e R s m args below meth c H locs ls D cA b base Q C I S L T
  exact lv_l2i (x := Int64.ofInt x) (v := Int32.ofInt x) (rest := (st.map (cv b base))) C.1 C.2.1 hd Int64.toInt32_ofInt (k p l e R s m args below meth c H locs ls D cA b base Q C I S L T)
theorem aw_lcmp {x y : Int} (hd : decode cc pc = .ok (.lcmp, 1)) (hx : -9000000000000000000 ≤ x ∧ x ≤ 9000000000000000000) (hy : -9000000000000000000 ≤ y ∧ y ≤ 9000000000000000000) (k : AW own cc nL d ini kc ks xo Po n (pc + 1) lv (iI (if y < x then 1 else if x = y then 0 else -1) :: st) mi mr ck sk) : AW own cc nL d ini kc ks xo Po n pc lv (lL y :: lL x :: st) mi mr ck sk := by
  intro p l e R s m args below meth c H locs ls D cA b base Q C I S L T
  refine W.lcmp (x := Int64.ofInt x) (y := Int64.ofInt y) (rest := (st.map (cv b base))) C.1 C.2.1 hd ?_
  have e9 : lg_cmp (Int64.ofInt x) (Int64.ofInt y) = Int32.ofInt (if y < x then 1 else if x = y then 0 else -1) := by
    unfold lg_cmp
    simp only [gt_iff_lt, Int64.lt_iff_toInt_lt, ← Int64.toInt_inj, oL_toInt hx, oL_toInt hy]
    by_cases h1 : y < x
    · simp only [h1, if_true]; decide
    · by_cases h2 : x = y
      · simp only [h2, Int.lt_irrefl, if_false, if_true]; decide
      · simp only [h1, h2, if_false]; decide
  rw [e9]
  exact k p l e R s m args below meth c H locs ls D cA b base Q C I S L T
theorem aw_dup {v : Value} (hd : decode cc pc = .ok (.dup, 1)) (hv : v.category = 1) (k : AW own cc nL d ini kc ks xo Po n (pc + 1) lv (v :: v :: st) mi mr ck sk) : AW own cc nL d ini kc ks xo Po n pc lv (v :: st) mi mr ck sk := by
  intro p l e R s m args below meth c H locs ls D cA b base Q C I S L T
  exact lv_dup (va := cv b base v) (rest := (st.map (cv b base))) C.1 C.2.1 hd (by rw [cv_cat]; exact hv) (k p l e R s m args below meth c H locs ls D cA b base Q C I S L T)
theorem aw_dup_x1 {v w : Value} (hd : decode cc pc = .ok (.dup_x1, 1)) (hv : v.category = 1) (hw : w.category = 1) (k : AW own cc nL d ini kc ks xo Po n (pc + 1) lv (v :: w :: v :: st) mi mr ck sk) : AW own cc nL d ini kc ks xo Po n pc lv (v :: w :: st) mi mr ck sk := by
  intro p l e R s m args below meth c H locs ls D cA b base Q C I S L T
  exact lv_dup_x1 (va := cv b base v) (vb := cv b base w) (rest := (st.map (cv b base))) C.1 C.2.1 hd (by rw [cv_cat]; exact hv) (by rw [cv_cat]; exact hw) (k p l e R s m args below meth c H locs ls D cA b base Q C I S L T)
theorem aw_dup2 {v w : Value} (hd : decode cc pc = .ok (.dup2, 1)) (hv : v.category = 1) (hw : w.category = 1) (k : AW own cc nL d ini kc ks xo Po n (pc + 1) lv (v :: w :: v :: w :: st) mi mr ck sk) : AW own cc nL d ini kc ks xo Po n pc lv (v :: w :: st) mi mr ck sk := by
  intro p l e R s m args below meth c H locs ls D cA b base Q C I S L T
  exact lv_dup2_11 (va := cv b base v) (vb := cv b base w) (rest := (st.map (cv b base))) C.1 C.2.1 hd (by rw [cv_cat]; exact hv) (by rw [cv_cat]; exact hw) (k p l e R s m args below meth c H locs ls D cA b base Q C I S L T)
theorem aw_pop {v : Value} (hd : decode cc pc = .ok (.pop, 1)) (hv : v.category = 1) (k : AW own cc nL d ini kc ks xo Po n (pc + 1) lv st mi mr ck sk) : AW own cc nL d ini kc ks xo Po n pc lv (v :: st) mi mr ck sk := by
  intro p l e R s m args below meth c H locs ls D cA b base Q C I S L T
  exact lv_pop (va := cv b base v) (rest := (st.map (cv b base))) C.1 C.2.1 hd (by rw [cv_cat]; exact hv) (k p l e R s m args below meth c H locs ls D cA b base Q C I S L T)
theorem aw_goto {off : Int} {tgt : Nat} (hd : decode cc pc = .ok (.goto off, 3)) (ht : (pc : Int) + off = (tgt : Int)) (k : AW own cc nL d ini kc ks xo Po n tgt lv st mi mr ck sk) : AW own cc nL d ini kc ks xo Po n pc lv st mi mr ck sk := by
  intro p l e R s m args below meth c H locs ls D cA b base Q C I S L T
  exact lv_goto C.1 C.2.1 hd ht (k p l e R s m args below meth c H locs ls D cA b base Q C I S L T)
theorem aw_icmp_eq {x y off : Int} {tgt : Nat} (hd : decode cc pc = .ok (.if_icmp .eq off, 3)) (ht : (pc : Int) + off = (tgt : Int)) (hx : -2147483648 ≤ x ∧ x ≤ 2147483647) (hy : -2147483648 ≤ y ∧ y ≤ 2147483647) (kt : x = y → AW own cc nL d ini kc ks xo Po n tgt lv st mi mr ck sk) (kf : x ≠ y → AW own cc nL d ini kc ks xo Po n (pc + 3) lv st mi mr ck sk) : AW own cc nL d ini kc ks xo Po n pc lv (iI y :: iI x :: st) mi mr ck sk := by
  intro p l e R s m args below meth c H locs ls D cA b base Q C I S L T
  refine lv_icmp_eq (x := Int32.ofInt x) (y := Int32.ofInt y) (rest := (st.map (cv b base))) C.1 C.2.1 hd ht (fun q => kt ?_ p l e R s m args below meth c H locs ls D cA b base Q C I S L T) (fun q => kf ?_ p l e R s m args below meth c H locs ls D cA b base Q C I S L T) <;> (simp only [ge_iff_le, gt_iff_lt, oI_lt hx hy, oI_lt hy hx, oI_le hx hy, oI_le hy hx, oI_eq hx hy, Int32.not_lt, Int32.not_le] at q; first | exact q | omega)
theorem aw_if_eq {x off : Int} {tgt : Nat} (hd : decode cc pc = .ok (.ifCond .eq off, 3)) (ht : (pc : Int) + off = (tgt : Int)) (hx : -2147483648 ≤ x ∧ x ≤ 2147483647) (kt : x = 0 → AW own cc nL d ini kc ks xo Po n tgt lv st mi mr ck sk) (kf : x ≠ 0 → AW own cc nL d ini kc ks xo Po n (pc + 3) lv st mi mr ck sk) : AW own cc nL d ini kc ks xo Po n pc lv (iI x :: st) mi mr ck sk := by
  intro p l e R s m args below meth c H locs ls D cA b base Q C I S L T
  have hy : -2147483648 ≤ (0 : Int) ∧ (0 : Int) ≤ 2147483647 := by omega
  refine lv_if_eq (x := Int32.ofInt x) (rest := (st.map (cv b base))) C.1 C.2.1 hd ht (fun q => kt ?_ p l e R s m args below meth c H locs ls D cA b base Q C I S L T) (fun q => kf ?_ p l e R s m args below meth c H locs ls D cA b base Q C I S L T) <;> (rw [← oI_0] at q; simp only [ge_iff_le, gt_iff_lt, oI_lt hx hy, oI_lt hy hx, oI_le hx hy, oI_le hy hx, oI_eq hx hy, Int32.not_lt, Int32.not_le] at q; first | exact q | omega)
theorem aw_icmp_ne {x y off : Int} {tgt : Nat} (hd : decode cc pc = .ok (.if_icmp .ne off, 3)) (ht : (pc : Int) + off = (tgt : Int)) (hx : -2147483648 ≤ x ∧ x ≤ 2147483647) (hy : -2147483648 ≤ y ∧ y ≤ 2147483647) (kt : x ≠ y → AW own cc nL d ini kc ks xo Po n tgt lv st mi mr ck sk) (kf : x = y → AW own cc nL d ini kc ks xo Po n (pc + 3) lv st mi mr ck sk) : AW own cc nL d ini kc ks xo Po n pc lv (iI y :: iI x :: st) mi mr ck sk := by
  intro p l e R s m args below meth c H locs ls D cA b base Q C I S L T
  refine lv_icmp_ne (x := Int32.ofInt x) (y := Int32.ofInt y) (rest := (st.map (cv b base))) C.1 C.2.1 hd ht (fun q => kt ?_ p l e R s m args below meth c H locs ls D cA b base Q C I S L T) (fun q => kf ?_ p l e R s m args below meth c H locs ls D cA b base Q C I S L T) <;> (simp only [ge_iff_le, gt_iff_lt, oI_lt hx hy, oI_lt hy hx, oI_le hx hy, oI_le hy hx, oI_eq hx hy, Int32.not_lt, Int32.not_le] at q; first | exact q | omega)
theorem aw_if_ne {x off : Int} {tgt : Nat} (hd : decode cc pc = .ok (.ifCond .ne off, 3)) (ht : (pc : Int) + off = (tgt : Int)) (hx : -2147483648 ≤ x ∧ x ≤ 2147483647) (kt : x ≠ 0 → AW own cc nL d ini kc ks xo Po n tgt lv st mi mr ck sk) (kf : x = 0 → AW own cc nL d ini kc ks xo Po n (pc + 3) lv st mi mr ck sk) : AW own cc nL d ini kc ks xo Po n pc lv (iI x :: st) mi mr ck sk := by
  intro p l e R s m args below meth c H locs ls D cA b base Q C I S L T
  have hy : -2147483648 ≤ (0 : Int) ∧ (0 : Int) ≤ 2147483647 := by omega
  refine lv_if_ne (x := Int32.ofInt x) (rest := (st.map (cv b base))) C.1 C.2.1 hd ht (fun q => kt ?_ p l e R s m args below meth c H locs ls D cA b base Q C I S L T) (fun q => kf ?_ p l e R s m args below meth c H locs ls D cA b base Q C I S L T) <;> (rw [← oI_0] at q; simp only [ge_iff_le, gt_iff_lt, oI_lt hx hy, oI_lt hy hx, oI_le hx hy, oI_le hy hx, oI_eq hx hy, Int32.not_lt, Int32.not_le] at q; first | exact q | omega)
theorem aw_icmp_lt {x y off : Int} {tgt : Nat} (hd : decode cc pc = .ok (.if_icmp .lt off, 3)) (ht : (pc : Int) + off = (tgt : Int)) (hx : -2147483648 ≤ x ∧ x ≤ 2147483647) (hy : -2147483648 ≤ y ∧ y ≤ 2147483647) (kt : x < y → AW own cc nL d ini kc ks xo Po n tgt lv st mi mr ck sk) (kf : y ≤ x → AW own cc nL d ini kc ks xo Po n (pc + 3) lv st mi mr ck sk) : AW own cc nL d ini kc ks xo Po n pc lv (iI y :: iI x :: st) mi mr ck sk := by
  intro p l e R s m args below meth c H locs ls D cA b base Q C I S L T
  refine lv_icmp_lt (x := Int32.ofInt x) (y := Int32.ofInt y) (rest := (st.map (cv b base))) C.1 C.2.1 hd ht (fun q => kt ?_ p l e R s m args below meth c H locs ls D cA b base Q C I S L T) (fun q => kf ?_ p l e R s m args below meth c H locs ls D cA b base Q C I S L T) <;> (simp only [ge_iff_le, gt_iff_lt, oI_lt hx hy, oI_lt hy hx, oI_le hx hy, oI_le hy hx, oI_eq hx hy, Int32.not_lt, Int32.not_le] at q; first | exact q | omega)
theorem aw_if_lt {x off : Int} {tgt : Nat} (hd : decode cc pc = .ok (.ifCond .lt off, 3)) (ht : (pc : Int) + off = (tgt : Int)) (hx : -2147483648 ≤ x ∧ x ≤ 2147483647) (kt : x < 0 → AW own cc nL d ini kc ks xo Po n tgt lv st mi mr ck sk) (kf : 0 ≤ x → AW own cc nL d ini kc ks xo Po n (pc + 3) lv st mi mr ck sk) : AW own cc nL d ini kc ks xo Po n pc lv (iI x :: st) mi mr ck sk := by
  intro p l e R s m args below meth c H locs ls D cA b base Q C I S L T
  have hy : -2147483648 ≤ (0 : Int) ∧ (0 : Int) ≤ 2147483647 := by omega
  refine lv_if_lt (x := Int32.ofInt x) (rest := (st.map (cv b base))) C.1 C.2.1 hd ht (fun q => kt ?_ p l e R s m args below meth c H locs ls D cA b base Q C I S L T) (fun q => kf ?_ p l e R s m args below meth c H locs ls D cA b base Q C I S L T) <;> (rw [← oI_0] at q; simp only [ge_iff_le, gt_iff_lt, oI_lt hx hy, oI_lt hy hx, oI_le hx hy, oI_le hy hx, oI_eq hx hy, Int32.not_lt, Int32.not_le] at q; first | exact q | omega)
theorem aw_icmp_ge {x y off : Int} {tgt : Nat} (hd : decode cc pc = .ok (.if_icmp .ge off, 3)) (ht : (pc : Int) + off = (tgt : Int)) (hx : -2147483648 ≤ x ∧ x ≤ 2147483647) (hy : -2147483648 ≤ y ∧ y ≤ 2147483647) (kt : y ≤ x → AW own cc nL d ini kc ks xo Po n tgt lv st mi mr ck sk) (kf : x < y → AW own cc nL d ini kc ks xo Po n (pc + 3) lv st mi mr ck sk) : AW own cc nL d ini kc ks xo Po n pc lv (iI y :: iI x :: st) mi mr ck sk := by
  intro p l e R s m args below meth c H locs ls D cA b base Q C I S L T
  refine lv_icmp_ge (x := Int32.ofInt x) (y := Int32.ofInt y) (rest := (st.map (cv b base))) C.1 C.2.1 hd ht (fun q => kt ?_ p l e R s m args below meth c H locs ls D cA b base Q C I S L T) (fun q => kf ?_ p l e R s m args below meth c H locs ls D cA b base Q C I S L T) <;> (simp only [ge_iff_le, gt_iff_lt, oI_lt hx hy, oI_lt hy hx, oI_le hx hy, oI_le hy hx, oI_eq hx hy, Int32.not_lt, Int32.not_le] at q; first | exact q | omega)
theorem aw_if_ge {x off : Int} {tgt : Nat} (hd : decode cc pc = .ok (.ifCond .ge off, 3)) (ht : (pc : Int) + off = (tgt : Int)) (hx : -2147483648 ≤ x ∧ x ≤ 2147483647) (kt : 0 ≤ x → AW own cc nL d ini kc ks xo Po n tgt lv st mi mr ck sk) (kf : x < 0 → AW own cc nL d ini kc ks xo Po n (pc + 3) lv st mi mr ck sk) : AW own cc nL d ini kc ks xo Po n pc lv (iI x :: st) mi mr ck sk := by
  intro p l e R s m args below meth c H locs ls D cA b base Q C I S L T
  have hy : -2147483648 ≤ (0 : Int) ∧ (0 : Int) ≤ 2147483647 := by omega
  refine lv_if_ge (x := Int32.ofInt x) (rest := (st.map (cv b base))) C.1 C.2.1 hd ht (fun q => kt ?_ p l e R s m args below meth c H locs ls D cA b base Q C I S L T) (fun q => kf ?_ p l e R s m args below meth c H locs ls D cA b base Q C I S L T) <;> (rw [← oI_0] at q; simp only [ge_iff_le, gt_iff_lt, oI_lt hx hy, oI_lt hy hx, oI_le hx hy, oI_le hy hx, oI_eq hx hy, Int32.not_lt, Int32.not_le] at q; first | exact q | omega)
theorem aw_icmp_gt {x y off : Int} {tgt : Nat} (hd : decode cc pc = .ok (.if_icmp .gt off, 3)) (ht : (pc : Int) + off = (tgt : Int)) (hx : -2147483648 ≤ x ∧ x ≤ 2147483647) (hy : -2147483648 ≤ y ∧ y ≤ 2147483647) (kt : y < x → AW own cc nL d ini kc ks xo Po n tgt lv st mi mr ck sk) (kf : x ≤ y → AW own cc nL d ini kc ks xo Po n (pc + 3) lv st mi mr ck sk) : AW own cc nL d ini kc ks xo Po n pc lv (iI y :: iI x :: st) mi mr ck sk := by
  intro p l e R s m args below meth c H locs ls D cA b base Q C I S L T
  refine lv_icmp_gt (x := Int32.ofInt x) (y := Int32.ofInt y) (rest := (st.map (cv b base))) C.1 C.2.1 hd ht (fun q => kt ?_ p l e R s m args below meth c H locs ls D cA b base Q C I S L T) (fun q => kf ?_ p l e R s m args below meth c H locs ls D cA b base Q C I S L T) <;> (simp only [ge_iff_le, gt_iff_lt, oI_lt hx hy, oI_lt hy hx, oI_le hx hy, oI_le hy hx, oI_eq hx hy, Int32.not_lt, Int32.not_le] at q; first | exact q | omega)
theorem aw_if_gt {x off : Int} {tgt : Nat} (hd : decode cc pc = .ok (.ifCond .gt off, 3)) (ht : (pc : Int) + off = (tgt : Int)) (hx : -2147483648 ≤ x ∧ x ≤ 2147483647) (kt : 0 < x → AW own cc nL d ini kc ks xo Po n tgt lv st mi mr ck sk) (kf : x ≤ 0 → AW own cc nL d ini kc ks xo Po n (pc + 3) lv st mi mr ck sk) : AW own cc nL d ini kc ks xo Po n pc lv (iI x :: st) mi mr ck sk := by
  intro p l e R s m args below meth c H locs ls D cA b base Q C I S L T
  have hy : -2147483648 ≤ (0 : Int) ∧ (0 : Int) ≤ 2147483647 := by omega
  refine lv_if_gt (x := Int32.ofInt x) (rest := (st.map (cv b base))) C.1 C.2.1 hd ht (fun q => kt ?_ p l e R s m args below meth c H locs ls D cA b base Q C I S L T) (fun q => kf ?_ p l e R s m args below meth c H locs ls D cA b base Q C I S L T) <;> (rw [← oI_0] at q; simp only [ge_iff_le, gt_iff_lt, oI_lt hx hy, oI_lt hy hx, oI_le hx hy, oI_le hy hx, oI_eq hx hy, Int32.not_lt, Int32.not_le] at q; first | exact q | omega)
theorem aw_icmp_le {x y off : Int} {tgt : Nat} (hd : decode cc pc = .ok (.if_icmp .le off, 3)) (ht : (pc : Int) + off = (tgt : Int)) (hx : -2147483648 ≤ x ∧ x ≤ 2147483647) (hy : -2147483648 ≤ y ∧ y ≤ 2147483647) (kt : x ≤ y → AW own cc nL d ini kc ks xo Po n tgt lv st mi mr ck sk) (kf : y < x → AW own cc nL d ini kc ks xo Po n (pc + 3) lv st mi mr ck sk) : AW own cc nL d ini kc ks xo Po n pc lv (iI y :: iI x :: st) mi mr ck sk := by
  intro p l e R s m args below meth c H locs ls D cA b base Q C I S L T
  refine lv_icmp_le (x := Int32.ofInt x) (y := Int32.ofInt y) (rest := (st.map (cv b base))) C.1 C.2.1 hd ht (fun q => kt ?_ p l e R s m args below meth c H locs ls D cA b base Q C I S L T) (fun q => kf ?_ p l e R s m args below meth c H locs ls D cA b base Q C I S L T) <;> (simp only [ge_iff_le, gt_iff_lt, oI_lt hx hy, oI_lt hy hx, oI_le hx hy, oI_le hy hx, oI_eq hx hy, Int32.not_lt, Int32.not_le] at q; first | exact q | omega)
theorem aw_if_le {x off : Int} {tgt : Nat} (hd : decode cc pc = .ok (.ifCond .le off, 3)) (ht : (pc : Int) + off = (tgt : Int)) (hx : -2147483648 ≤ x ∧ x ≤ 2147483647) (kt : x ≤ 0 → AW own cc nL d ini kc ks xo Po n tgt lv st mi mr ck sk) (kf : 0 < x → AW own cc nL d ini kc ks xo Po n (pc + 3) lv st mi mr ck sk) : AW own cc nL d ini kc ks xo Po n pc lv (iI x :: st) mi mr ck sk := by
  intro p l e R s m args below meth c H locs ls D cA b base Q C I S L T
  have hy : -2147483648 ≤ (0 : Int) ∧ (0 : Int) ≤ 2147483647 := by omega
  refine lv_if_le (x := Int32.ofInt x) (rest := (st.map (cv b base))) C.1 C.2.1 hd ht (fun q => kt ?_ p l e R s m args below meth c H locs ls D cA b base Q C I S L T) (fun q => kf ?_ p l e R s m args below meth c H locs ls D cA b base Q C I S L T) <;> (rw [← oI_0] at q; simp only [ge_iff_le, gt_iff_lt, oI_lt hx hy, oI_lt hy hx, oI_le hx hy, oI_le hy hx, oI_eq hx hy, Int32.not_lt, Int32.not_le] at q; first | exact q | omega)
theorem aw_tabOut {dflt lo hi : Int} {offs : Array Int} {len : Nat} {x : Int} {tgt : Nat} (hd : decode cc pc = .ok (.tableswitch dflt lo hi offs, len)) (hx : -2147483648 ≤ x ∧ x ≤ 2147483647) (h : x < lo ∨ hi < x) (ht : (pc : Int) + dflt = (tgt : Int)) (k : AW own cc nL d ini kc ks xo Po n tgt lv st mi mr ck sk) : AW own cc nL d ini kc ks xo Po n pc lv (iI x :: st) mi mr ck sk := by
  intro p l e R s m args below meth c H locs ls D cA b base Q C I S L T
  exact lv_tableOut (x := Int32.ofInt x) (rest := (st.map (cv b base))) C.1 C.2.1 hd (by rw [oI_toInt hx]; exact h) ht (k p l e R s m args below meth c H locs ls D cA b base Q C I S L T)
theorem aw_tabIn {dflt lo hi : Int} {offs : Array Int} {len : Nat} {x off : Int} {tgt : Nat} (hd : decode cc pc = .ok (.tableswitch dflt lo hi offs, len)) (hx : -2147483648 ≤ x ∧ x ≤ 2147483647) (h1 : lo ≤ x) (h2 : x ≤ hi) (ho : offs[(x - lo).toNat]? = some off) (ht : (pc : Int) + off = (tgt : Int)) (k : AW own cc nL d ini kc ks xo Po n tgt lv st mi mr ck sk) : AW own cc nL d ini kc ks xo Po n pc lv (iI x :: st) mi mr ck sk := by
  intro p l e R s m args below meth c H locs ls D cA b base Q C I S L T
  exact lv_tableIn (x := Int32.ofInt x) (rest := (st.map (cv b base))) C.1 C.2.1 hd (by rw [oI_toInt hx]; omega) (by rw [oI_toInt hx]; omega) (by rw [oI_toInt hx]; exact ho) ht (k p l e R s m args below meth c H locs ls D cA b base Q C I S L T)
theorem aw_sub {lv' : List (Nat × Value)} (zs : List Nat) (hl : lv_pick lv zs = lv') (k : AW own cc nL d ini kc ks xo Po n pc lv' st mi mr ck sk) : AW own cc nL d ini kc ks xo Po n pc lv st mi mr ck sk := by
  intro p l e R s m args below meth c H locs ls D cA b base Q C I S L T
  exact k p l e R s m args below meth c H locs ls D cA b base Q C I S (by have h2 := lv_sub L zs (clv_pick b base _ zs); rw [hl] at h2; exact h2) T
theorem aw_getI {idx ci f a : Nat} (hf : aFld own idx ci f) (hs : SH a = (0, ci)) (ha : 0 < a ∧ a ≤ n) (hr : (fty ci f).isReference = false) (hd : decode cc pc = .ok (.getfield idx, 3)) (k : -2147483648 ≤ mi a f ∧ mi a f ≤ 2147483647 → AW own cc nL d ini kc ks xo Po n (pc + 3) lv (iI (mi a f) :: st) mi mr ck sk) : AW own cc nL d ini kc ks xo Po n pc lv (.ref a :: st) mi mr ck sk := by
  intro p l e R s m args below meth c H locs ls D cA b base Q C I S L T
  obtain ⟨CN, F, N, hc, hk, hl⟩ := hf
  obtain ⟨g1, g2, g3, g4⟩ := aIn hc
  have he := wld_at (cA := cA) (mi := mi) (mr := mr) (b := b) (base := base) ha
  have hcel : cel cA mi mr b base a = .inr (ci, (List.range (nF ci)).map (fval mi mr b base a ci)) := by unfold cel; rw [hs]
  rw [hcel] at he
  have hv : ((List.range (nF ci)).map (fval mi mr b base a ci))[f]? = some (fval mi mr b base a ci f) := by simp [← g4, hk]
  have hw : fval mi mr b base a ci f = .int (Int32.ofInt (mi a f)) := by unfold fval; rw [if_neg (by rw [hr]; decide)]
  rw [hw] at hv
  exact va_get (v := .int (Int32.ofInt (mi a f))) C.1 C.2.1 C.2.2.2.2.1 g1 C.2.2.2.1 C.2.2.2.2.2.1 I.2.1 (a - 1) he hc f hk (C.2.2.2.2.1 _ hl) (fun _ h => by rw [aOwn hc f hk] at h; exact h) hv hd (k (I.2.2.1 a f) p l e R s m args below meth c H locs ls D cA b base Q C I S L T)
theorem aw_getR {idx ci f a : Nat} {r : Nat} (hf : aFld own idx ci f) (hs : SH a = (0, ci)) (ha : 0 < a ∧ a ≤ n) (hr : (fty ci f).isReference = true) (hv9 : mr a f = some r) (hd : decode cc pc = .ok (.getfield idx, 3)) (k : AW own cc nL d ini kc ks xo Po n (pc + 3) lv (.ref r :: st) mi mr ck sk) : AW own cc nL d ini kc ks xo Po n pc lv (.ref a :: st) mi mr ck sk := by
  intro p l e R s m args below meth c H locs ls D cA b base Q C I S L T
  obtain ⟨CN, F, N, hc, hk, hl⟩ := hf
  obtain ⟨g1, g2, g3, g4⟩ := aIn hc
  have he := wld_at (cA := cA) (mi := mi) (mr := mr) (b := b) (base := base) ha
  have hcel : cel cA mi mr b base a = .inr (ci, (List.range (nF ci)).map (fval mi mr b base a ci)) := by unfold cel; rw [hs]
  rw [hcel] at he
  have hv : ((List.range (nF ci)).map (fval mi mr b base a ci))[f]? = some (fval mi mr b base a ci f) := by simp [← g4, hk]
  have hw : fval mi mr b base a ci f = .ref (adr b base r) := by unfold fval; rw [if_pos hr, hv9]; rfl
  rw [hw] at hv
  exact va_get (v := .ref (adr b base r)) C.1 C.2.1 C.2.2.2.2.1 g1 C.2.2.2.1 C.2.2.2.2.2.1 I.2.1 (a - 1) he hc f hk (C.2.2.2.2.1 _ hl) (fun _ h => by rw [aOwn hc f hk] at h; exact h) hv hd (k p l e R s m args below meth c H locs ls D cA b base Q C I S L T)
theorem fval_set {mi mi' : aM} {mr mr' : aR} {b base a ci f : Nat} {w : Value} (hi : ∀ j : Nat, j ≠ f → mi' a j = mi a j ∧ mr' a j = mr a j) (hw : w = fval mi' mr' b base a ci f) : ((List.range (nF ci)).map (fval mi mr b base a ci)).set f w = (List.range (nF ci)).map (fval mi' mr' b base a ci) := by
  apply List.ext_getElem?
  intro j
  simp only [List.getElem?_set, List.length_map, List.length_range, List.getElem?_map]
  by_cases hj : f = j
  · subst hj
    by_cases hl : f < nF ci
    · simp [hl, hw]
    · simp [hl]
  · simp only [hj, if_false]
    cases hr : (List.range (nF ci))[j]? with
    | none => rfl
    | some x =>
      have hx : x = j := by
        obtain ⟨h2, h3⟩ := List.getElem?_eq_some_iff.mp hr
        simpa using h3.symm
      subst hx
      have e := hi x (fun h => hj h.symm)
      simp only [Option.map_some, fval, e.1, e.2]
theorem aw_putG {idx ci f a : Nat} {w : Value} {mi' : aM} {mr' : aR} (hf : aFld own idx ci f) (hs : SH a = (0, ci)) (ha : 0 < a ∧ a ≤ n) (hfin : aFin ci f = false ∨ (aFin ci f = true ∧ ini = true ∧ ∀ q, vwCl[ci]? = some q → (q.2.1 f).1 = own))
  (hoth : ∀ (x : Nat) (j : Int), x ≠ a → mi' x j = mi x j ∧ mr' x j = mr x j) (hnf : ∀ j : Nat, j ≠ f → mi' a j = mi a j ∧ mr' a j = mr a j) (hrg : ∀ j : Int, -2147483648 ≤ mi' a j ∧ mi' a j ≤ 2147483647)
  (hw : ∀ b base : Nat, cv b base w = fval mi' mr' b base a ci f) (hnar : ∀ b base : Nat, narrow (fty ci f) (cv b base w) = cv b base w) (hfit : ∀ b base : Nat, fits (fty ci f) (cv b base w) = true)
  (hd : decode cc pc = .ok (.putfield idx, 3)) (k : AW own cc nL d ini kc ks xo Po n (pc + 3) lv st mi' mr' ck sk) : AW own cc nL d ini kc ks xo Po n pc lv (w :: .ref a :: st) mi mr ck sk := by
  intro p l e R s m args below meth c H locs ls D cA b base Q C I S L T
  obtain ⟨CN, F, N, hc, hk, hl⟩ := hf
  obtain ⟨g1, g2, g3, g4⟩ := aIn hc
  have he := wld_at (cA := cA) (mi := mi) (mr := mr) (b := b) (base := base) ha
  have hcel : cel cA mi mr b base a = .inr (ci, (List.range (nF ci)).map (fval mi mr b base a ci)) := by unfold cel; rw [hs]
  rw [hcel] at he
  obtain ⟨r, h1, cell, q1, q2, q3, q4⟩ := I.2.1 (a - 1) _ he
  have hr : r = (CN, F, N) := Option.some.inj (h1.symm.trans hc)
  subst hr
  have hKc := C.2.2.2.2.2.1.1 ci _ hc
  obtain ⟨hS9, hfc, kC, hkC, hkind⟩ := hKc
  obtain ⟨cf, kf, fi, fd, hi, hsl⟩ := hS9 f hk
  have hi9 : s.fieldFound? CN (F f).2.1 (F f).2.2.1 = some (cf, kf, fi, fd) := by have h9 := hi; dsimp only at h9; rw [aOwn hc f hk] at h9; exact h9
  have hts := C.2.2.2.2.1
  have hap := va_apart (own := own) hts g1 (fty ci) g2 g3 C.2.2.2.2.2.1 hc
  have hst := (u_facts hfc hkC (u_lays hts g1 hk) hi).1
  have hlen : f < ((List.range (nF ci)).map (fval mi mr b base a ci)).length := by simp [← g4, hk]
  have hsz : fd.slot < cell.slots.size := by rw [hsl]; exact k2_hasslot (q4 f hk)
  have hcel2 : cel cA mi' mr' b base a = .inr (ci, ((List.range (nF ci)).map (fval mi mr b base a ci)).set f (cv b base w)) := by
    rw [fval_set (ci := ci) (f := f) hnf (hw b base)]
    unfold cel; rw [hs]
  have fin2 : ∀ H' : Heap, H'[adr b base a]? = some (cell.setSlot fd.slot (cv b base w)) → H'.size = H.size → (∀ q, q ≠ adr b base a → H'[q]? = H[q]?) → W p l e R s m args below meth c H' (locs ++ [⟨adr b base a, fd.slot⟩]) ck sk Q (F0 m (pc + 3) ls (st.map (cv b base))) := by
    intro H' e1 e2 e3
    rw [hsl] at e1 ⊢
    have hP := I.2.1.set (p := a - 1) (e := .inr (ci, ((List.range (nF ci)).map (fval mi mr b base a ci)).set f (cv b base w))) (wld_D cA mi mr b base n) he ⟨_, hc, t_OB.to (V := updV (vp_V ((List.range (nF ci)).map (fval mi mr b base a ci))) f (cv b base w)) ⟨_, e1, q2, q3, t_set q4 hap hk (cv b base w)⟩ (fun j _ => vp_updV_set hlen (cv b base w) j)⟩ e3
    exact k p l e R s m args below meth c H' _ ls D cA b base Q C (aI_put I ha hP e2 hoth hcel2.symm hrg) (S.put e2 e3 ((wld_D cA mi mr b base n).2 (a - 1) _ he)) L T
  rcases hfin with hfin | ⟨hfin, hini, hdecl⟩
  · have hlay := hts _ (g1 _ (u_in_lay hk))
    unfold u_lay at hlay
    have hfin2 : (F f).2.2.2 = false := by unfold aFin at hfin; rw [hc] at hfin; exact hfin
    rw [if_neg (by rw [hfin2]; decide)] at hlay
    have h6 := u_store hfc hkC hkind hlay hi (g2 f hk) (hnar b base) (hfit b base)
    exact W.putK (v := cv b base w) (rest := st.map (cv b base)) C.1 C.2.1 (f := fd) ⟨C.2.2.2.1, hts _ hl, ⟨_, _, _, hi9⟩, hst⟩ (by rw [q2]; exact h6) q1 q3 hsz rfl rfl hd fin2
  · have hlay := hts _ (g1 _ (u_in_lay hk))
    unfold u_lay at hlay
    have hfin2 : (F f).2.2.2 = true := by unfold aFin at hfin; rw [hc] at hfin; exact hfin
    rw [if_pos hfin2] at hlay
    have hcf : m.cls = cf := by
      obtain ⟨_, _, c9, _, _, _, -, -, hf9, -, -, -, hown2, -⟩ := Cond.laysFinal_spec hlay
      have e1 : c9 = cf := by have := hi.symm.trans hf9; simp at this; exact this.1.symm
      have hdecl2 : (F f).1 = own := hdecl _ hc
      rw [hdecl2] at hown2
      rw [← e1]; exact Option.some.inj (C.2.2.2.1.symm.trans hown2)
    have h6 := u_fits hfc hkC hkind (Or.inr hlay) hi (g2 f hk) (hnar b base) (hfit b base)
    exact W.putFinK (v := cv b base w) (rest := st.map (cv b base)) C.1 C.2.1 C.2.2.2.1 (hts _ hl) hi9 hst hcf (C.2.2.2.2.2.2.2.1 hini) (by rw [q2]; exact h6) q1 q3 hsz rfl rfl hd fin2
theorem aw_putI {idx ci f a : Nat} {v : Int} (hf : aFld own idx ci f) (hs : SH a = (0, ci)) (ha : 0 < a ∧ a ≤ n) (hfin : aFin ci f = false) (hty : fty ci f = .int) (hv : -2147483648 ≤ v ∧ v ≤ 2147483647) (hd : decode cc pc = .ok (.putfield idx, 3)) (k : AW own cc nL d ini kc ks xo Po n (pc + 3) lv st (aup mi a f v) mr ck sk) : AW own cc nL d ini kc ks xo Po n pc lv (iI v :: .ref a :: st) mi mr ck sk := by
  intro p l e R s m args below meth c H locs ls D cA b base Q C I
  refine aw_putG (mi' := aup mi a f v) (mr' := mr) hf hs ha (Or.inl hfin) (fun x j hx => by simp [aup, hx]) (fun j hj => ?_) (fun j => aup_rng I.2.2.1 hv a j) (fun b base => ?_) (fun b base => by rw [hty]; rfl) (fun b base => by rw [hty]; rfl) hd k p l e R s m args below meth c H locs ls D cA b base Q C I
  · have hj2 : ¬ ((j : Int) = (f : Int)) := by omega
    simp [aup, hj2]
  · have e : aup mi a f v a f = v := by simp [aup]
    unfold fval
    rw [if_neg (by rw [hty]; decide), e]
    rfl
theorem aw_putZ {idx ci f a : Nat} {v : Int} (hf : aFld own idx ci f) (hs : SH a = (0, ci)) (ha : 0 < a ∧ a ≤ n) (hfin : aFin ci f = false) (hty : fty ci f = .boolean) (hv : v = 0 ∨ v = 1) (hd : decode cc pc = .ok (.putfield idx, 3)) (k : AW own cc nL d ini kc ks xo Po n (pc + 3) lv st (aup mi a f v) mr ck sk) : AW own cc nL d ini kc ks xo Po n pc lv (iI v :: .ref a :: st) mi mr ck sk := by
  intro p l e R s m args below meth c H locs ls D cA b base Q C I
  refine aw_putG (mi' := aup mi a f v) (mr' := mr) hf hs ha (Or.inl hfin) (fun x j hx => by simp [aup, hx]) (fun j hj => ?_) (fun j => aup_rng I.2.2.1 (by omega) a j) (fun b base => ?_) (fun b base => ?_) (fun b base => by rw [hty]; rcases hv with rfl | rfl <;> rfl) hd k p l e R s m args below meth c H locs ls D cA b base Q C I
  · have hj2 : ¬ ((j : Int) = (f : Int)) := by omega
    simp [aup, hj2]
  · have e : aup mi a f v a f = v := by simp [aup]
    unfold fval
    rw [if_neg (by rw [hty]; decide), e]
    rfl
  · rw [hty]
    rcases hv with rfl | rfl
    · exact (by decide : narrow FieldType.boolean (Value.int (Int32.ofInt 0)) = Value.int (Int32.ofInt 0))
    · exact (by decide : narrow FieldType.boolean (Value.int (Int32.ofInt 1)) = Value.int (Int32.ofInt 1))
theorem aw_putR {idx ci f a r : Nat} (hf : aFld own idx ci f) (hs : SH a = (0, ci)) (ha : 0 < a ∧ a ≤ n) (hfin : aFin ci f = true) (hini : ini = true) (hdc : ∀ q, vwCl[ci]? = some q → (q.2.1 f).1 = own) (hty : (fty ci f).isReference = true) (hd : decode cc pc = .ok (.putfield idx, 3)) (k : AW own cc nL d ini kc ks xo Po n (pc + 3) lv st mi (aup mr a f (some r)) ck sk) : AW own cc nL d ini kc ks xo Po n pc lv (.ref r :: .ref a :: st) mi mr ck sk := by
  intro p l e R s m args below meth c H locs ls D cA b base Q C I
  refine aw_putG (mi' := mi) (mr' := aup mr a f (some r)) hf hs ha (Or.inr ⟨hfin, hini, hdc⟩) (fun x j hx => by simp [aup, hx]) (fun j hj => ?_) (fun j => I.2.2.1 a j) (fun b base => ?_) (fun b base => ?_) (fun b base => ?_) hd k p l e R s m args below meth c H locs ls D cA b base Q C I
  · have hj2 : ¬ ((j : Int) = (f : Int)) := by omega
    simp [aup, hj2]
  · have e : aup mr a f (some r) a f = some r := by simp [aup]
    unfold fval
    rw [if_pos hty, e]
    rfl
  · show narrow (fty ci f) (.ref (adr b base r)) = .ref (adr b base r)
    generalize fty ci f = t at hty
    cases t <;> simp [FieldType.isReference] at hty <;> rfl
  · show fits (fty ci f) (.ref (adr b base r)) = true
    generalize fty ci f = t at hty
    cases t <;> simp [FieldType.isReference] at hty <;> rfl
theorem aw_iald {a z : Nat} {i : Int} (hs : SH a = (1, z)) (ha : 0 < a ∧ a ≤ n) (hi : 0 ≤ i ∧ i < z) (hd : decode cc pc = .ok (.iaload, 1)) (k : -2147483648 ≤ mi a i ∧ mi a i ≤ 2147483647 → AW own cc nL d ini kc ks xo Po n (pc + 1) lv (iI (mi a i) :: st) mi mr ck sk) : AW own cc nL d ini kc ks xo Po n pc lv (iI i :: .ref a :: st) mi mr ck sk := by
  intro p l e R s m args below meth c H locs ls D cA b base Q C I S L T
  have he := wld_at (cA := cA) (mi := mi) (mr := mr) (b := b) (base := base) ha
  have hcel : cel cA mi mr b base a = .inl (cA 0, z, .inl (fun j => Int32.ofInt (mi a j))) := by unfold cel; rw [hs]
  rw [hcel] at he
  have hz9 : z ≤ 1000 := by have := SH_len a; rw [hs] at this; exact this
  refine va_iald (i := Int32.ofInt i) (rest := (st.map (cv b base))) C.1 C.2.1 C.2.2.2.2.2.1 I.2.1 (a - 1) 0 he rfl (oI_in hi hz9) hd ?_
  rw [oI_clamp hi.1 (by omega)]
  exact k (I.2.2.1 a i) p l e R s m args below meth c H locs ls D cA b base Q C I S L T
theorem aw_zald {a z : Nat} {i : Int} (hs : SH a = (2, z)) (ha : 0 < a ∧ a ≤ n) (hi : 0 ≤ i ∧ i < z) (hd : decode cc pc = .ok (.baload, 1)) (k : -2147483648 ≤ mi a i ∧ mi a i ≤ 2147483647 → AW own cc nL d ini kc ks xo Po n (pc + 1) lv (iI (mi a i) :: st) mi mr ck sk) : AW own cc nL d ini kc ks xo Po n pc lv (iI i :: .ref a :: st) mi mr ck sk := by
  intro p l e R s m args below meth c H locs ls D cA b base Q C I S L T
  have he := wld_at (cA := cA) (mi := mi) (mr := mr) (b := b) (base := base) ha
  have hcel : cel cA mi mr b base a = .inl (cA 1, z, .inl (fun j => Int32.ofInt (mi a j))) := by unfold cel; rw [hs]
  rw [hcel] at he
  have hz9 : z ≤ 1000 := by have := SH_len a; rw [hs] at this; exact this
  refine va_zald (i := Int32.ofInt i) (rest := (st.map (cv b base))) C.1 C.2.1 C.2.2.2.2.2.1 I.2.1 (a - 1) 1 he rfl (oI_in hi hz9) hd ?_
  rw [oI_clamp hi.1 (by omega)]
  exact k (I.2.2.1 a i) p l e R s m args below meth c H locs ls D cA b base Q C I S L T
theorem aw_iast {a z : Nat} {i v : Int} (hs : SH a = (1, z)) (ha : 0 < a ∧ a ≤ n) (hi : 0 ≤ i ∧ i < z) (hv : -2147483648 ≤ v ∧ v ≤ 2147483647) (hd : decode cc pc = .ok (.iastore, 1)) (k : AW own cc nL d ini kc ks xo Po n (pc + 1) lv st (aup mi a i v) mr ck sk) : AW own cc nL d ini kc ks xo Po n pc lv (iI v :: iI i :: .ref a :: st) mi mr ck sk := by
  intro p l e R s m args below meth c H locs ls D cA b base Q C I S L T
  have he := wld_at (cA := cA) (mi := mi) (mr := mr) (b := b) (base := base) ha
  have hcel : cel cA mi mr b base a = .inl (cA 0, z, .inl (fun j => Int32.ofInt (mi a j))) := by unfold cel; rw [hs]
  rw [hcel] at he
  have hz9 : z ≤ 1000 := by have := SH_len a; rw [hs] at this; exact this
  have hin := oI_in hi hz9
  refine W.iast (x := Int32.ofInt v) (j := Int32.ofInt i) (rest := (st.map (cv b base))) C.1 C.2.1 (I.2.1 (a - 1) _ he) ((C.2.2.2.2.2.1.2 0 _ rfl).1 z (fun j => .int (Int32.ofInt (mi a j)))) (fun q => by cases q) (by show ¬ (Int32.ofInt i < 0 ∨ (arrV _ _ _).slots.size ≤ _); rw [arrV_size]; exact hin) rfl rfl hd fun H1 e1 e2 e3 => ?_
  have hcel2 : cel cA (aup mi a i v) mr b base a = .inl (cA 0, z, .inl (upd (fun j => Int32.ofInt (mi a j)) (Int32.ofInt i).toNatClampNeg (Int32.ofInt v))) := by
    unfold cel; rw [hs]
    show (Sum.inl (cA 0, z, Sum.inl (fun j : Nat => Int32.ofInt (aup mi a i v a j))) : va_E) = _
    congr 4
    funext j
    have e := oI_clamp hi.1 (by omega)
    unfold upd aup
    by_cases hj : j = (Int32.ofInt i).toNatClampNeg
    · have hj2 : (j : Int) = i := by omega
      simp [hj, e]
    · have hj2 : ¬ ((j : Int) = i) := by omega
      simp [hj, hj2]
  have hP := I.2.1.set (p := a - 1) (e := .inl (cA 0, z, .inl (upd (fun j => Int32.ofInt (mi a j)) (Int32.ofInt i).toNatClampNeg (Int32.ofInt v)))) (wld_D cA mi mr b base n) he (by
    show H1[adr b base a]? = some (vp_cell _ _)
    rw [e1, vp_cell_i, vp_cell_i, arrV_store]
    congr 2
    funext q
    by_cases hq : q = (Int32.ofInt i).toNatClampNeg
    · subst hq
      simp [updV, upd]
      try rfl
    · simp [updV, upd, hq]) e3
  exact k p l e R s m args below meth c H1 _ ls D cA b base Q C (aI_put I ha hP e2 (fun x j hx => by simp [aup, hx]) hcel2.symm (fun j => aup_rng I.2.2.1 hv a j)) (S.put e2 e3 ((wld_D cA mi mr b base n).2 (a - 1) _ he)) L T
theorem aw_zast {a z : Nat} {i v : Int} (hs : SH a = (2, z)) (ha : 0 < a ∧ a ≤ n) (hi : 0 ≤ i ∧ i < z) (hv9 : v = 0 ∨ v = 1) (hd : decode cc pc = .ok (.bastore, 1)) (k : AW own cc nL d ini kc ks xo Po n (pc + 1) lv st (aup mi a i v) mr ck sk) : AW own cc nL d ini kc ks xo Po n pc lv (iI v :: iI i :: .ref a :: st) mi mr ck sk := by
  intro p l e R s m args below meth c H locs ls D cA b base Q C I S L T
  have he := wld_at (cA := cA) (mi := mi) (mr := mr) (b := b) (base := base) ha
  have hcel : cel cA mi mr b base a = .inl (cA 1, z, .inl (fun j => Int32.ofInt (mi a j))) := by unfold cel; rw [hs]
  rw [hcel] at he
  have hz9 : z ≤ 1000 := by have := SH_len a; rw [hs] at this; exact this
  have hin := oI_in hi hz9
  have hv : -2147483648 ≤ v ∧ v ≤ 2147483647 := by omega
  have hnr : narrow .boolean (.int (Int32.ofInt v)) = .int (Int32.ofInt v) := by rcases hv9 with rfl | rfl <;> decide
  refine W.zast (x := Int32.ofInt v) (j := Int32.ofInt i) (rest := (st.map (cv b base))) C.1 C.2.1 (I.2.1 (a - 1) _ he) ((C.2.2.2.2.2.1.2 1 _ rfl).1 z (fun j => .int (Int32.ofInt (mi a j)))) (fun q => by cases q) (by show ¬ (Int32.ofInt i < 0 ∨ (arrV _ _ _).slots.size ≤ _); rw [arrV_size]; exact hin) rfl rfl hd fun H1 e1 e2 e3 => ?_
  have hcel2 : cel cA (aup mi a i v) mr b base a = .inl (cA 1, z, .inl (upd (fun j => Int32.ofInt (mi a j)) (Int32.ofInt i).toNatClampNeg (Int32.ofInt v))) := by
    unfold cel; rw [hs]
    show (Sum.inl (cA 1, z, Sum.inl (fun j : Nat => Int32.ofInt (aup mi a i v a j))) : va_E) = _
    congr 4
    funext j
    have e := oI_clamp hi.1 (by omega)
    unfold upd aup
    by_cases hj : j = (Int32.ofInt i).toNatClampNeg
    · have hj2 : (j : Int) = i := by omega
      simp [hj, e]
    · have hj2 : ¬ ((j : Int) = i) := by omega
      simp [hj, hj2]
  have hP := I.2.1.set (p := a - 1) (e := .inl (cA 1, z, .inl (upd (fun j => Int32.ofInt (mi a j)) (Int32.ofInt i).toNatClampNeg (Int32.ofInt v)))) (wld_D cA mi mr b base n) he (by
    show H1[adr b base a]? = some (vp_cell _ _)
    rw [e1, vp_cell_i, vp_cell_i, arrV_store]
    congr 2
    funext q
    by_cases hq : q = (Int32.ofInt i).toNatClampNeg
    · subst hq
      simp [updV, upd, hnr]
      try rfl
    · simp [updV, upd, hq]) e3
  exact k p l e R s m args below meth c H1 _ ls D cA b base Q C (aI_put I ha hP e2 (fun x j hx => by simp [aup, hx]) hcel2.symm (fun j => aup_rng I.2.2.1 hv a j)) (S.put e2 e3 ((wld_D cA mi mr b base n).2 (a - 1) _ he)) L T
def tyq (t : Nat) : Nat := match t with
  | 0 => 0
  | 1 => 2
  | _ => 1
theorem tys_q {cA : Nat → ClassId} {t : Nat} (ht : t < 3) : ∃ C F N, (aTys cA)[t + 2]? = some (cA (t + 2), .object C) ∧ vwCl[tyq t]? = some (C, F, N) := by
  match t, ht with
  | 0, _ => exact ⟨RX0, TX0, 12, rfl, rfl⟩
  | 1, _ => exact ⟨RX2, TX2, 2, rfl, rfl⟩
  | 2, _ => exact ⟨RX1, TX1, 6, rfl, rfl⟩
theorem aw_aald {a z t r : Nat} {i : Int} (hs : SH a = (t + 3, z)) (ht : t < 3) (ha : 0 < a ∧ a ≤ n) (hi : 0 ≤ i ∧ i < z) (hr : mr a i = some r) (hd : decode cc pc = .ok (.aaload, 1)) (k : AW own cc nL d ini kc ks xo Po n (pc + 1) lv (.ref r :: st) mi mr ck sk) : AW own cc nL d ini kc ks xo Po n pc lv (iI i :: .ref a :: st) mi mr ck sk := by
  intro p l e R s m args below meth c H locs ls D cA b base Q C I S L T
  have he := wld_at (cA := cA) (mi := mi) (mr := mr) (b := b) (base := base) ha
  have hcel : cel cA mi mr b base a = .inl (cA (t + 2), z, .inr (.inr (.inr (.inr (fun j => (mr a j).map (adr b base)))))) := by unfold cel; rw [hs]
  rw [hcel] at he
  have hz9 : z ≤ 1000 := by have := SH_len a; rw [hs] at this; exact this
  obtain ⟨CN, F, N, hty, hcl⟩ := tys_q (cA := cA) ht
  refine va_aldq (i := Int32.ofInt i) (rest := (st.map (cv b base))) C.1 C.2.1 C.2.2.2.2.2.1 I.2.1 (a - 1) (t + 2) he hty (oI_in hi hz9) hd ?_
  rw [oI_clamp hi.1 (by omega), hr]
  exact k p l e R s m args below meth c H locs ls D cA b base Q C I S L T
theorem aw_aast {a z t v : Nat} {i : Int} (hs : SH a = (t + 3, z)) (ht : t < 3) (ha : 0 < a ∧ a ≤ n) (hi : 0 ≤ i ∧ i < z) (hsv : SH v = (0, tyq t)) (hv : 0 < v ∧ v ≤ n) (hd : decode cc pc = .ok (.aastore, 1)) (k : AW own cc nL d ini kc ks xo Po n (pc + 1) lv st mi (aup mr a i (some v)) ck sk) : AW own cc nL d ini kc ks xo Po n pc lv (.ref v :: iI i :: .ref a :: st) mi mr ck sk := by
  intro p l e R s m args below meth c H locs ls D cA b base Q C I S L T
  have he := wld_at (cA := cA) (mi := mi) (mr := mr) (b := b) (base := base) ha
  have hcel : cel cA mi mr b base a = .inl (cA (t + 2), z, .inr (.inr (.inr (.inr (fun j => (mr a j).map (adr b base)))))) := by unfold cel; rw [hs]
  rw [hcel] at he
  have hz9 : z ≤ 1000 := by have := SH_len a; rw [hs] at this; exact this
  obtain ⟨CN, F, N, hty, hcl⟩ := tys_q (cA := cA) ht
  have hin := oI_in hi hz9
  have hev := wld_at (cA := cA) (mi := mi) (mr := mr) (b := b) (base := base) hv
  have hcv : cel cA mi mr b base v = .inr (tyq t, (List.range (nF (tyq t))).map (fval mi mr b base v (tyq t))) := by unfold cel; rw [hsv]
  rw [hcv] at hev
  obtain ⟨r', hr', cellV, g1, g2, g3, -⟩ := I.2.1 (v - 1) _ hev
  have hcls := (C.2.2.2.2.2.1.1 _ _ hcl).2
  obtain ⟨kA, comp, k1, k2, k3, -⟩ := (C.2.2.2.2.2.1.2 _ _ hty).2
  have hcomp : comp = D.1 (tyq t) := Option.some.inj (k3.symm.trans hcls.1)
  subst hcomp
  obtain ⟨kC, hkC, -⟩ := hcls.2
  have h0 : ¬ Int32.ofInt i < 0 := fun q => hin (Or.inl q)
  have hlt : (Int32.ofInt i).toNatClampNeg < z := Nat.not_le.mp fun q => hin (Or.inr q)
  refine W.aast (v := adr b base v) (j := Int32.ofInt i) (rest := (st.map (cv b base))) C.1 C.2.1 (I.2.1 (a - 1) _ he) (fun q h => by cases h) (fun h => by cases h) k1 k2 rfl hkC ⟨h0, by show _ < (arrV _ _ _).slots.size; rw [arrV_size]; exact hlt⟩ g1 (fun q h => by rw [g3] at h; cases h) (by rw [g2]; exact hkC) (by rw [g2]; exact va_assign hcls) rfl rfl hd fun H1 e1 e2 e3 => ?_
  have hcel2 : cel cA mi (aup mr a i (some v)) b base a = .inl (cA (t + 2), z, .inr (.inr (.inr (.inr (va_up (fun j => (mr a j).map (adr b base)) (Int32.ofInt i).toNatClampNeg (some (adr b base v))))))) := by
    unfold cel; rw [hs]
    show (Sum.inl (cA (t + 2), z, Sum.inr (Sum.inr (Sum.inr (Sum.inr (fun j : Nat => (aup mr a i (some v) a j).map (adr b base)))))) : va_E) = _
    congr 7
    funext j
    have e := oI_clamp hi.1 (by omega)
    unfold va_up aup
    by_cases hj : j = (Int32.ofInt i).toNatClampNeg
    · simp [hj, e]
    · have hj2 : ¬ ((j : Int) = i) := by omega
      simp [hj, hj2]
  have hP := I.2.1.set (p := a - 1) (e := .inl (cA (t + 2), z, .inr (.inr (.inr (.inr (va_up (fun j => (mr a j).map (adr b base)) (Int32.ofInt i).toNatClampNeg (some (adr b base v)))))))) (wld_D cA mi mr b base n) he (by
    show H1[adr b base a]? = some (vp_cell _ _)
    rw [e1, vp_cell_q, vp_cell_q, arrV_store]
    congr 2
    funext q
    by_cases hq : q = (Int32.ofInt i).toNatClampNeg
    · subst hq
      simp [updV, va_up, va_rf]
    · simp [updV, va_up, hq]) e3
  exact k p l e R s m args below meth c H1 _ ls D cA b base Q C (aI_put I ha hP e2 (fun x j hx => by simp [aup, hx]) hcel2.symm (fun j => I.2.2.1 a j)) (S.put e2 e3 ((wld_D cA mi mr b base n).2 (a - 1) _ he)) L T
theorem aw_alen0 {a z : Nat} (hs : SH a = (1, z)) (ha : 0 < a ∧ a ≤ n) (hd : decode cc pc = .ok (.arraylength, 1)) (k : AW own cc nL d ini kc ks xo Po n (pc + 1) lv (iI (z : Int) :: st) mi mr ck sk) : AW own cc nL d ini kc ks xo Po n pc lv (.ref a :: st) mi mr ck sk := by
  intro p l e R s m args below meth c H locs ls D cA b base Q C I S L T
  have he := wld_at (cA := cA) (mi := mi) (mr := mr) (b := b) (base := base) ha
  have hcel : cel cA mi mr b base a = .inl (cA 0, z, .inl (fun j => Int32.ofInt (mi a j))) := by unfold cel; rw [hs]
  rw [hcel] at he
  have hz9 : z ≤ 1000 := by have := SH_len a; rw [hs] at this; exact this
  exact va_alen (rest := (st.map (cv b base))) (v := Int32.ofInt (z : Int)) C.1 C.2.1 C.2.2.2.2.2.1 I.2.1 (a - 1) 0 he rfl (Int32.ofInt_eq_ofNat).symm hd (k p l e R s m args below meth c H locs ls D cA b base Q C I S L T)
theorem aw_alen1 {a z : Nat} (hs : SH a = (2, z)) (ha : 0 < a ∧ a ≤ n) (hd : decode cc pc = .ok (.arraylength, 1)) (k : AW own cc nL d ini kc ks xo Po n (pc + 1) lv (iI (z : Int) :: st) mi mr ck sk) : AW own cc nL d ini kc ks xo Po n pc lv (.ref a :: st) mi mr ck sk := by
  intro p l e R s m args below meth c H locs ls D cA b base Q C I S L T
  have he := wld_at (cA := cA) (mi := mi) (mr := mr) (b := b) (base := base) ha
  have hcel : cel cA mi mr b base a = .inl (cA 1, z, .inl (fun j => Int32.ofInt (mi a j))) := by unfold cel; rw [hs]
  rw [hcel] at he
  have hz9 : z ≤ 1000 := by have := SH_len a; rw [hs] at this; exact this
  exact va_alen (rest := (st.map (cv b base))) (v := Int32.ofInt (z : Int)) C.1 C.2.1 C.2.2.2.2.2.1 I.2.1 (a - 1) 1 he rfl (Int32.ofInt_eq_ofNat).symm hd (k p l e R s m args below meth c H locs ls D cA b base Q C I S L T)
theorem aw_sld {Ls : Nat} {xs : Int → Int} {i : Int} (hxo : xo = some (Ls, xs)) (hi : 0 ≤ i ∧ i < Ls) (hl : Ls ≤ 2147483647) (hd : decode cc pc = .ok (.iaload, 1)) (k : AW own cc nL d ini kc ks xo Po n (pc + 1) lv (iI (xs i) :: st) mi mr ck sk) : AW own cc nL d ini kc ks xo Po n pc lv (iI i :: .ref 0 :: st) mi mr ck sk := by
  intro p l e R s m args below meth c H locs ls D cA b base Q C I S L T
  obtain ⟨hb0, hb1, hX⟩ := C.2.2.2.2.2.2.2.2.2.2 Ls xs hxo
  have hin : vp_in (Int32.ofInt i) Ls := by rw [vp_in_iff, oI_toInt (by omega)]; exact hi
  refine va_sld (b := b) (i := Int32.ofInt i) (rest := (st.map (cv b base))) C.1 C.2.1 hX (by omega) (by omega) S hin hd ?_
  rw [oI_clamp hi.1 (by omega)]
  exact k p l e R s m args below meth c H locs ls D cA b base Q C I S L T
theorem aw_slen {Ls : Nat} {xs : Int → Int} (hxo : xo = some (Ls, xs)) (hd : decode cc pc = .ok (.arraylength, 1)) (k : AW own cc nL d ini kc ks xo Po n (pc + 1) lv (iI (Ls : Int) :: st) mi mr ck sk) : AW own cc nL d ini kc ks xo Po n pc lv (.ref 0 :: st) mi mr ck sk := by
  intro p l e R s m args below meth c H locs ls D cA b base Q C I S L T
  obtain ⟨hb0, hb1, hX⟩ := C.2.2.2.2.2.2.2.2.2.2 Ls xs hxo
  refine va_slen (b := b) (rest := (st.map (cv b base))) C.1 C.2.1 hX (by omega) (by omega) S hd ?_
  rw [← Int32.ofInt_eq_ofNat]
  exact k p l e R s m args below meth c H locs ls D cA b base Q C I S L T
theorem wld_push (cA : Nat → ClassId) (mi : aM) (mr : aR) (b base n : Nat) : wld cA mi mr b base (n + 1) = wld cA mi mr b base n ++ [(base + n, cel cA mi mr b base (n + 1))] := by
  simp [wld, List.range_succ]
theorem aI_push {D : va_G} {cA : Nat → ClassId} {b base n : Nat} {mi : aM} {mr : aR} {H H1 : Heap} (I : aI D cA b base n mi mr H) (hz : H1.size = H.size + 1) (ho : ∀ q, q < H.size → H1[q]? = H[q]?) (he : va_at D vwCl (base + n, cel cA mi mr b base (n + 1)) H1) : aI D cA b base (n + 1) mi mr H1 := by
  refine ⟨by rw [hz, I.1]; rfl, ?_, I.2.2.1, fun a k ha => I.2.2.2 a k (by omega)⟩
  rw [wld_push]
  refine (I.2.1.kept (fun k x hx => ho x.1 ((I.2.1 k x hx).lt))).app (fun k x hx => ?_)
  have hz2 : k < 1 := (List.getElem?_eq_some_iff.mp hx).1
  rw [show k = 0 by omega] at hx
  cases hx
  exact he
theorem va_S_push {A : Nat → Prop} {H0 H H1 : Heap} {locs : List Loc} (hS : va_S A H0 H locs) (hz : H1.size = H.size + 1) (ho : ∀ q, q < H.size → H1[q]? = H[q]?) : va_S A H0 H1 locs := ⟨Nat.le_trans hS.1 (by omega), fun x h1 h2 => (ho x (Nat.lt_of_lt_of_le h1 hS.1)).trans (hS.2.1 x h1 h2), hS.2.2⟩
theorem aw_new {idx ci N : Nat} {CN : String} {F : u_T} (hs : SH (n + 1) = (0, ci)) (hc : vwCl[ci]? = some (CN, F, N)) (hcl : Cond.classLink own idx CN ∈ aT) (hin : Cond.instantiable CN N ∈ aT ∧ Cond.initialized CN ∈ aT) (hdf : ∀ j, j < N → defaultValue (fty ci j) = if (fty ci j).isReference = true then .null else .int 0) (hck : ck + 1 ≤ kc) (hsk : sk + N ≤ ks) (hd : decode cc pc = .ok (.new idx, 3)) (k : AW own cc nL d ini kc ks xo Po (n + 1) (pc + 3) lv (.ref (n + 1) :: st) mi mr (ck + 1) (sk + N)) : AW own cc nL d ini kc ks xo Po n pc lv st mi mr ck sk := by
  intro p l e R s m args below meth c H locs ls D cA b base Q C I S L T
  obtain ⟨g1, g2, g3, g4⟩ := aIn hc
  have hts := C.2.2.2.2.1
  have hKn := C.2.2.2.2.2.1.1 ci _ hc
  have hR := C.2.2.2.2.2.2.2.2.1
  refine W.newcK C.1 C.2.1 C.2.2.2.1 (hts _ hcl) (hts _ hin.1) (hts _ hin.2) rfl hd (by omega) (by omega) hKn.2.1 I.1 fun H1 kC hkC e1 z1 o1 => ?_
  rw [← I.1] at o1 z1
  have hcel : cel cA mi mr b base (n + 1) = .inr (ci, (List.range (nF ci)).map (fval mi mr b base (n + 1) ci)) := by unfold cel; rw [hs]
  refine k p l e R s m args below meth c H1 locs ls D cA b base Q C (aI_push I z1 o1 ?_) (va_S_push S z1 o1) L T
  rw [hcel]
  refine ⟨_, hc, (u_born (fty ci) hts g1 hKn hkC e1 g2).to (fun j hj => ?_)⟩
  have hj2 : j < nF ci := by rw [← g4]; exact hj
  have h3 := I.2.2.2 (n + 1) j (by omega)
  simp only [vp_V, List.getD_eq_getElem?_getD, List.getElem?_map, List.getElem?_range hj2, Option.map_some, Option.getD_some, fval, h3.1, h3.2, hdf j hj]
  by_cases hq : (fty ci j).isReference = true
  · rw [if_pos hq, if_pos hq]; rfl
  · rw [if_neg hq, if_neg hq]; rfl
theorem aw_newI {z : Nat} (hs : SH (n + 1) = (1, z)) (hck : ck + 1 ≤ kc) (hsk : sk + z ≤ ks) (hd : decode cc pc = .ok (.newarray .int, 2)) (k : AW own cc nL d ini kc ks xo Po (n + 1) (pc + 2) lv (.ref (n + 1) :: st) mi mr (ck + 1) (sk + z)) : AW own cc nL d ini kc ks xo Po n pc lv (iI (z : Int) :: st) mi mr ck sk := by
  intro p l e R s m args below meth c H locs ls D cA b base Q C I S L T
  have hR := C.2.2.2.2.2.2.2.2.1
  have hz9 : z ≤ 1000 := by have := SH_len (n + 1); rw [hs] at this; exact this
  have hcl : (Int32.ofInt (z : Int)).toNatClampNeg = z := by
    have := oI_clamp (i := (z : Int)) (by omega) (by omega)
    omega
  refine va_newaK (atype := .int) (n := Int32.ofInt (z : Int)) (N := z) (rest := (st.map (cv b base))) C.1 C.2.1 (C.2.2.2.2.1 _ arc_int) rfl hd rfl (oI_neg (by omega)) hcl (by show z * 4 ≤ _; omega) (by omega) (by omega) I.1 fun H1 cB e1 z1 o1 hAr hNm => ?_
  rw [← I.1] at o1 z1
  have hcB : cB = cA 0 := by
    have h2 := (C.2.2.2.2.2.1.2 0 _ rfl).2
    exact Option.some.inj (hNm.symm.trans h2)
  subst hcB
  refine k p l e R s m args below meth c H1 locs ls D cA b base Q C (aI_push I z1 o1 ?_) (va_S_push S z1 o1) L T
  have hcel : cel cA mi mr b base (n + 1) = .inl (cA 0, z, .inl (fun j => Int32.ofInt (mi (n + 1) j))) := by unfold cel; rw [hs]
  rw [hcel]
  show H1[base + n]? = some (vp_cell _ _)
  rw [e1, vp_cell_i]
  have e0 : (fun j : Nat => Value.int (Int32.ofInt (mi (n + 1) j))) = fun _ => defaultValue .int := by
    funext j
    rw [(I.2.2.2 (n + 1) j (by omega)).1]
    rfl
  rw [e0]
  rfl
theorem aw_newZ {z : Nat} (hs : SH (n + 1) = (2, z)) (hck : ck + 1 ≤ kc) (hsk : sk + z ≤ ks) (hd : decode cc pc = .ok (.newarray .boolean, 2)) (k : AW own cc nL d ini kc ks xo Po (n + 1) (pc + 2) lv (.ref (n + 1) :: st) mi mr (ck + 1) (sk + z)) : AW own cc nL d ini kc ks xo Po n pc lv (iI (z : Int) :: st) mi mr ck sk := by
  intro p l e R s m args below meth c H locs ls D cA b base Q C I S L T
  have hR := C.2.2.2.2.2.2.2.2.1
  have hz9 : z ≤ 1000 := by have := SH_len (n + 1); rw [hs] at this; exact this
  have hcl : (Int32.ofInt (z : Int)).toNatClampNeg = z := by
    have := oI_clamp (i := (z : Int)) (by omega) (by omega)
    omega
  refine va_newaK (atype := .boolean) (n := Int32.ofInt (z : Int)) (N := z) (rest := (st.map (cv b base))) C.1 C.2.1 (C.2.2.2.2.1 _ arc_boolean) rfl hd rfl (oI_neg (by omega)) hcl (by show z * 1 ≤ _; omega) (by omega) (by omega) I.1 fun H1 cB e1 z1 o1 hAr hNm => ?_
  rw [← I.1] at o1 z1
  have hcB : cB = cA 1 := by
    have h2 := (C.2.2.2.2.2.1.2 1 _ rfl).2
    exact Option.some.inj (hNm.symm.trans h2)
  subst hcB
  refine k p l e R s m args below meth c H1 locs ls D cA b base Q C (aI_push I z1 o1 ?_) (va_S_push S z1 o1) L T
  have hcel : cel cA mi mr b base (n + 1) = .inl (cA 1, z, .inl (fun j => Int32.ofInt (mi (n + 1) j))) := by unfold cel; rw [hs]
  rw [hcel]
  show H1[base + n]? = some (vp_cell _ _)
  rw [e1, vp_cell_i]
  have e0 : (fun j : Nat => Value.int (Int32.ofInt (mi (n + 1) j))) = fun _ => defaultValue .boolean := by
    funext j
    rw [(I.2.2.2 (n + 1) j (by omega)).1]
    rfl
  rw [e0]
  rfl
theorem aw_newQ {idx z t : Nat} {CN : String} {F : u_T} {N : Nat} (hs : SH (n + 1) = (t + 3, z)) (ht : t < 3) (hc : vwCl[tyq t]? = some (CN, F, N)) (hcl : Cond.classLink own idx CN ∈ aT) (hck : ck + 1 ≤ kc) (hsk : sk + z ≤ ks) (hd : decode cc pc = .ok (.anewarray idx, 3)) (k : AW own cc nL d ini kc ks xo Po (n + 1) (pc + 3) lv (.ref (n + 1) :: st) mi mr (ck + 1) (sk + z)) : AW own cc nL d ini kc ks xo Po n pc lv (iI (z : Int) :: st) mi mr ck sk := by
  intro p l e R s m args below meth c H locs ls D cA b base Q C I S L T
  have hR := C.2.2.2.2.2.2.2.2.1
  have hz9 : z ≤ 1000 := by have := SH_len (n + 1); rw [hs] at this; exact this
  have hcl2 : (Int32.ofInt (z : Int)).toNatClampNeg = z := by
    have := oI_clamp (i := (z : Int)) (by omega) (by omega)
    omega
  obtain ⟨CN2, F2, N2, hty, hc2⟩ := tys_q (cA := cA) ht
  have hCN : CN2 = CN := by rw [hc] at hc2; cases hc2; rfl
  subst hCN
  have hAO : va_AO CN2 s := by
    have hN9 := C.2.2.2.2.2.2.1
    match t, ht, hc2 with
    | 0, _, hc2 => cases hc2; exact hN9.2.1
    | 1, _, hc2 => cases hc2; exact hN9.2.2.1
    | 2, _, hc2 => cases hc2; exact hN9.2.2.2
  refine W.anew (n := Int32.ofInt (z : Int)) (rest := (st.map (cv b base))) C.1 C.2.1 C.2.2.2.1 (C.2.2.2.2.1 _ hcl) (va_AO.use hAO) rfl hd rfl (oI_neg (by omega)) (by rw [hcl2]; omega) (by omega) (by rw [hcl2]; omega) fun cB kA comp f1 f2 f3 f4 => ?_
  rw [hcl2]
  generalize hH1 : H.push ({ cls := cB, slots := Array.replicate z .null, vm := .none } : Cell) = H1
  have z1 : H1.size = H.size + 1 := by rw [← hH1, Array.size_push]
  have e1 : H1[H.size]? = some (arrV cB z (fun _ => .null)) := by rw [← hH1, Array.getElem?_push_size, ← arrV_new]
  have o1 : ∀ q : Nat, q < H.size → H1[q]? = H[q]? := fun q hq => by rw [← hH1, Array.getElem?_push, if_neg (Nat.ne_of_lt hq)]
  have hcB : cB = cA (t + 2) := by
    obtain ⟨kA2, comp2, j1, j2, j3, j4⟩ := (C.2.2.2.2.2.1.2 _ _ hty).2
    exact Option.some.inj (f1.symm.trans j4)
  subst hcB
  have hadr : (Value.ref H.size) = cv b base (.ref (n + 1)) := by rw [I.1]; rfl
  rw [hadr]
  refine k p l e R s m args below meth c H1 locs ls D cA b base Q C (aI_push I z1 o1 ?_) (va_S_push S z1 o1) L T
  have hcel : cel cA mi mr b base (n + 1) = .inl (cA (t + 2), z, .inr (.inr (.inr (.inr (fun j => (mr (n + 1) j).map (adr b base)))))) := by unfold cel; rw [hs]
  rw [hcel]
  show H1[base + n]? = some (vp_cell _ _)
  rw [← I.1, e1, vp_cell_q]
  have e0 : (fun j : Nat => va_rf ((mr (n + 1) j).map (adr b base))) = fun _ => Value.null := by
    funext j
    rw [(I.2.2.2 (n + 1) j (by omega)).2]
    rfl
  rw [e0]
theorem aw_obj {idx a : Nat} (hm : Cond.methodLink own idx objectInit ∈ aT) (hr : (st.map fun v => v.category).sum ≤ 8) (hd1 : 1 ≤ d) (hd : decode cc pc = .ok (.invokespecial idx, 3)) (k : AW own cc nL d ini kc ks xo Po n (pc + 3) lv st mi mr ck sk) : AW own cc nL d ini kc ks xo Po n pc lv (.ref a :: st) mi mr ck sk := by
  intro p l e R s m args below meth c H locs ls D cA b base Q C I S L T
  have hts := C.2.2.2.2.1
  have hR := C.2.2.2.2.2.2.2.2.1
  refine W.objInit (a := adr b base a) (rest := (st.map (cv b base))) C.1 C.2.1 C.2.2.2.1 (hts _ hm) (hts _ obj_ini.1) (hts _ obj_ini.2) rfl (by rw [C.2.2.1]; exact L.1) rfl hd (by omega) ?_ (k p l e R s m args below meth c H locs ls D cA b base Q C I S L T)
  have e := cat_sum b base st
  show 2 * 0 + _ + 12 ≤ _
  omega
def acp (mi : aM) (a0 : Nat) (sp : Int) (a : Nat) (dp w : Int) : aM := fun x j => if x = a ∧ dp ≤ j ∧ j < dp + w then mi a0 (sp + (j - dp)) else mi x j
theorem oI_nn {x : Int} (h : 0 ≤ x ∧ x ≤ 2147483647) : ((Int32.ofInt x).toNatClampNeg : Nat) = x.toNat := by
  have := oI_clamp h.1 h.2
  omega
theorem aw_copy {idx a0 a z0 z1 : Nat} {sp dp w : Int} (hm : Cond.methodLink own idx arraycopyName ∈ aT) (hs0 : SH a0 = (1, z0)) (ha0 : 0 < a0 ∧ a0 ≤ n) (hs : SH a = (1, z1)) (ha : 0 < a ∧ a ≤ n) (hsp : 0 ≤ sp) (hdp : 0 ≤ dp) (hw : 0 ≤ w) (h4 : sp + w ≤ z0) (h5 : dp + w ≤ z1) (hr : (st.map fun v => v.category).sum ≤ 8) (hd1 : 1 ≤ d) (hd : decode cc pc = .ok (.invokestatic idx, 3)) (k : AW own cc nL d ini kc ks xo Po n (pc + 3) lv st (acp mi a0 sp a dp w) mr ck sk) : AW own cc nL d ini kc ks xo Po n pc lv (iI w :: iI dp :: .ref a :: iI sp :: .ref a0 :: st) mi mr ck sk := by
  intro p l e R s m args below meth c H locs ls D cA b base Q C I S L T
  have hts := C.2.2.2.2.1
  have hR := C.2.2.2.2.2.2.2.2.1
  have he0 := wld_at (cA := cA) (mi := mi) (mr := mr) (b := b) (base := base) ha0
  have he := wld_at (cA := cA) (mi := mi) (mr := mr) (b := b) (base := base) ha
  have hcel0 : cel cA mi mr b base a0 = .inl (cA 0, z0, .inl (fun j => Int32.ofInt (mi a0 j))) := by unfold cel; rw [hs0]
  have hcel : cel cA mi mr b base a = .inl (cA 0, z1, .inl (fun j => Int32.ofInt (mi a j))) := by unfold cel; rw [hs]
  rw [hcel0] at he0
  rw [hcel] at he
  have hz0 : z0 ≤ 1000 := by have := SH_len a0; rw [hs0] at this; exact this
  have hz1 : z1 ≤ 1000 := by have := SH_len a; rw [hs] at this; exact this
  have t0 : (Int32.ofInt sp).toInt = sp := oI_toInt (by omega)
  have t1 : (Int32.ofInt dp).toInt = dp := oI_toInt (by omega)
  have t2 : (Int32.ofInt w).toInt = w := oI_toInt (by omega)
  have n0 := oI_nn (x := sp) (by omega)
  have n1 := oI_nn (x := dp) (by omega)
  have n2 := oI_nn (x := w) (by omega)
  have hc0 : H[adr b base a0]? = some (vp_cell (cA 0) (z0, .inl (fun j => Int32.ofInt (mi a0 j)))) := I.2.1 (a0 - 1) _ he0
  have hc1 : H[adr b base a]? = some (vp_cell (cA 0) (z1, .inl (fun j => Int32.ofInt (mi a j)))) := I.2.1 (a - 1) _ he
  obtain ⟨-, k0, hk0, cm0, hkk0⟩ := (C.2.2.2.2.2.1.2 0 _ rfl).1 z0 (fun j => .int (Int32.ofInt (mi a0 j)))
  have hcat := cat_sum b base st
  have hnf : nativeFrameWords "java/lang/System" "arraycopy" 5 = 7 := by decide
  intro T0 hT X
  obtain ⟨vm', X', step⟩ := X.arraycopy C.1 C.2.2.2.1 (hts _ hm) (hts _ nat_copy.1) (hts _ nat_copy.2.1) (hts _ nat_copy.2.2) (src := adr b base a0) (dst := adr b base a) (cs := vp_cell (cA 0) (z0, .inl (fun j => Int32.ofInt (mi a0 j)))) (cd := vp_cell (cA 0) (z1, .inl (fun j => Int32.ofInt (mi a j)))) (srcPos := Int32.ofInt sp) (destPos := Int32.ofInt dp) (n := Int32.ofInt w) (by rw [hT]; exact hc0) (by rw [hT]; exact hc1)
    (fun _ h => by cases h) (fun _ h => by cases h) (fun h => by cases h) (fun h => by cases h) hk0 hk0 hkk0 hkk0 (by simp [refKind]) (oI_neg (by omega)) (oI_neg (by omega)) (oI_neg (by omega))
    (by rw [t0, t2]; show ¬ _ > ((arrV (cA 0) z0 (fun j => .int (Int32.ofInt (mi a0 j)))).slots.size : Int); rw [arrV_size]; omega)
    (by rw [t1, t2]; show ¬ _ > ((arrV (cA 0) z1 (fun j => .int (Int32.ofInt (mi a j)))).slots.size : Int); rw [arrV_size]; omega)
    (fun vm₁ _ i hi => by
      have e : (vp_cell (cA 0) (z0, .inl (fun j => Int32.ofInt (mi a0 j)))).slots.getD ((Int32.ofInt sp).toNatClampNeg + i) .null = .int (Int32.ofInt (mi a0 (((Int32.ofInt sp).toNatClampNeg + i : Nat) : Int))) := by
        show (arrV (cA 0) z0 (fun j => .int (Int32.ofInt (mi a0 j)))).slots.getD _ _ = _
        rw [Array.getD_eq_getD_getElem?, arrV_read _ _ (by omega)]
        rfl
      refine ⟨?_, ?_⟩
      · rw [e]
        rfl
      · rw [e]
        exact trivial)
    (g := F0 m pc ls ((iI w :: iI dp :: Value.ref a :: iI sp :: Value.ref a0 :: st).map (cv b base))) rfl (by rw [C.2.2.1]; exact L.1) (rest := st.map (cv b base)) rfl (by rw [C.2.1]; exact hd) (by omega) (by show 2 * 0 + _ + _ ≤ _; rw [hnf, hcat]; omega)
  have e1 : copied (vp_cell (cA 0) (z0, .inl (fun j => Int32.ofInt (mi a0 j)))) (vp_cell (cA 0) (z1, .inl (fun j => Int32.ofInt (mi a j)))) (Int32.ofInt sp) (Int32.ofInt dp) (Int32.ofInt w) = vp_cell (cA 0) (z1, .inl (va_cpy (fun j => Int32.ofInt (mi a0 j)) (fun j => Int32.ofInt (mi a j)) (Int32.ofInt sp).toNatClampNeg (Int32.ofInt dp).toNatClampNeg (Int32.ofInt w).toNatClampNeg)) := va_copied (fun z => .int z) (cA 0) (cA 0) (fun j => Int32.ofInt (mi a0 j)) (fun j => Int32.ofInt (mi a j)) (by omega)
  rw [e1] at X' step
  have hl : adr b base a < H.size := (Array.getElem?_eq_some_iff.mp hc1).1
  have hcel2 : cel cA (acp mi a0 sp a dp w) mr b base a = .inl (cA 0, z1, .inl (va_cpy (fun j => Int32.ofInt (mi a0 j)) (fun j => Int32.ofInt (mi a j)) (Int32.ofInt sp).toNatClampNeg (Int32.ofInt dp).toNatClampNeg (Int32.ofInt w).toNatClampNeg)) := by
    unfold cel; rw [hs]
    show (Sum.inl (cA 0, z1, Sum.inl (fun j : Nat => Int32.ofInt (acp mi a0 sp a dp w a j))) : va_E) = _
    congr 4
    funext j
    rw [n0, n1, n2]
    unfold va_cpy acp
    by_cases hj : dp.toNat ≤ j ∧ j < dp.toNat + w.toNat
    · rw [if_pos hj, if_pos ⟨rfl, by omega, by omega⟩]
      congr 2
      omega
    · rw [if_neg hj, if_neg (by omega)]
  generalize hC2 : vp_cell (cA 0) (z1, .inl (va_cpy (fun j => Int32.ofInt (mi a0 j)) (fun j => Int32.ofInt (mi a j)) (Int32.ofInt sp).toNatClampNeg (Int32.ofInt dp).toNatClampNeg (Int32.ofInt w).toNatClampNeg)) = C2 at X' step
  have hheap : ((T0.setVm vm').setCell (adr b base a) C2).heap = H.setIfInBounds (adr b base a) C2 := by rw [← hT]; rfl
  have oq : ∀ q : Nat, q ≠ adr b base a → (H.setIfInBounds (adr b base a) C2)[q]? = H[q]? := fun q hq => by simp [Array.getElem?_setIfInBounds, Ne.symm hq]
  have hP := I.2.1.set (p := a - 1) (wld_D cA mi mr b base n) he (show va_at D vwCl (adr b base a, .inl (cA 0, z1, .inl (va_cpy (fun j => Int32.ofInt (mi a0 j)) (fun j => Int32.ofInt (mi a j)) (Int32.ofInt sp).toNatClampNeg (Int32.ofInt dp).toNatClampNeg (Int32.ofInt w).toNatClampNeg))) (H.setIfInBounds (adr b base a) C2) from by
    show (H.setIfInBounds (adr b base a) C2)[adr b base a]? = some (vp_cell _ _)
    rw [hC2]
    simp [Array.getElem?_setIfInBounds, hl]) oq
  have hA := (wld_D cA mi mr b base n).2 (a - 1) _ he
  have kk := fun (L9 : List Loc) (hL9 : ∀ q ∈ L9, base ≤ q.base) => k p l e R s m args below meth c (H.setIfInBounds (adr b base a) C2) L9 ls D cA b base Q C (aI_put I ha hP (by simp) (fun x j hx => by simp [acp, hx]) hcel2.symm (fun j => by unfold acp; split <;> exact I.2.2.1 _ _)) ⟨by simp; exact S.1, fun q g1 g2 => by
      rw [oq q (fun e => g2 (by rw [e]; exact hA))]
      exact S.2.1 q g1 g2, hL9⟩ L T
  obtain ⟨t, a1, b1⟩ := kk _ (fun q hq => by
      rcases List.mem_append.mp hq with h | h
      · exact S.2.2 q h
      · obtain ⟨z, -, hz⟩ := List.mem_map.mp h
        rw [← hz]
        exact hA) _ hheap X'
  exact ⟨t, step t a1, b1⟩
theorem aw_iret {x : Int} (hP : Po (some x) n mi mr) (hck : ck ≤ kc) (hsk : sk ≤ ks) (hd : decode cc pc = .ok (.ireturn, 1)) : AW own cc nL d ini kc ks xo Po n pc lv [iI x] mi mr ck sk := by
  intro p l e R s m args below meth c H locs ls D cA b base Q C I S L T
  exact T (some x) n mi mr ck sk H locs pc ls hP I S hck hsk hd
theorem aw_vret (hP : Po none n mi mr) (hck : ck ≤ kc) (hsk : sk ≤ ks) (hd : decode cc pc = .ok (.return_, 1)) : AW own cc nL d ini kc ks xo Po n pc lv [] mi mr ck sk := by
  intro p l e R s m args below meth c H locs ls D cA b base Q C I S L T
  exact T none n mi mr ck sk H locs pc ls hP I S hck hsk hd
theorem aw_post {Po' : Option Int → Nat → aM → aR → Prop} (hP : ∀ v n' mi' mr', Po' v n' mi' mr' → Po v n' mi' mr') (k : AW own cc nL d ini kc ks xo Po' n pc lv st mi mr ck sk) : AW own cc nL d ini kc ks xo Po n pc lv st mi mr ck sk := by
  intro p l e R s m args below meth c H locs ls D cA b base Q C I S L T
  exact k p l e R s m args below meth c H locs ls D cA b base Q C I S L (fun v n' mi' mr' ck' sk' H' locs' pc' ls' h => T v n' mi' mr' ck' sk' H' locs' pc' ls' (hP v n' mi' mr' h))
theorem aw_rng (k : (∀ (a : Nat) (j : Int), -2147483648 ≤ mi a j ∧ mi a j ≤ 2147483647) → AW own cc nL d ini kc ks xo Po n pc lv st mi mr ck sk) : AW own cc nL d ini kc ks xo Po n pc lv st mi mr ck sk := by
  intro p l e R s m args below meth c H locs ls D cA b base Q C I S L T
  exact k I.2.2.1 p l e R s m args below meth c H locs ls D cA b base Q C I S L T
def rmq (d mc ms : Nat) : Room := { frames := d, cells := mc, slots := ms, locals := 60 * d }
def aPc (av : List Value) (D : va_G) (cA : Nat → ClassId) (b base n : Nat) (mi : aM) (mr : aR) : Array Value → State → Prop := va_Pc (av.map (cv b base)) (fun U => aI D cA b base n mi mr U.heap ∧ va_K D vwCl (aTys cA) U ∧ aN U)
def aQ (D : va_G) (cA : Nat → ClassId) (b base : Nat) (Po : Option Int → Nat → aM → aR → Prop) : Array Value → State → Outcome → State → Prop := fun _ st oc t => (∃ v n' mi' mr', oc = .returned (v.map (fun x : Int => Value.int (Int32.ofInt x))) ∧ Po v n' mi' mr' ∧ aI D cA b base n' mi' mr' t.heap) ∧ va_F (fun q => base ≤ q) st t
/-- the contract of a method, whatever calls it: level d, making at most mc cells of ms slots -/
def SP (y : MethodName) (cc : ByteArray) (nL : Nat) (rt : Option FieldType) (d mc ms n : Nat) (av : List Value) (mi : aM) (mr : aR) (Po : Option Int → Nat → aM → aR → Prop) : Prop :=
  ∀ (l : Launch) (D : va_G) (cA : Nat → ClassId) (b base : Nat), Met l y (.code y cc nL rt :: aT) (rmq d mc ms) (aPc av D cA b base n mi mr) (aQ D cA b base Po) mc ms (fun q => base ≤ q)
theorem aN_moved {u U : State} (hvm : u.vm.Alike U.vm) (hN : ∀ w ∈ tables_1, (∃ own idx y host, w = Cond.methodLinkNest own idx y host) → va_Nw w u → va_Nw w U) (h : aN u) : aN U :=
  ⟨fun w hw hx => hN w hw hx (h.1 w hw hx), va_AO.moved hvm h.2.1, va_AO.moved hvm h.2.2.1, va_AO.moved hvm h.2.2.2⟩
theorem aN_warm {s U : State} (hW : s.WarmedH U.vm) (h : aN s) : aN U := aN_moved hW.alike (fun w _ hx hz => by
  obtain ⟨own, idx, y, host, rfl⟩ := hx
  exact va_Nw.warmM hW hz) h
theorem aN_same {u U : State} (hv : u.vm = U.vm) (h : aN u) : aN U := aN_moved (by rw [hv]; exact Vm.Alike.refl _) (fun w _ hx hz => by
  obtain ⟨own, idx, y, host, rfl⟩ := hx
  exact va_Nw.same rfl hv hz) h
theorem aPc_blind (av : List Value) (D : va_G) (cA : Nat → ClassId) (b base n : Nat) (mi : aM) (mr : aR) : FrameBlind (aPc av D cA b base n mi mr) :=
  fun a U g mk q => ⟨q.1, q.2.1, va_K.moved (u := U) (U := U.calling g mk a) (Vm.Alike.refl U.vm) q.2.2.1, aN_same (u := U) (U := U.calling g mk a) rfl q.2.2.2⟩
theorem SP.of {y : MethodName} {rt : Option FieldType} {own : String} {cc : ByteArray} {nL d mc ms n : Nat} {av : List Value} {mi : aM} {mr : aR} {Po : Option Int → Nat → aM → aR → Prop} (ini : Bool) (hown : y.cls = own) (hini : ini = true → y.name = "<init>") (hpl : plainName y.cls = true) (hargs : (lg_sl av).length ≤ nL)
    (hrt : (rt = some .int ∧ ∀ n' mi' mr', ¬ Po none n' mi' mr') ∨ (rt = some .boolean ∧ (∀ n' mi' mr', ¬ Po none n' mi' mr') ∧ ∀ v n' mi' mr', Po (some v) n' mi' mr' → v = 0 ∨ v = 1) ∨ (rt = none ∧ ∀ v n' mi' mr', ¬ Po (some v) n' mi' mr'))
    (h : AW own cc nL d ini mc ms none Po n 0 (lv_args 0 av) [] mi mr 0 0) : SP y cc nL rt d mc ms n av mi mr Po := by
  intro l D cA b base
  refine Met.ofW (cc := cc) (maxL := nL) (ret := rt) hpl rfl ?_
  intro p e s m args below meth c s₁ B hml hv
  obtain ⟨rfl, hI, hK, hN⟩ := hv
  have hts := atoms_spec (ws := .code y cc nL rt :: aT) B.pre
  have hown2 : s.vm.findClass own = some m.cls := by rw [← hown]; exact findClass_of_methodNamed B.named
  have hl := lv_entry (av.map (cv b base)) (n := nL) (by rw [sl_len]; exact hargs)
  rw [lg_entry_eq]
  generalize (lg_sl (av.map (cv b base)) ++ List.replicate (nL - (lg_sl (av.map (cv b base))).length) Slot.unset).toArray = ls at hl ⊢
  rw [clv_args] at hl
  have hsz : base ≤ s.heap.size := by rw [hI.1]; omega
  have hlocks := B.notSynchronized
  refine h p l e _ s m _ below meth c s.heap [] ls D cA b base _ ⟨B.exec, B.bytes, hml, hown2, fun w hw => hts w (List.mem_cons_of_mem _ hw), hK, hN, fun hi => ?_, ⟨Nat.le_refl _, Nat.le_refl _, Nat.le_refl _, Nat.le_refl _⟩, hsz, fun L xs hx => by cases hx⟩ hI va_S.rf hl ?_
  · have := (name_of_methodNamed B.named B.method).1
    rw [this]; exact hini hi
  · intro v n' mi' mr' ck' sk' H' locs' pc' ls' hPo hI' hS' hck hsk hd
    refine W.widen hck hsk ?_
    have hq : ∀ t : State, t.heap = H' → s.WarmedH t.vm → aQ D cA b base Po (av.map (cv b base)).toArray s (.returned (v.map (fun x : Int => Value.int (Int32.ofInt x)))) t := fun t ht _ => ⟨⟨v, n', mi', mr', rfl, hPo, by rw [ht]; exact hI'⟩, hS'.F ht⟩
    cases v with
    | none =>
      rcases hrt with ⟨h1, h2⟩ | ⟨h1, h2, -⟩ | ⟨h1, h2⟩
      · exact absurd hPo (h2 n' mi' mr')
      · exact absurd hPo (h2 n' mi' mr')
      · exact W.vret B.exec B.bytes (by rw [B.returns, h1]) hq hS'.2.2 hd
    | some x =>
      rcases hrt with ⟨h1, h2⟩ | ⟨h1, h2, h3⟩ | ⟨h1, h2⟩
      · exact W.iret B.exec B.bytes (by rw [B.returns, h1]) hq hS'.2.2 hd
      · refine W.zret B.exec B.bytes (by rw [B.returns, h1]) ?_ hq hS'.2.2 hd
        rcases h3 x n' mi' mr' hPo with rfl | rfl <;> decide
      · exact absurd hPo (h2 x n' mi' mr')
theorem aw_callV {y : MethodName} {ccg : ByteArray} {nLg dg mc ms idx na : Nat} {rtg : Option FieldType} {a ci N : Nat} {F : u_T} {As st0 : List Value} {Pg : Option Int → Nat → aM → aR → Prop} (hcal : aCalV own idx y ccg nLg rtg na) (hM : SP y ccg nLg rtg dg mc ms n (.ref a :: As) mi mr Pg) (hs : SH a = (0, ci)) (hc : vwCl[ci]? = some (y.cls, F, N)) (ha : 0 < a ∧ a ≤ n) (hna : As.length = na) (hst9 : st0 = As.reverse ++ .ref a :: st) (hr : (st.map fun v => v.category).sum ≤ 8) (hdd : dg + 1 ≤ d) (hnl : nLg ≤ 40) (hck : ck + mc ≤ kc) (hsk : sk + ms ≤ ks) (hd : decode cc pc = .ok (.invokevirtual idx, 3)) (k : ∀ v n' mi' mr', Pg v n' mi' mr' → AW own cc nL d ini kc ks xo Po n' (pc + 3) lv (aStk v ++ st) mi' mr' (ck + mc) (sk + ms)) : AW own cc nL d ini kc ks xo Po n pc lv st0 mi mr ck sk := by
  intro p l e R s m args below meth c H locs ls D cA b base Q C I S L T
  obtain ⟨hml, hin, hsel, hini, hcode, hy1, hy2, hpd⟩ := hcal
  have hts := C.2.2.2.2.1
  have hR := C.2.2.2.2.2.2.2.2.1
  have hfits : ck + mc ≤ R.cells ∧ sk + ms ≤ R.slots := by omega
  have hG : GoodIn aT (Cond.code y ccg nLg rtg :: aT) := fun w hw => by
    rcases List.mem_cons.mp hw with rfl | hw
    · exact ⟨hcode, good_of_word (aT_good _ hcode)⟩
    · exact ⟨hw, good_of_word (aT_good _ hw)⟩
  have he := wld_at (cA := cA) (mi := mi) (mr := mr) (b := b) (base := base) ha
  have hcel : cel cA mi mr b base a = .inr (ci, (List.range (nF ci)).map (fval mi mr b base a ci)) := by unfold cel; rw [hs]
  rw [hcel] at he
  have hr := va_runV (e := e) (below := below) (meth := meth) (b := adr b base a) (As := As.map (cv b base)) (rest := st.map (cv b base)) (g := F0 m pc ls (st0.map (cv b base))) (H := H) (locs := locs) (cells := ck) (slots := sk) (own := own) (index := idx) (n := na) ⟨C.1, C.2.1, C.2.2.1, C.2.2.2.1, hts⟩ (hM l D cA b base) ⟨callB_of na hts hG rfl rfl rfl (hts _ hini) (hts _ hml) ⟨hy1, hy2, hpd⟩ ⟨by show dg + 1 ≤ R.frames; omega, by show 8 + (nLg + 11) + 60 * dg ≤ R.locals; omega⟩, hts _ hin, hts _ hsel⟩ ⟨aPc_blind _ D cA b base n mi mr, va_recv C.2.2.2.2.2.1 I.2.1 hc he, fun U hU hW => ⟨rfl, by rw [hU]; exact I, va_K.moved hW.alike C.2.2.2.2.2.1, aN_warm hW C.2.2.2.2.2.2.1⟩⟩ rfl (by rw [List.length_map]; exact hna) L.1 (by rw [hst9]; simp [cv]) (lv_room (by rw [cat_sum]; exact hr)) hd hfits
  revert hr
  generalize hU0 : (Value.ref (adr b base a) :: As.map (cv b base)).toArray = U0
  revert U0
  intro U0 hU0 hr T0 hT X
  obtain ⟨v, st₀, t, T1, L1, h0, X1, hL1, e1, e2, ⟨⟨v9, n1, mi1, mr1, ho, hPo, hI1⟩, hF⟩, hst⟩ := hr T0 hT X
  have hv9 : v = v9.map (fun x : Int => Value.int (Int32.ofInt x)) := by cases ho; rfl
  have hS1 : va_S (fun q => base ≤ q) s.heap T1.heap (locs ++ L1) := by
    unfold va_F at hF
    rw [h0] at hF
    rw [e1]
    refine ⟨Nat.le_trans S.1 hF.1, fun q h1 h2 => ?_, fun q hq => ?_⟩
    · rw [hF.2 q (Nat.lt_of_lt_of_le h1 S.1) h2]
      exact S.2.1 q h1 h2
    · rcases List.mem_append.mp hq with h | h
      · exact S.2.2 q h
      · exact hL1 q h
  have kk := k v9 n1 mi1 mr1 hPo p l e R s m args below meth c T1.heap (locs ++ L1) ls D cA b base Q C (by rw [e1]; exact hI1) hS1 L T
  obtain ⟨t2, a1, b1⟩ := kk T1 rfl X1
  refine ⟨t2, hst t2 ?_, b1⟩
  rw [hv9]
  cases v9 <;> exact a1

theorem aw_callS {y : MethodName} {ccg : ByteArray} {nLg dg mc ms idx na : Nat} {rtg : Option FieldType} {As st0 : List Value} {Pg : Option Int → Nat → aM → aR → Prop} (hcal : aCalS own idx y ccg nLg rtg na) (hM : SP y ccg nLg rtg dg mc ms n As mi mr Pg) (hna : As.length = na) (hst9 : st0 = As.reverse ++  st) (hr : (st.map fun v => v.category).sum ≤ 8) (hdd : dg + 1 ≤ d) (hnl : nLg ≤ 40) (hck : ck + mc ≤ kc) (hsk : sk + ms ≤ ks) (hd : decode cc pc = .ok (.invokestatic idx, 3)) (k : ∀ v n' mi' mr', Pg v n' mi' mr' → AW own cc nL d ini kc ks xo Po n' (pc + 3) lv (aStk v ++ st) mi' mr' (ck + mc) (sk + ms)) : AW own cc nL d ini kc ks xo Po n pc lv st0 mi mr ck sk := by
  intro p l e R s m args below meth c H locs ls D cA b base Q C I S L T
  obtain ⟨hml, hsta, hini, hcode, hy1, hy2, hpd⟩ := hcal
  have hts := C.2.2.2.2.1
  have hR := C.2.2.2.2.2.2.2.2.1
  have hfits : ck + mc ≤ R.cells ∧ sk + ms ≤ R.slots := by omega
  have hG : GoodIn aT (Cond.code y ccg nLg rtg :: aT) := fun w hw => by
    rcases List.mem_cons.mp hw with rfl | hw
    · exact ⟨hcode, good_of_word (aT_good _ hcode)⟩
    · exact ⟨hw, good_of_word (aT_good _ hw)⟩
  have hr := va_runS (e := e) (below := below) (meth := meth) (As := As.map (cv b base)) (rest := st.map (cv b base)) (g := F0 m pc ls (st0.map (cv b base))) (H := H) (locs := locs) (cells := ck) (slots := sk) (own := own) (index := idx) (n := na) ⟨C.1, C.2.1, C.2.2.1, C.2.2.2.1, hts⟩ (hM l D cA b base) ⟨callB_of na hts hG rfl rfl rfl (hts _ hini) (hts _ hml) ⟨hy1, hy2, hpd⟩ ⟨by show dg + 1 ≤ R.frames; omega, by show 8 + (nLg + 11) + 60 * dg ≤ R.locals; omega⟩, hts _ hsta⟩ ⟨aPc_blind _ D cA b base n mi mr, fun U hU hW => ⟨rfl, by rw [hU]; exact I, va_K.moved hW.alike C.2.2.2.2.2.1, aN_warm hW C.2.2.2.2.2.2.1⟩⟩ rfl (by rw [List.length_map]; exact hna) L.1 (by rw [hst9]; simp) (lv_room (by rw [cat_sum]; exact hr)) hd hfits
  revert hr
  generalize hU0 : (As.map (cv b base)).toArray = U0
  revert U0
  intro U0 hU0 hr T0 hT X
  obtain ⟨v, st₀, t, T1, L1, h0, X1, hL1, e1, e2, ⟨⟨v9, n1, mi1, mr1, ho, hPo, hI1⟩, hF⟩, hst⟩ := hr T0 hT X
  have hv9 : v = v9.map (fun x : Int => Value.int (Int32.ofInt x)) := by cases ho; rfl
  have hS1 : va_S (fun q => base ≤ q) s.heap T1.heap (locs ++ L1) := by
    unfold va_F at hF
    rw [h0] at hF
    rw [e1]
    refine ⟨Nat.le_trans S.1 hF.1, fun q h1 h2 => ?_, fun q hq => ?_⟩
    · rw [hF.2 q (Nat.lt_of_lt_of_le h1 S.1) h2]
      exact S.2.1 q h1 h2
    · rcases List.mem_append.mp hq with h | h
      · exact S.2.2 q h
      · exact hL1 q h
  have kk := k v9 n1 mi1 mr1 hPo p l e R s m args below meth c T1.heap (locs ++ L1) ls D cA b base Q C (by rw [e1]; exact hI1) hS1 L T
  obtain ⟨t2, a1, b1⟩ := kk T1 rfl X1
  refine ⟨t2, hst t2 ?_, b1⟩
  rw [hv9]
  cases v9 <;> exact a1

theorem aw_callI {y : MethodName} {ccg : ByteArray} {nLg dg mc ms idx na : Nat} {a : Nat} {As st0 : List Value} {Pg : Option Int → Nat → aM → aR → Prop} (hcal : aCalI own idx y ccg nLg na) (hM : SP y ccg nLg none dg mc ms n (.ref a :: As) mi mr Pg) (hna : As.length = na) (hst9 : st0 = As.reverse ++ .ref a :: st) (hr : (st.map fun v => v.category).sum ≤ 8) (hdd : dg + 1 ≤ d) (hnl : nLg ≤ 40) (hck : ck + mc ≤ kc) (hsk : sk + ms ≤ ks) (hd : decode cc pc = .ok (.invokespecial idx, 3)) (k : ∀ v n' mi' mr', Pg v n' mi' mr' → AW own cc nL d ini kc ks xo Po n' (pc + 3) lv (aStk v ++ st) mi' mr' (ck + mc) (sk + ms)) : AW own cc nL d ini kc ks xo Po n pc lv st0 mi mr ck sk := by
  intro p l e R s m args below meth c H locs ls D cA b base Q C I S L T
  obtain ⟨hml, hin, hini, hcode, hnm, hy1, hy2, hpd⟩ := hcal
  have hts := C.2.2.2.2.1
  have hR := C.2.2.2.2.2.2.2.2.1
  have hfits : ck + mc ≤ R.cells ∧ sk + ms ≤ R.slots := by omega
  have hG : GoodIn aT (Cond.code y ccg nLg none :: aT) := fun w hw => by
    rcases List.mem_cons.mp hw with rfl | hw
    · exact ⟨hcode, good_of_word (aT_good _ hcode)⟩
    · exact ⟨hw, good_of_word (aT_good _ hw)⟩
  have hr := va_runI (e := e) (below := below) (meth := meth) (b := adr b base a) (As := As.map (cv b base)) (rest := st.map (cv b base)) (g := F0 m pc ls (st0.map (cv b base))) (H := H) (locs := locs) (cells := ck) (slots := sk) (own := own) (index := idx) (n := na) ⟨C.1, C.2.1, C.2.2.1, C.2.2.2.1, hts⟩ (hM l D cA b base) ⟨callB_of na hts hG rfl rfl rfl (hts _ hini) (hts _ hml) ⟨hy1, hy2, hpd⟩ ⟨by show dg + 1 ≤ R.frames; omega, by show 8 + (nLg + 11) + 60 * dg ≤ R.locals; omega⟩, hnm, hts _ hin⟩ ⟨aPc_blind _ D cA b base n mi mr, fun U hU hW => ⟨rfl, by rw [hU]; exact I, va_K.moved hW.alike C.2.2.2.2.2.1, aN_warm hW C.2.2.2.2.2.2.1⟩⟩ rfl (by rw [List.length_map]; exact hna) L.1 (by rw [hst9]; simp [cv]) (lv_room (by rw [cat_sum]; exact hr)) hd hfits
  revert hr
  generalize hU0 : (Value.ref (adr b base a) :: As.map (cv b base)).toArray = U0
  revert U0
  intro U0 hU0 hr T0 hT X
  obtain ⟨v, st₀, t, T1, L1, h0, X1, hL1, e1, e2, ⟨⟨v9, n1, mi1, mr1, ho, hPo, hI1⟩, hF⟩, hst⟩ := hr T0 hT X
  have hv9 : v = v9.map (fun x : Int => Value.int (Int32.ofInt x)) := by cases ho; rfl
  have hS1 : va_S (fun q => base ≤ q) s.heap T1.heap (locs ++ L1) := by
    unfold va_F at hF
    rw [h0] at hF
    rw [e1]
    refine ⟨Nat.le_trans S.1 hF.1, fun q h1 h2 => ?_, fun q hq => ?_⟩
    · rw [hF.2 q (Nat.lt_of_lt_of_le h1 S.1) h2]
      exact S.2.1 q h1 h2
    · rcases List.mem_append.mp hq with h | h
      · exact S.2.2 q h
      · exact hL1 q h
  have kk := k v9 n1 mi1 mr1 hPo p l e R s m args below meth c T1.heap (locs ++ L1) ls D cA b base Q C (by rw [e1]; exact hI1) hS1 L T
  obtain ⟨t2, a1, b1⟩ := kk T1 rfl X1
  refine ⟨t2, hst t2 ?_, b1⟩
  rw [hv9]
  cases v9 <;> exact a1

theorem aw_callN {y : MethodName} {ccg : ByteArray} {nLg dg mc ms idx na : Nat} {a : Nat} {host : String} {As st0 : List Value} {Pg : Option Int → Nat → aM → aR → Prop} (hcal : aCalN own idx y host ccg nLg na) (hM : SP y ccg nLg none dg mc ms n (.ref a :: As) mi mr Pg) (hna : As.length = na) (hst9 : st0 = As.reverse ++ .ref a :: st) (hr : (st.map fun v => v.category).sum ≤ 8) (hdd : dg + 1 ≤ d) (hnl : nLg ≤ 40) (hck : ck + mc ≤ kc) (hsk : sk + ms ≤ ks) (hd : decode cc pc = .ok (.invokespecial idx, 3)) (k : ∀ v n' mi' mr', Pg v n' mi' mr' → AW own cc nL d ini kc ks xo Po n' (pc + 3) lv (aStk v ++ st) mi' mr' (ck + mc) (sk + ms)) : AW own cc nL d ini kc ks xo Po n pc lv st0 mi mr ck sk := by
  intro p l e R s m args below meth c H locs ls D cA b base Q C I S L T
  obtain ⟨hml, hin, hini, hcode, hnm, hy1, hy2, hpd⟩ := hcal
  have hts := C.2.2.2.2.1
  have hR := C.2.2.2.2.2.2.2.2.1
  have hfits : ck + mc ≤ R.cells ∧ sk + ms ≤ R.slots := by omega
  have hG : GoodIn aT (Cond.code y ccg nLg none :: aT) := fun w hw => by
    rcases List.mem_cons.mp hw with rfl | hw
    · exact ⟨hcode, good_of_word (aT_good _ hcode)⟩
    · exact ⟨hw, good_of_word (aT_good _ hw)⟩
  have hr := va_runIN (e := e) (below := below) (meth := meth) (b := adr b base a) (As := As.map (cv b base)) (rest := st.map (cv b base)) (g := F0 m pc ls (st0.map (cv b base))) (H := H) (locs := locs) (cells := ck) (slots := sk) (own := own) (index := idx) (n := na) ⟨C.1, C.2.1, C.2.2.1, C.2.2.2.1, hts⟩ (hM l D cA b base) ⟨va_cnB na hts hG rfl rfl rfl (C.2.2.2.2.2.2.1.1 _ hml ⟨_, _, _, _, rfl⟩) (hts _ hini) ⟨hy1, hy2, hpd⟩ ⟨by show dg + 1 ≤ R.frames; omega, by show 8 + (nLg + 11) + 60 * dg ≤ R.locals; omega⟩, hnm, hts _ hin⟩ ⟨aPc_blind _ D cA b base n mi mr, fun U hU hW => ⟨rfl, by rw [hU]; exact I, va_K.moved hW.alike C.2.2.2.2.2.1, aN_warm hW C.2.2.2.2.2.2.1⟩⟩ rfl (by rw [List.length_map]; exact hna) L.1 (by rw [hst9]; simp [cv]) (lv_room (by rw [cat_sum]; exact hr)) hd hfits
  revert hr
  generalize hU0 : (Value.ref (adr b base a) :: As.map (cv b base)).toArray = U0
  revert U0
  intro U0 hU0 hr T0 hT X
  obtain ⟨v, st₀, t, T1, L1, h0, X1, hL1, e1, e2, ⟨⟨v9, n1, mi1, mr1, ho, hPo, hI1⟩, hF⟩, hst⟩ := hr T0 hT X
  have hv9 : v = v9.map (fun x : Int => Value.int (Int32.ofInt x)) := by cases ho; rfl
  have hS1 : va_S (fun q => base ≤ q) s.heap T1.heap (locs ++ L1) := by
    unfold va_F at hF
    rw [h0] at hF
    rw [e1]
    refine ⟨Nat.le_trans S.1 hF.1, fun q h1 h2 => ?_, fun q hq => ?_⟩
    · rw [hF.2 q (Nat.lt_of_lt_of_le h1 S.1) h2]
      exact S.2.1 q h1 h2
    · rcases List.mem_append.mp hq with h | h
      · exact S.2.2 q h
      · exact hL1 q h
  have kk := k v9 n1 mi1 mr1 hPo p l e R s m args below meth c T1.heap (locs ++ L1) ls D cA b base Q C (by rw [e1]; exact hI1) hS1 L T
  obtain ⟨t2, a1, b1⟩ := kk T1 rfl X1
  refine ⟨t2, hst t2 ?_, b1⟩
  rw [hv9]
  cases v9 <;> exact a1

end AWR
