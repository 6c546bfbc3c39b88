/-! whole numbers in registers -/
def iN (z : Int) : Int32 := Int32.ofInt z
def lL (z : Int) : Int64 := Int64.ofInt z
def bI (b : Bool) : Int32 := if b then 1 else 0
def inR (a : Int) : Prop := -2147483648 ≤ a ∧ a < 2147483648
def inL (a : Int) : Prop := -9223372036854775808 ≤ a ∧ a < 9223372036854775808
theorem iN_add (a b : Int) : iN a + iN b = iN (a + b) := (Int32.ofInt_add a b).symm
theorem iN_sub (a b : Int) : iN a - iN b = iN (a - b) := (Int32.ofInt_sub a b).symm
theorem iN_mul (a b : Int) : iN a * iN b = iN (a * b) := (Int32.ofInt_mul a b).symm
theorem iN_toInt {a : Int} (h : inR a) : (iN a).toInt = a := Int32.toInt_ofInt_of_le (by unfold inR at h; omega) (by unfold inR at h; omega)
theorem iN_asI (x : Int32) : iN x.toInt = x := Int32.ofInt_toInt x
theorem inR_of (x : Int32) : inR x.toInt := ⟨by have := x.le_toInt; omega, by have := x.toInt_lt; omega⟩
theorem iN_ex (x : Int32) : ∃ z : Int, x = iN z ∧ inR z := ⟨x.toInt, (iN_asI x).symm, inR_of x⟩
theorem iN_inj {a b : Int} (ha : inR a) (hb : inR b) : iN a = iN b ↔ a = b := ⟨fun h => by rw [← iN_toInt ha, ← iN_toInt hb, h], fun h => by rw [h]⟩
theorem iN_lt {a b : Int} (ha : inR a) (hb : inR b) : iN a < iN b ↔ a < b := by rw [Int32.lt_iff_toInt_lt, iN_toInt ha, iN_toInt hb]
theorem iN_le {a b : Int} (ha : inR a) (hb : inR b) : iN a ≤ iN b ↔ a ≤ b := by rw [Int32.le_iff_toInt_le, iN_toInt ha, iN_toInt hb]
theorem iN_0 : (0 : Int32) = iN 0 := by decide +kernel
theorem iN_1 : (1 : Int32) = iN 1 := by decide +kernel
theorem inR_0 : inR 0 := by unfold inR; omega
theorem iN_eq0 {a : Int} (ha : inR a) : iN a = 0 ↔ a = 0 := by rw [iN_0]; exact iN_inj ha inR_0
theorem iN_nat (z : Int) (h : 0 ≤ z) (h2 : z < 2147483648) : (iN z).toNatClampNeg = z.toNat := by
  show (iN z).toInt.toNat = z.toNat
  rw [iN_toInt ⟨by omega, h2⟩]
theorem iN_vin {z : Int} {n : Nat} (h : 0 ≤ z) (h1 : z < n) (hn : n < 2147483648) : vp_in (iN z) n := by
  rw [vp_in_iff, iN_toInt ⟨by omega, by omega⟩]; exact ⟨h, h1⟩
theorem iN_ofNat (n : Nat) : Int32.ofNat n = iN n := (Int32.ofInt_eq_ofNat).symm
theorem iN_div {a b : Int} (ha : 0 ≤ a) (ha2 : a < 2147483648) (hb : 0 < b) (hb2 : b < 2147483648) : iN a / iN b = iN (a / b) := by
  have rb : inR b := ⟨by omega, hb2⟩
  have hq0 : 0 ≤ a / b := Int.ediv_nonneg ha (by omega)
  have hq1 : a / b ≤ a := Int.ediv_le_self b ha
  have hne : iN b ≠ -1 := by
    intro h
    have h2 := congrArg Int32.toInt h
    rw [iN_toInt rb, show ((-1 : Int32)).toInt = -1 by decide +kernel] at h2
    omega
  apply Int32.toInt_inj.mp
  rw [Int32.toInt_div_of_ne_right _ _ hne, iN_toInt ⟨by omega, ha2⟩, iN_toInt rb, iN_toInt ⟨by omega, by omega⟩, Int.tdiv_eq_ediv_of_nonneg ha]
theorem iN_mod {a b : Int} (ha : 0 ≤ a) (ha2 : a < 2147483648) (hb : 0 < b) (hb2 : b < 2147483648) : iN a - iN a / iN b * iN b = iN (a % b) := by
  rw [iN_div ha ha2 hb hb2, iN_mul, iN_sub, Int.emod_def, Int.mul_comm]
theorem bI_t : bI true = iN 1 := by decide +kernel
theorem bI_f : bI false = iN 0 := by decide +kernel
theorem bI_if (b : Bool) : bI b = iN (if b then 1 else 0) := by cases b <;> decide +kernel
theorem bI_eq0 (b : Bool) : bI b = 0 ↔ b = false := by cases b <;> decide +kernel
theorem lL_add (a b : Int) : lL a + lL b = lL (a + b) := (Int64.ofInt_add a b).symm
theorem lL_mul (a b : Int) : lL a * lL b = lL (a * b) := (Int64.ofInt_mul a b).symm
theorem lL_toInt {a : Int} (h : inL a) : (lL a).toInt = a := Int64.toInt_ofInt_of_le (by unfold inL at h; omega) (by unfold inL at h; omega)
theorem lL_i {a : Int} (h : inR a) : (iN a).toInt64 = lL a := by
  apply Int64.toInt_inj.mp
  rw [Int32.toInt_toInt64, iN_toInt h, lL_toInt ⟨by unfold inR at h; omega, by unfold inR at h; omega⟩]
theorem lL_to32 (a : Int) : (lL a).toInt32 = iN a := Int64.toInt32_ofInt
theorem lL_div {a b : Int} (ha : 0 ≤ a) (ha2 : a < 9223372036854775808) (hb : 0 < b) (hb2 : b < 9223372036854775808) : lL a / lL b = lL (a / b) := by
  have rb : inL b := ⟨by omega, hb2⟩
  have hq0 : 0 ≤ a / b := Int.ediv_nonneg ha (by omega)
  have hq1 : a / b ≤ a := Int.ediv_le_self b ha
  have hne : lL b ≠ -1 := by
    intro h
    have h2 := congrArg Int64.toInt h
    rw [lL_toInt rb, show ((-1 : Int64)).toInt = -1 by decide +kernel] at h2
    omega
  apply Int64.toInt_inj.mp
  rw [Int64.toInt_div_of_ne_right _ _ hne, lL_toInt ⟨by omega, ha2⟩, lL_toInt rb, lL_toInt ⟨by omega, by omega⟩, Int.tdiv_eq_ediv_of_nonneg ha]
theorem lL_sub (a b : Int) : lL a - lL b = lL (a - b) := (Int64.ofInt_sub a b).symm
theorem lL_mod {a b : Int} (ha : 0 ≤ a) (ha2 : a < 9223372036854775808) (hb : 0 < b) (hb2 : b < 9223372036854775808) : lL a - lL a / lL b * lL b = lL (a % b) := by
  rw [lL_div ha ha2 hb hb2, lL_mul, lL_sub, Int.emod_def, Int.mul_comm]
/-! the machine's room by depth; what a walk stands on -/
abbrev EV : Type := Program × Launch × Env × Room × State × MethodId × Array Value × List Frame × Method × Code × Nat × Nat
def OK (E : EV) (cc : ByteArray) (nL : Nat) (own : String) (ret : Option FieldType) : Prop := match E with
  | (p, _, _, R, s, m, args, _, meth, c, kc, ks) => p.tables.exec = Jvm.exec ∧ c.code = cc ∧ c.maxLocals = nL ∧ s.vm.findClass own = some m.cls ∧ (∀ w ∈ TW, w.before args s = true) ∧ NW s ∧ meth.locks = false ∧ meth.sig.returnType = ret ∧ kc ≤ R.cells ∧ ks ≤ R.slots
def lvh (ls : Array Slot) (nL : Nat) (lv : List (Option Value)) : Prop := ls.size = nL ∧ lv_wf ls ∧ lv.length = nL ∧ ∀ (i : Nat) (v : Value), lv[i]? = some (some v) → ls[i]? = some (.val v)
def VV (E : EV) (nL : Nat) (A : Nat → Prop) (Q : State → Prop) (J : Heap → Prop) (pc : Nat) (lv : List (Option Value)) (st : List Value) : Prop := match E with
  | (p, l, e, R, s, m, args, below, meth, c, k, n) => ∀ (H : Heap) (locs : List Loc) (ls : Array Slot), J H → va_S A s.heap H locs → lvh ls nL lv → W p l e R s m args below meth c H locs k n Q (F0 m pc ls st)
/-- the locals as kit's list -/
def lvL : Nat → List (Option Value) → List (Nat × Value)
  | _, [] => []
  | i, none :: r => lvL (i + 1) r
  | i, some v :: r => (i, v) :: lvL (i + 1) r
theorem lvL_mem : ∀ (lv : List (Option Value)) (k : Nat) (q : Nat × Value), q ∈ lvL k lv ↔ ∃ j : Nat, q.1 = k + j ∧ lv[j]? = some (some q.2)
  | [], k, q => by simp [lvL]
  | none :: r, k, q => by
    rw [lvL, lvL_mem r (k + 1) q]
    constructor
    · rintro ⟨j, h1, h2⟩
      exact ⟨j + 1, by omega, by simpa using h2⟩
    · rintro ⟨j, h1, h2⟩
      cases j with
      | zero => simp at h2
      | succ j => exact ⟨j, by omega, by simpa using h2⟩
  | some v :: r, k, q => by
    rw [lvL, List.mem_cons, lvL_mem r (k + 1) q]
    constructor
    · rintro (rfl | ⟨j, h1, h2⟩)
      · exact ⟨0, by simp, by simp⟩
      · exact ⟨j + 1, by omega, by simpa using h2⟩
    · rintro ⟨j, h1, h2⟩
      cases j with
      | zero =>
        left
        obtain ⟨a, b⟩ := q
        simp at h1 h2
        rw [h1, h2]
      | succ j => exact Or.inr ⟨j, by omega, by simpa using h2⟩
theorem lvh.has {ls : Array Slot} {nL : Nat} {lv : List (Option Value)} (h : lvh ls nL lv) : lv_has ls nL (lvL 0 lv) := by
  refine ⟨h.1, h.2.1, fun q hq => ?_⟩
  obtain ⟨j, h1, h2⟩ := (lvL_mem lv 0 q).mp hq
  rw [h1, Nat.zero_add]
  exact h.2.2.2 j q.2 h2
theorem lvh.at {ls : Array Slot} {nL : Nat} {lv : List (Option Value)} (h : lvh ls nL lv) {i : Nat} {v : Value} (hv : lv[i]? = some (some v)) : ls[i]? = some (.val v) := h.2.2.2 i v hv
/-- no long stands just ahead of place i -/
def catok (lv : List (Option Value)) (i : Nat) : Bool := match i with
  | 0 => true
  | j + 1 => match lv[j]? with
    | some (some v) => v.category == 1
    | _ => true
theorem lvh.put1 {ls ls' : Array Slot} {nL : Nat} {lv : List (Option Value)} {i : Nat} {x : Value} (h : lvh ls nL lv) (hi : i < nL) (hc : catok lv i = true) (h' : lv_has ls' nL ((i, x) :: (lvL 0 lv).filter (fun q => !(q.1 == i) && !(q.1 + 1 == i && q.2.category == 2)))) : lvh ls' nL (lv.set i (some x)) := by
  refine ⟨h'.1, h'.2.1, by rw [List.length_set]; exact h.2.2.1, fun j v hj => ?_⟩
  rw [List.getElem?_set] at hj
  by_cases e : i = j
  · subst e
    rw [if_pos rfl, if_pos (by rw [h.2.2.1]; exact hi)] at hj
    cases hj
    exact h'.2.2 (i, x) List.mem_cons_self
  · rw [if_neg e] at hj
    refine h'.2.2 (j, v) (List.mem_cons_of_mem _ (List.mem_filter.mpr ⟨(lvL_mem lv 0 (j, v)).mpr ⟨j, by simp, hj⟩, ?_⟩))
    have e1 : (j == i) = false := by simp; omega
    have e2 : (j + 1 == i && v.category == 2) = false := by
      by_cases e3 : j + 1 = i
      · subst e3
        simp only [catok, hj] at hc
        simp only [beq_iff_eq] at hc
        simp [hc]
      · simp [e3]
    simp [e1, e2]
theorem lvh.put2 {ls ls' : Array Slot} {nL : Nat} {lv : List (Option Value)} {i : Nat} {x : Value} (h : lvh ls nL lv) (hi : i + 1 < nL) (hc : catok lv i = true) (h' : lv_has ls' nL ((i, x) :: (lvL 0 lv).filter (fun q => !(q.1 == i) && (!(q.1 == i + 1) && !(q.1 + 1 == i && q.2.category == 2))))) : lvh ls' nL ((lv.set i (some x)).set (i + 1) none) := by
  refine ⟨h'.1, h'.2.1, by rw [List.length_set, List.length_set]; exact h.2.2.1, fun j v hj => ?_⟩
  rw [List.getElem?_set] at hj
  by_cases e0 : i + 1 = j
  · rw [if_pos e0] at hj
    split at hj <;> cases hj
  rw [if_neg e0, List.getElem?_set] at hj
  by_cases e : i = j
  · subst e
    rw [if_pos rfl, if_pos (by rw [h.2.2.1]; omega)] at hj
    cases hj
    exact h'.2.2 (i, x) List.mem_cons_self
  · rw [if_neg e] at hj
    refine h'.2.2 (j, v) (List.mem_cons_of_mem _ (List.mem_filter.mpr ⟨(lvL_mem lv 0 (j, v)).mpr ⟨j, by simp, hj⟩, ?_⟩))
    have e1 : (j == i) = false := by simp; omega
    have e3 : (j == i + 1) = false := by simp; omega
    have e2 : (j + 1 == i && v.category == 2) = false := by
      by_cases e3 : j + 1 = i
      · subst e3
        simp only [catok, hj] at hc
        simp only [beq_iff_eq] at hc
        simp [hc]
      · simp [e3]
    simp [e1, e2, e3]
section XR
variable {E : EV} {cc : ByteArray} {nL : Nat} {own : String} {ret : Option FieldType} {A : Nat → Prop} {Q : State → Prop} {J : Heap → Prop} {pc pc' tgt : Nat} {lv lv' : List (Option Value)} {st st' : List Value}
/-- another spelling of what is known -/
theorem x_st (h : st = st') (k : VV E nL A Q J pc lv st') : VV E nL A Q J pc lv st := h ▸ k
theorem x_lv (h : ∀ (i : Nat) (v : Value), lv'[i]? = some (some v) → lv[i]? = some (some v)) (hl : lv'.length = lv.length) (k : VV E nL A Q J pc lv' st) : VV E nL A Q J pc lv st := by
  obtain ⟨p, l, e, R, s, m, args, below, meth, c, kc, ks⟩ := E
  intro H locs ls hJ hS h1
  exact k H locs ls hJ hS ⟨h1.1, h1.2.1, hl.trans h1.2.2.1, fun i v hv => h1.2.2.2 i v (h i v hv)⟩
theorem x_J {J' : Heap → Prop} (h : ∀ H, J H → J' H) (k : VV E nL A Q J' pc lv st) : VV E nL A Q J pc lv st := by
  obtain ⟨p, l, e, R, s, m, args, below, meth, c, kc, ks⟩ := E
  intro H locs ls hJ hS h1
  exact k H locs ls (h H hJ) hS h1
theorem x_iconst {z : Int} (hE : OK E cc nL own ret) (hd : decode cc pc = .ok (.iconst z, 1)) (hp : pc' = pc + 1) (k : VV E nL A Q J pc' lv (.int (iN z) :: st)) : VV E nL A Q J pc lv (st) := by
  obtain ⟨p, l, e, R, s, m, args, below, meth, c, kc, ks⟩ := E
  obtain ⟨hx, hb, -, hown, hts, -, -, -⟩ := id hE
  subst hp
  intro H locs ls hJ hS hl
  exact lv_iconst hx hb hd rfl (k H locs ls hJ hS hl)
theorem x_bipush {z : Int} (hE : OK E cc nL own ret) (hd : decode cc pc = .ok (.bipush z, 2)) (hp : pc' = pc + 2) (hz : (Int8.ofInt z).toInt32 = iN z) (k : VV E nL A Q J pc' lv (.int (iN z) :: st)) : VV E nL A Q J pc lv (st) := by
  obtain ⟨p, l, e, R, s, m, args, below, meth, c, kc, ks⟩ := E
  obtain ⟨hx, hb, -, hown, hts, -, -, -⟩ := id hE
  subst hp
  intro H locs ls hJ hS hl
  exact lv_bipush hx hb hd hz (k H locs ls hJ hS hl)
theorem x_sipush {z : Int} (hE : OK E cc nL own ret) (hd : decode cc pc = .ok (.sipush z, 3)) (hp : pc' = pc + 3) (hz : (Int16.ofInt z).toInt32 = iN z) (k : VV E nL A Q J pc' lv (.int (iN z) :: st)) : VV E nL A Q J pc lv (st) := by
  obtain ⟨p, l, e, R, s, m, args, below, meth, c, kc, ks⟩ := E
  obtain ⟨hx, hb, -, hown, hts, -, -, -⟩ := id hE
  subst hp
  intro H locs ls hJ hS hl
  exact lv_sipush hx hb hd hz (k H locs ls hJ hS hl)
theorem x_ldcw {ix : Nat} {v : Int32} (hE : OK E cc nL own ret) (hd : decode cc pc = .ok (.ldc_w ix, 3)) (hp : pc' = pc + 3) (hw : Cond.constant own ix v ∈ TW) (k : VV E nL A Q J pc' lv (.int v :: st)) : VV E nL A Q J pc lv (st) := by
  obtain ⟨p, l, e, R, s, m, args, below, meth, c, kc, ks⟩ := E
  obtain ⟨hx, hb, -, hown, hts, -, -, -⟩ := id hE
  subst hp
  intro H locs ls hJ hS hl
  exact lv_ldcw hx hb hown (hts _ hw) hd (k H locs ls hJ hS hl)
theorem x_ldc2 {ix : Nat} {v : Int64} (hE : OK E cc nL own ret) (hd : decode cc pc = .ok (.ldc2_w ix, 3)) (hp : pc' = pc + 3) (hw : Cond.constantLong own ix v ∈ TW) (k : VV E nL A Q J pc' lv (.long v :: st)) : VV E nL A Q J pc lv (st) := by
  obtain ⟨p, l, e, R, s, m, args, below, meth, c, kc, ks⟩ := E
  obtain ⟨hx, hb, -, hown, hts, -, -, -⟩ := id hE
  subst hp
  intro H locs ls hJ hS hl
  exact lv_ldc2 hx hb hown (hts _ hw) hd (k H locs ls hJ hS hl)
theorem x_null (hE : OK E cc nL own ret) (hd : decode cc pc = .ok (.aconst_null, 1)) (hp : pc' = pc + 1) (k : VV E nL A Q J pc' lv (.null :: st)) : VV E nL A Q J pc lv (st) := by
  obtain ⟨p, l, e, R, s, m, args, below, meth, c, kc, ks⟩ := E
  obtain ⟨hx, hb, -, hown, hts, -, -, -⟩ := id hE
  subst hp
  intro H locs ls hJ hS hl
  exact lv_null hx hb hd (k H locs ls hJ hS hl)
theorem x_iload_n {i : Fin 4} {x : Int32} (hE : OK E cc nL own ret) (hd : decode cc pc = .ok (.iload_n i, 1)) (hp : pc' = pc + 1) (hv : lv[(i : Nat)]? = some (some (.int x))) (k : VV E nL A Q J pc' lv (.int x :: st)) : VV E nL A Q J pc lv (st) := by
  obtain ⟨p, l, e, R, s, m, args, below, meth, c, kc, ks⟩ := E
  obtain ⟨hx, hb, -, hown, hts, -, -, -⟩ := id hE
  subst hp
  intro H locs ls hJ hS hl
  exact lv_iload_n hx hb hd rfl (hl.at hv) (k H locs ls hJ hS hl)
theorem x_iload {i : Nat} {x : Int32} (hE : OK E cc nL own ret) (hd : decode cc pc = .ok (.iload i, 2)) (hp : pc' = pc + 2) (hv : lv[i]? = some (some (.int x))) (k : VV E nL A Q J pc' lv (.int x :: st)) : VV E nL A Q J pc lv (st) := by
  obtain ⟨p, l, e, R, s, m, args, below, meth, c, kc, ks⟩ := E
  obtain ⟨hx, hb, -, hown, hts, -, -, -⟩ := id hE
  subst hp
  intro H locs ls hJ hS hl
  exact lv_iload hx hb hd (hl.at hv) (k H locs ls hJ hS hl)
theorem x_aload_n {i : Fin 4} {x : Nat} (hE : OK E cc nL own ret) (hd : decode cc pc = .ok (.aload_n i, 1)) (hp : pc' = pc + 1) (hv : lv[(i : Nat)]? = some (some (.ref x))) (k : VV E nL A Q J pc' lv (.ref x :: st)) : VV E nL A Q J pc lv (st) := by
  obtain ⟨p, l, e, R, s, m, args, below, meth, c, kc, ks⟩ := E
  obtain ⟨hx, hb, -, hown, hts, -, -, -⟩ := id hE
  subst hp
  intro H locs ls hJ hS hl
  exact lv_aload_n hx hb hd rfl (hl.at hv) (k H locs ls hJ hS hl)
theorem x_aload {i : Nat} {x : Nat} (hE : OK E cc nL own ret) (hd : decode cc pc = .ok (.aload i, 2)) (hp : pc' = pc + 2) (hv : lv[i]? = some (some (.ref x))) (k : VV E nL A Q J pc' lv (.ref x :: st)) : VV E nL A Q J pc lv (st) := by
  obtain ⟨p, l, e, R, s, m, args, below, meth, c, kc, ks⟩ := E
  obtain ⟨hx, hb, -, hown, hts, -, -, -⟩ := id hE
  subst hp
  intro H locs ls hJ hS hl
  exact lv_aload hx hb hd (hl.at hv) (k H locs ls hJ hS hl)
theorem x_lload_n {i : Fin 4} {x : Int64} (hE : OK E cc nL own ret) (hd : decode cc pc = .ok (.lload_n i, 1)) (hp : pc' = pc + 1) (hv : lv[(i : Nat)]? = some (some (.long x))) (k : VV E nL A Q J pc' lv (.long x :: st)) : VV E nL A Q J pc lv (st) := by
  obtain ⟨p, l, e, R, s, m, args, below, meth, c, kc, ks⟩ := E
  obtain ⟨hx, hb, -, hown, hts, -, -, -⟩ := id hE
  subst hp
  intro H locs ls hJ hS hl
  exact lv_lload_n hx hb hd rfl (hl.at hv) (k H locs ls hJ hS hl)
theorem x_lload {i : Nat} {x : Int64} (hE : OK E cc nL own ret) (hd : decode cc pc = .ok (.lload i, 2)) (hp : pc' = pc + 2) (hv : lv[i]? = some (some (.long x))) (k : VV E nL A Q J pc' lv (.long x :: st)) : VV E nL A Q J pc lv (st) := by
  obtain ⟨p, l, e, R, s, m, args, below, meth, c, kc, ks⟩ := E
  obtain ⟨hx, hb, -, hown, hts, -, -, -⟩ := id hE
  subst hp
  intro H locs ls hJ hS hl
  exact lv_lload hx hb hd (hl.at hv) (k H locs ls hJ hS hl)
theorem x_istore_n {i : Fin 4} {x : Int32} (hE : OK E cc nL own ret) (hd : decode cc pc = .ok (.istore_n i, 1)) (hp : pc' = pc + 1) (hi : (i : Nat) < nL) (hc : catok lv i = true) (hv : lv.set (i : Nat) (some (.int x)) = lv') (k : VV E nL A Q J pc' lv' (st)) : VV E nL A Q J pc lv (.int x :: st) := by
  obtain ⟨p, l, e, R, s, m, args, below, meth, c, kc, ks⟩ := E
  obtain ⟨hx, hb, -, hown, hts, -, -, -⟩ := id hE
  subst hp
  intro H locs ls hJ hS hl
  subst hv
  exact lv_istore_n hx hb hd rfl hl.has hi rfl (fun ls' h' => k H locs ls' hJ hS (hl.put1 hi hc h'))
theorem x_istore {i : Nat} {x : Int32} (hE : OK E cc nL own ret) (hd : decode cc pc = .ok (.istore i, 2)) (hp : pc' = pc + 2) (hi : i < nL) (hc : catok lv i = true) (hv : lv.set i (some (.int x)) = lv') (k : VV E nL A Q J pc' lv' (st)) : VV E nL A Q J pc lv (.int x :: st) := by
  obtain ⟨p, l, e, R, s, m, args, below, meth, c, kc, ks⟩ := E
  obtain ⟨hx, hb, -, hown, hts, -, -, -⟩ := id hE
  subst hp
  intro H locs ls hJ hS hl
  subst hv
  exact lv_istore hx hb hd hl.has hi rfl (fun ls' h' => k H locs ls' hJ hS (hl.put1 hi hc h'))
theorem x_astore_n {i : Fin 4} {x : Nat} (hE : OK E cc nL own ret) (hd : decode cc pc = .ok (.astore_n i, 1)) (hp : pc' = pc + 1) (hi : (i : Nat) < nL) (hc : catok lv i = true) (hv : lv.set (i : Nat) (some (.ref x)) = lv') (k : VV E nL A Q J pc' lv' (st)) : VV E nL A Q J pc lv (.ref x :: st) := by
  obtain ⟨p, l, e, R, s, m, args, below, meth, c, kc, ks⟩ := E
  obtain ⟨hx, hb, -, hown, hts, -, -, -⟩ := id hE
  subst hp
  intro H locs ls hJ hS hl
  subst hv
  exact lv_astore_n hx hb hd rfl hl.has hi rfl (fun ls' h' => k H locs ls' hJ hS (hl.put1 hi hc h'))
theorem x_astore {i : Nat} {x : Nat} (hE : OK E cc nL own ret) (hd : decode cc pc = .ok (.astore i, 2)) (hp : pc' = pc + 2) (hi : i < nL) (hc : catok lv i = true) (hv : lv.set i (some (.ref x)) = lv') (k : VV E nL A Q J pc' lv' (st)) : VV E nL A Q J pc lv (.ref x :: st) := by
  obtain ⟨p, l, e, R, s, m, args, below, meth, c, kc, ks⟩ := E
  obtain ⟨hx, hb, -, hown, hts, -, -, -⟩ := id hE
  subst hp
  intro H locs ls hJ hS hl
  subst hv
  exact lv_astore hx hb hd hl.has hi rfl (fun ls' h' => k H locs ls' hJ hS (hl.put1 hi hc h'))
theorem x_lstore_n {i : Fin 4} {x : Int64} (hE : OK E cc nL own ret) (hd : decode cc pc = .ok (.lstore_n i, 1)) (hp : pc' = pc + 1) (hi : (i : Nat) + 1 < nL) (hc : catok lv i = true) (hv : (lv.set (i : Nat) (some (.long x))).set ((i : Nat) + 1) none = lv') (k : VV E nL A Q J pc' lv' (st)) : VV E nL A Q J pc lv (.long x :: st) := by
  obtain ⟨p, l, e, R, s, m, args, below, meth, c, kc, ks⟩ := E
  obtain ⟨hx, hb, -, hown, hts, -, -, -⟩ := id hE
  subst hp
  intro H locs ls hJ hS hl
  subst hv
  exact lv_lstore_n hx hb hd rfl hl.has hi rfl (fun ls' h' => k H locs ls' hJ hS (hl.put2 hi hc h'))
theorem lvL_get {lv : List (Option Value)} {i : Nat} {v : Value} (h : lv[i]? = some (some v)) : ∃ k : Nat, (lvL 0 lv)[k]? = some (i, v) := List.getElem?_of_mem ((lvL_mem lv 0 (i, v)).mpr ⟨i, by simp, h⟩)
theorem x_iinc {i : Nat} {n a : Int} (hE : OK E cc nL own ret) (hd : decode cc pc = .ok (.iinc i n, 3)) (hp : pc' = pc + 3) (hg : lv[i]? = some (some (.int (iN a)))) (hi : i < nL) (hc : catok lv i = true) (hv : lv.set i (some (.int (iN (a + n)))) = lv') (k : VV E nL A Q J pc' lv' (st)) : VV E nL A Q J pc lv (st) := by
  obtain ⟨p, l, e, R, s, m, args, below, meth, c, kc, ks⟩ := E
  obtain ⟨hx, hb, -, hown, hts, -, -, -⟩ := id hE
  subst hp
  intro H locs ls hJ hS hl
  subst hv
  obtain ⟨k9, hk9⟩ := lvL_get hg
  exact lv_iinc (v := iN (a + n)) hx hb hd hl.has hk9 (by rw [← iN_add]; rfl) hi rfl (fun ls' h' => k H locs ls' hJ hS (hl.put1 hi hc h'))
theorem x_iadd {a b : Int} (hE : OK E cc nL own ret) (hd : decode cc pc = .ok (.iadd, 1)) (hp : pc' = pc + 1) (k : VV E nL A Q J pc' lv (.int (iN (a + b)) :: st)) : VV E nL A Q J pc lv (.int (iN b) :: .int (iN a) :: st) := by
  obtain ⟨p, l, e, R, s, m, args, below, meth, c, kc, ks⟩ := E
  obtain ⟨hx, hb, -, hown, hts, -, -, -⟩ := id hE
  subst hp
  intro H locs ls hJ hS hl
  exact lv_iadd hx hb hd (by rw [iN_add]; exact k H locs ls hJ hS hl)
theorem x_isub {a b : Int} (hE : OK E cc nL own ret) (hd : decode cc pc = .ok (.isub, 1)) (hp : pc' = pc + 1) (k : VV E nL A Q J pc' lv (.int (iN (a - b)) :: st)) : VV E nL A Q J pc lv (.int (iN b) :: .int (iN a) :: st) := by
  obtain ⟨p, l, e, R, s, m, args, below, meth, c, kc, ks⟩ := E
  obtain ⟨hx, hb, -, hown, hts, -, -, -⟩ := id hE
  subst hp
  intro H locs ls hJ hS hl
  exact lv_isub hx hb hd (by rw [iN_sub]; exact k H locs ls hJ hS hl)
theorem x_imul {a b : Int} (hE : OK E cc nL own ret) (hd : decode cc pc = .ok (.imul, 1)) (hp : pc' = pc + 1) (k : VV E nL A Q J pc' lv (.int (iN (a * b)) :: st)) : VV E nL A Q J pc lv (.int (iN b) :: .int (iN a) :: st) := by
  obtain ⟨p, l, e, R, s, m, args, below, meth, c, kc, ks⟩ := E
  obtain ⟨hx, hb, -, hown, hts, -, -, -⟩ := id hE
  subst hp
  intro H locs ls hJ hS hl
  exact lv_imul hx hb hd (by rw [iN_mul]; exact k H locs ls hJ hS hl)
theorem x_idiv {a b : Int} (hE : OK E cc nL own ret) (hd : decode cc pc = .ok (.idiv, 1)) (hp : pc' = pc + 1) (ha : 0 ≤ a) (ha2 : a < 2147483648) (hb1 : 0 < b) (hb2 : b < 2147483648) (k : VV E nL A Q J pc' lv (.int (iN (a / b)) :: st)) : VV E nL A Q J pc lv (.int (iN b) :: .int (iN a) :: st) := by
  obtain ⟨p, l, e, R, s, m, args, below, meth, c, kc, ks⟩ := E
  obtain ⟨hx, hb, -, hown, hts, -, -, -⟩ := id hE
  subst hp
  intro H locs ls hJ hS hl
  refine lv_idiv hx hb hd (fun h9 => ?_) (by rw [iN_div ha ha2 hb1 hb2]; exact k H locs ls hJ hS hl)
  rw [iN_eq0 ⟨by omega, hb2⟩] at h9
  omega
theorem x_irem {a b : Int} (hE : OK E cc nL own ret) (hd : decode cc pc = .ok (.irem, 1)) (hp : pc' = pc + 1) (ha : 0 ≤ a) (ha2 : a < 2147483648) (hb1 : 0 < b) (hb2 : b < 2147483648) (k : VV E nL A Q J pc' lv (.int (iN (a % b)) :: st)) : VV E nL A Q J pc lv (.int (iN b) :: .int (iN a) :: st) := by
  obtain ⟨p, l, e, R, s, m, args, below, meth, c, kc, ks⟩ := E
  obtain ⟨hx, hb, -, hown, hts, -, -, -⟩ := id hE
  subst hp
  intro H locs ls hJ hS hl
  refine lv_irem hx hb hd (fun h9 => ?_) (by rw [iN_mod ha ha2 hb1 hb2]; exact k H locs ls hJ hS hl)
  rw [iN_eq0 ⟨by omega, hb2⟩] at h9
  omega
theorem x_iand {x y : Int32} (hE : OK E cc nL own ret) (hd : decode cc pc = .ok (.iand, 1)) (hp : pc' = pc + 1) (k : VV E nL A Q J pc' lv (.int (x &&& y) :: st)) : VV E nL A Q J pc lv (.int y :: .int x :: st) := by
  obtain ⟨p, l, e, R, s, m, args, below, meth, c, kc, ks⟩ := E
  obtain ⟨hx, hb, -, hown, hts, -, -, -⟩ := id hE
  subst hp
  intro H locs ls hJ hS hl
  exact lv_iand hx hb hd (k H locs ls hJ hS hl)
theorem x_ior {x y : Int32} (hE : OK E cc nL own ret) (hd : decode cc pc = .ok (.ior, 1)) (hp : pc' = pc + 1) (k : VV E nL A Q J pc' lv (.int (x ||| y) :: st)) : VV E nL A Q J pc lv (.int y :: .int x :: st) := by
  obtain ⟨p, l, e, R, s, m, args, below, meth, c, kc, ks⟩ := E
  obtain ⟨hx, hb, -, hown, hts, -, -, -⟩ := id hE
  subst hp
  intro H locs ls hJ hS hl
  exact lv_ior hx hb hd (k H locs ls hJ hS hl)
theorem x_ixor {x y : Int32} (hE : OK E cc nL own ret) (hd : decode cc pc = .ok (.ixor, 1)) (hp : pc' = pc + 1) (k : VV E nL A Q J pc' lv (.int (x ^^^ y) :: st)) : VV E nL A Q J pc lv (.int y :: .int x :: st) := by
  obtain ⟨p, l, e, R, s, m, args, below, meth, c, kc, ks⟩ := E
  obtain ⟨hx, hb, -, hown, hts, -, -, -⟩ := id hE
  subst hp
  intro H locs ls hJ hS hl
  exact lv_ixor hx hb hd (k H locs ls hJ hS hl)
theorem x_iaddR {x y : Int32} (hE : OK E cc nL own ret) (hd : decode cc pc = .ok (.iadd, 1)) (hp : pc' = pc + 1) (k : VV E nL A Q J pc' lv (.int (x + y) :: st)) : VV E nL A Q J pc lv (.int y :: .int x :: st) := by
  obtain ⟨p, l, e, R, s, m, args, below, meth, c, kc, ks⟩ := E
  obtain ⟨hx, hb, -, hown, hts, -, -, -⟩ := id hE
  subst hp
  intro H locs ls hJ hS hl
  exact lv_iadd hx hb hd (k H locs ls hJ hS hl)
theorem x_isubR {x y : Int32} (hE : OK E cc nL own ret) (hd : decode cc pc = .ok (.isub, 1)) (hp : pc' = pc + 1) (k : VV E nL A Q J pc' lv (.int (x - y) :: st)) : VV E nL A Q J pc lv (.int y :: .int x :: st) := by
  obtain ⟨p, l, e, R, s, m, args, below, meth, c, kc, ks⟩ := E
  obtain ⟨hx, hb, -, hown, hts, -, -, -⟩ := id hE
  subst hp
  intro H locs ls hJ hS hl
  exact lv_isub hx hb hd (k H locs ls hJ hS hl)
theorem x_imulR {x y : Int32} (hE : OK E cc nL own ret) (hd : decode cc pc = .ok (.imul, 1)) (hp : pc' = pc + 1) (k : VV E nL A Q J pc' lv (.int (x * y) :: st)) : VV E nL A Q J pc lv (.int y :: .int x :: st) := by
  obtain ⟨p, l, e, R, s, m, args, below, meth, c, kc, ks⟩ := E
  obtain ⟨hx, hb, -, hown, hts, -, -, -⟩ := id hE
  subst hp
  intro H locs ls hJ hS hl
  exact lv_imul hx hb hd (k H locs ls hJ hS hl)
theorem x_idivR {x y : Int32} (hE : OK E cc nL own ret) (hd : decode cc pc = .ok (.idiv, 1)) (hp : pc' = pc + 1) (hy : ¬ y = 0) (k : VV E nL A Q J pc' lv (.int (x / y) :: st)) : VV E nL A Q J pc lv (.int y :: .int x :: st) := by
  obtain ⟨p, l, e, R, s, m, args, below, meth, c, kc, ks⟩ := E
  obtain ⟨hx, hb, -, hown, hts, -, -, -⟩ := id hE
  subst hp
  intro H locs ls hJ hS hl
  exact lv_idiv hx hb hd hy (k H locs ls hJ hS hl)
theorem x_iremR {x y : Int32} (hE : OK E cc nL own ret) (hd : decode cc pc = .ok (.irem, 1)) (hp : pc' = pc + 1) (hy : ¬ y = 0) (k : VV E nL A Q J pc' lv (.int (x - x / y * y) :: st)) : VV E nL A Q J pc lv (.int y :: .int x :: st) := by
  obtain ⟨p, l, e, R, s, m, args, below, meth, c, kc, ks⟩ := E
  obtain ⟨hx, hb, -, hown, hts, -, -, -⟩ := id hE
  subst hp
  intro H locs ls hJ hS hl
  exact lv_irem hx hb hd hy (k H locs ls hJ hS hl)
theorem x_ishl {x y : Int32} (hE : OK E cc nL own ret) (hd : decode cc pc = .ok (.ishl, 1)) (hp : pc' = pc + 1) (k : VV E nL A Q J pc' lv (.int (x <<< (y &&& 31)) :: st)) : VV E nL A Q J pc lv (.int y :: .int x :: st) := by
  obtain ⟨p, l, e, R, s, m, args, below, meth, c, kc, ks⟩ := E
  obtain ⟨hx, hb, -, hown, hts, -, -, -⟩ := id hE
  subst hp
  intro H locs ls hJ hS hl
  exact lv_ishl hx hb hd (k H locs ls hJ hS hl)
theorem x_ishr {x y : Int32} (hE : OK E cc nL own ret) (hd : decode cc pc = .ok (.ishr, 1)) (hp : pc' = pc + 1) (k : VV E nL A Q J pc' lv (.int (x >>> (y &&& 31)) :: st)) : VV E nL A Q J pc lv (.int y :: .int x :: st) := by
  obtain ⟨p, l, e, R, s, m, args, below, meth, c, kc, ks⟩ := E
  obtain ⟨hx, hb, -, hown, hts, -, -, -⟩ := id hE
  subst hp
  intro H locs ls hJ hS hl
  exact lv_ishr hx hb hd (k H locs ls hJ hS hl)
theorem x_iushr {x y : Int32} (hE : OK E cc nL own ret) (hd : decode cc pc = .ok (.iushr, 1)) (hp : pc' = pc + 1) (k : VV E nL A Q J pc' lv (.int (x.toUInt32 >>> (y.toUInt32 &&& Int32.toUInt32 31)).toInt32 :: st)) : VV E nL A Q J pc lv (.int y :: .int x :: st) := by
  obtain ⟨p, l, e, R, s, m, args, below, meth, c, kc, ks⟩ := E
  obtain ⟨hx, hb, -, hown, hts, -, -, -⟩ := id hE
  subst hp
  intro H locs ls hJ hS hl
  exact lv_iushr hx hb hd rfl (k H locs ls hJ hS hl)
theorem x_i2l {a : Int} (hE : OK E cc nL own ret) (hd : decode cc pc = .ok (.i2l, 1)) (hp : pc' = pc + 1) (ha : inR a) (k : VV E nL A Q J pc' lv (.long (lL a) :: st)) : VV E nL A Q J pc lv (.int (iN a) :: st) := by
  obtain ⟨p, l, e, R, s, m, args, below, meth, c, kc, ks⟩ := E
  obtain ⟨hx, hb, -, hown, hts, -, -, -⟩ := id hE
  subst hp
  intro H locs ls hJ hS hl
  exact lv_i2l hx hb hd (lL_i ha) (k H locs ls hJ hS hl)
theorem x_l2i {a : Int} (hE : OK E cc nL own ret) (hd : decode cc pc = .ok (.l2i, 1)) (hp : pc' = pc + 1) (k : VV E nL A Q J pc' lv (.int (iN a) :: st)) : VV E nL A Q J pc lv (.long (lL a) :: st) := by
  obtain ⟨p, l, e, R, s, m, args, below, meth, c, kc, ks⟩ := E
  obtain ⟨hx, hb, -, hown, hts, -, -, -⟩ := id hE
  subst hp
  intro H locs ls hJ hS hl
  exact lv_l2i hx hb hd (lL_to32 a) (k H locs ls hJ hS hl)
theorem x_i2c {a : Int} (hE : OK E cc nL own ret) (hd : decode cc pc = .ok (.i2c, 1)) (hp : pc' = pc + 1) (hv : ((iN a).toUInt32 % 65536).toInt32 = iN a) (k : VV E nL A Q J pc' lv (.int (iN a) :: st)) : VV E nL A Q J pc lv (.int (iN a) :: st) := by
  obtain ⟨p, l, e, R, s, m, args, below, meth, c, kc, ks⟩ := E
  obtain ⟨hx, hb, -, hown, hts, -, -, -⟩ := id hE
  subst hp
  intro H locs ls hJ hS hl
  exact lv_i2c hx hb hd hv (k H locs ls hJ hS hl)
theorem x_i2b {a : Int} (hE : OK E cc nL own ret) (hd : decode cc pc = .ok (.i2b, 1)) (hp : pc' = pc + 1) (hv : (iN a).toInt8.toInt32 = iN a) (k : VV E nL A Q J pc' lv (.int (iN a) :: st)) : VV E nL A Q J pc lv (.int (iN a) :: st) := by
  obtain ⟨p, l, e, R, s, m, args, below, meth, c, kc, ks⟩ := E
  obtain ⟨hx, hb, -, hown, hts, -, -, -⟩ := id hE
  subst hp
  intro H locs ls hJ hS hl
  exact lv_i2b hx hb hd hv (k H locs ls hJ hS hl)
theorem x_ladd {x y : Int64} (hE : OK E cc nL own ret) (hd : decode cc pc = .ok (.ladd, 1)) (hp : pc' = pc + 1) (k : VV E nL A Q J pc' lv (.long (x + y) :: st)) : VV E nL A Q J pc lv (.long y :: .long x :: st) := by
  obtain ⟨p, l, e, R, s, m, args, below, meth, c, kc, ks⟩ := E
  obtain ⟨hx, hb, -, hown, hts, -, -, -⟩ := id hE
  subst hp
  intro H locs ls hJ hS hl
  exact lv_ladd hx hb hd (k H locs ls hJ hS hl)
theorem x_lmul {x y : Int64} (hE : OK E cc nL own ret) (hd : decode cc pc = .ok (.lmul, 1)) (hp : pc' = pc + 1) (k : VV E nL A Q J pc' lv (.long (x * y) :: st)) : VV E nL A Q J pc lv (.long y :: .long x :: st) := by
  obtain ⟨p, l, e, R, s, m, args, below, meth, c, kc, ks⟩ := E
  obtain ⟨hx, hb, -, hown, hts, -, -, -⟩ := id hE
  subst hp
  intro H locs ls hJ hS hl
  exact lv_lmul hx hb hd (k H locs ls hJ hS hl)
theorem x_land {x y : Int64} (hE : OK E cc nL own ret) (hd : decode cc pc = .ok (.land, 1)) (hp : pc' = pc + 1) (k : VV E nL A Q J pc' lv (.long (x &&& y) :: st)) : VV E nL A Q J pc lv (.long y :: .long x :: st) := by
  obtain ⟨p, l, e, R, s, m, args, below, meth, c, kc, ks⟩ := E
  obtain ⟨hx, hb, -, hown, hts, -, -, -⟩ := id hE
  subst hp
  intro H locs ls hJ hS hl
  exact lv_land hx hb hd (k H locs ls hJ hS hl)
theorem x_ldiv {a b : Int} (hE : OK E cc nL own ret) (hd : decode cc pc = .ok (.ldiv, 1)) (hp : pc' = pc + 1) (ha : 0 ≤ a) (ha2 : a < 9223372036854775808) (hb1 : 0 < b) (hb2 : b < 9223372036854775808) (k : VV E nL A Q J pc' lv (.long (lL (a / b)) :: st)) : VV E nL A Q J pc lv (.long (lL b) :: .long (lL a) :: st) := by
  obtain ⟨p, l, e, R, s, m, args, below, meth, c, kc, ks⟩ := E
  obtain ⟨hx, hb, -, hown, hts, -, -, -⟩ := id hE
  subst hp
  intro H locs ls hJ hS hl
  refine lv_ldiv hx hb hd (fun h9 => ?_) (by rw [lL_div ha ha2 hb1 hb2]; exact k H locs ls hJ hS hl)
  have h8 := congrArg Int64.toInt h9
  rw [lL_toInt ⟨by omega, hb2⟩, show ((0 : Int64)).toInt = 0 by decide +kernel] at h8
  omega
theorem x_lrem {a b : Int} (hE : OK E cc nL own ret) (hd : decode cc pc = .ok (.lrem, 1)) (hp : pc' = pc + 1) (ha : 0 ≤ a) (ha2 : a < 9223372036854775808) (hb1 : 0 < b) (hb2 : b < 9223372036854775808) (k : VV E nL A Q J pc' lv (.long (lL (a % b)) :: st)) : VV E nL A Q J pc lv (.long (lL b) :: .long (lL a) :: st) := by
  obtain ⟨p, l, e, R, s, m, args, below, meth, c, kc, ks⟩ := E
  obtain ⟨hx, hb, -, hown, hts, -, -, -⟩ := id hE
  subst hp
  intro H locs ls hJ hS hl
  refine lv_lrem hx hb hd (fun h9 => ?_) (by rw [lL_mod ha ha2 hb1 hb2]; exact k H locs ls hJ hS hl)
  have h8 := congrArg Int64.toInt h9
  rw [lL_toInt ⟨by omega, hb2⟩, show ((0 : Int64)).toInt = 0 by decide +kernel] at h8
  omega
theorem x_dup {va : Value} (hE : OK E cc nL own ret) (hd : decode cc pc = .ok (.dup, 1)) (hp : pc' = pc + 1) (hv : va.category = 1) (k : VV E nL A Q J pc' lv (va :: va :: st)) : VV E nL A Q J pc lv (va :: st) := by
  obtain ⟨p, l, e, R, s, m, args, below, meth, c, kc, ks⟩ := E
  obtain ⟨hx, hb, -, hown, hts, -, -, -⟩ := id hE
  subst hp
  intro H locs ls hJ hS hl
  exact lv_dup hx hb hd hv (k H locs ls hJ hS hl)
theorem x_pop {va : Value} (hE : OK E cc nL own ret) (hd : decode cc pc = .ok (.pop, 1)) (hp : pc' = pc + 1) (hv : va.category = 1) (k : VV E nL A Q J pc' lv (st)) : VV E nL A Q J pc lv (va :: st) := by
  obtain ⟨p, l, e, R, s, m, args, below, meth, c, kc, ks⟩ := E
  obtain ⟨hx, hb, -, hown, hts, -, -, -⟩ := id hE
  subst hp
  intro H locs ls hJ hS hl
  exact lv_pop hx hb hd hv (k H locs ls hJ hS hl)
theorem x_dup_x1 {va vb : Value} (hE : OK E cc nL own ret) (hd : decode cc pc = .ok (.dup_x1, 1)) (hp : pc' = pc + 1) (hv : va.category = 1) (hw : vb.category = 1) (k : VV E nL A Q J pc' lv (va :: vb :: va :: st)) : VV E nL A Q J pc lv (va :: vb :: st) := by
  obtain ⟨p, l, e, R, s, m, args, below, meth, c, kc, ks⟩ := E
  obtain ⟨hx, hb, -, hown, hts, -, -, -⟩ := id hE
  subst hp
  intro H locs ls hJ hS hl
  exact lv_dup_x1 hx hb hd hv hw (k H locs ls hJ hS hl)
theorem x_dup2 {va vb : Value} (hE : OK E cc nL own ret) (hd : decode cc pc = .ok (.dup2, 1)) (hp : pc' = pc + 1) (hv : va.category = 1) (hw : vb.category = 1) (k : VV E nL A Q J pc' lv (va :: vb :: va :: vb :: st)) : VV E nL A Q J pc lv (va :: vb :: st) := by
  obtain ⟨p, l, e, R, s, m, args, below, meth, c, kc, ks⟩ := E
  obtain ⟨hx, hb, -, hown, hts, -, -, -⟩ := id hE
  subst hp
  intro H locs ls hJ hS hl
  exact lv_dup2_11 hx hb hd hv hw (k H locs ls hJ hS hl)
theorem x_goto {off : Int} (hE : OK E cc nL own ret) (hd : decode cc pc = .ok (.goto off, 3)) (ht : (pc : Int) + off = (tgt : Int)) (k : VV E nL A Q J tgt lv st) : VV E nL A Q J pc lv st := by
  obtain ⟨p, l, e, R, s, m, args, below, meth, c, kc, ks⟩ := E
  obtain ⟨hx, hb, -, hown, hts, -, -, -⟩ := id hE
  intro H locs ls hJ hS hl
  exact lv_goto hx hb hd ht (k H locs ls hJ hS hl)
theorem x_ifeq {a : Int} {off : Int} (hE : OK E cc nL own ret) (hd : decode cc pc = .ok (.ifCond .eq off, 3)) (ht : (pc : Int) + off = (tgt : Int)) (hp : pc' = pc + 3) (ha : inR a) (kt : a = 0 → VV E nL A Q J tgt lv st) (kf : ¬ a = 0 → VV E nL A Q J pc' lv st) : VV E nL A Q J pc lv (.int (iN a) :: st) := by
  obtain ⟨p, l, e, R, s, m, args, below, meth, c, kc, ks⟩ := E
  obtain ⟨hx, hb, -, hown, hts, -, -, -⟩ := id hE
  subst hp
  intro H locs ls hJ hS hl
  exact lv_if_eq hx hb hd ht (fun h9 => kt ((iN_eq0 ha).mp h9) H locs ls hJ hS hl) (fun h9 => kf (fun z => h9 ((iN_eq0 ha).mpr z)) H locs ls hJ hS hl)
theorem x_ifne {a : Int} {off : Int} (hE : OK E cc nL own ret) (hd : decode cc pc = .ok (.ifCond .ne off, 3)) (ht : (pc : Int) + off = (tgt : Int)) (hp : pc' = pc + 3) (ha : inR a) (kt : ¬ a = 0 → VV E nL A Q J tgt lv st) (kf : a = 0 → VV E nL A Q J pc' lv st) : VV E nL A Q J pc lv (.int (iN a) :: st) := by
  obtain ⟨p, l, e, R, s, m, args, below, meth, c, kc, ks⟩ := E
  obtain ⟨hx, hb, -, hown, hts, -, -, -⟩ := id hE
  subst hp
  intro H locs ls hJ hS hl
  exact lv_if_ne hx hb hd ht (fun h9 => kt (fun z => h9 ((iN_eq0 ha).mpr z)) H locs ls hJ hS hl) (fun h9 => kf (by first | exact (iN_eq0 ha).mp h9 | exact (iN_eq0 ha).mp (Decidable.not_not.mp h9)) H locs ls hJ hS hl)
theorem x_iflt {a : Int} {off : Int} (hE : OK E cc nL own ret) (hd : decode cc pc = .ok (.ifCond .lt off, 3)) (ht : (pc : Int) + off = (tgt : Int)) (hp : pc' = pc + 3) (ha : inR a) (kt : a < 0 → VV E nL A Q J tgt lv st) (kf : 0 ≤ a → VV E nL A Q J pc' lv st) : VV E nL A Q J pc lv (.int (iN a) :: st) := by
  obtain ⟨p, l, e, R, s, m, args, below, meth, c, kc, ks⟩ := E
  obtain ⟨hx, hb, -, hown, hts, -, -, -⟩ := id hE
  subst hp
  intro H locs ls hJ hS hl
  exact lv_if_lt hx hb hd ht (fun h9 => kt (by rw [iN_0, iN_lt ha inR_0] at h9; exact h9) H locs ls hJ hS hl) (fun h9 => kf (by rw [iN_0, iN_lt ha inR_0] at h9; omega) H locs ls hJ hS hl)
theorem x_ifge {a : Int} {off : Int} (hE : OK E cc nL own ret) (hd : decode cc pc = .ok (.ifCond .ge off, 3)) (ht : (pc : Int) + off = (tgt : Int)) (hp : pc' = pc + 3) (ha : inR a) (kt : 0 ≤ a → VV E nL A Q J tgt lv st) (kf : a < 0 → VV E nL A Q J pc' lv st) : VV E nL A Q J pc lv (.int (iN a) :: st) := by
  obtain ⟨p, l, e, R, s, m, args, below, meth, c, kc, ks⟩ := E
  obtain ⟨hx, hb, -, hown, hts, -, -, -⟩ := id hE
  subst hp
  intro H locs ls hJ hS hl
  exact lv_if_ge hx hb hd ht (fun h9 => kt (by rw [iN_0, iN_le inR_0 ha] at h9; exact h9) H locs ls hJ hS hl) (fun h9 => kf (by rw [iN_0, iN_le inR_0 ha] at h9; omega) H locs ls hJ hS hl)
theorem x_ifgt {a : Int} {off : Int} (hE : OK E cc nL own ret) (hd : decode cc pc = .ok (.ifCond .gt off, 3)) (ht : (pc : Int) + off = (tgt : Int)) (hp : pc' = pc + 3) (ha : inR a) (kt : 0 < a → VV E nL A Q J tgt lv st) (kf : a ≤ 0 → VV E nL A Q J pc' lv st) : VV E nL A Q J pc lv (.int (iN a) :: st) := by
  obtain ⟨p, l, e, R, s, m, args, below, meth, c, kc, ks⟩ := E
  obtain ⟨hx, hb, -, hown, hts, -, -, -⟩ := id hE
  subst hp
  intro H locs ls hJ hS hl
  exact lv_if_gt hx hb hd ht (fun h9 => kt (by rw [iN_0, iN_lt inR_0 ha] at h9; exact h9) H locs ls hJ hS hl) (fun h9 => kf (by rw [iN_0, iN_lt inR_0 ha] at h9; omega) H locs ls hJ hS hl)
theorem x_ifle {a : Int} {off : Int} (hE : OK E cc nL own ret) (hd : decode cc pc = .ok (.ifCond .le off, 3)) (ht : (pc : Int) + off = (tgt : Int)) (hp : pc' = pc + 3) (ha : inR a) (kt : a ≤ 0 → VV E nL A Q J tgt lv st) (kf : 0 < a → VV E nL A Q J pc' lv st) : VV E nL A Q J pc lv (.int (iN a) :: st) := by
  obtain ⟨p, l, e, R, s, m, args, below, meth, c, kc, ks⟩ := E
  obtain ⟨hx, hb, -, hown, hts, -, -, -⟩ := id hE
  subst hp
  intro H locs ls hJ hS hl
  exact lv_if_le hx hb hd ht (fun h9 => kt (by rw [iN_0, iN_le ha inR_0] at h9; exact h9) H locs ls hJ hS hl) (fun h9 => kf (by rw [iN_0, iN_le ha inR_0] at h9; omega) H locs ls hJ hS hl)
theorem x_icmpeq {a b : Int} {off : Int} (hE : OK E cc nL own ret) (hd : decode cc pc = .ok (.if_icmp .eq off, 3)) (ht : (pc : Int) + off = (tgt : Int)) (hp : pc' = pc + 3) (ha : inR a) (hb1 : inR b) (kt : a = b → VV E nL A Q J tgt lv st) (kf : ¬ a = b → VV E nL A Q J pc' lv st) : VV E nL A Q J pc lv (.int (iN b) :: .int (iN a) :: st) := by
  obtain ⟨p, l, e, R, s, m, args, below, meth, c, kc, ks⟩ := E
  obtain ⟨hx, hb, -, hown, hts, -, -, -⟩ := id hE
  subst hp
  intro H locs ls hJ hS hl
  exact lv_icmp_eq hx hb hd ht (fun h9 => kt ((iN_inj ha hb1).mp h9) H locs ls hJ hS hl) (fun h9 => kf (fun z => h9 ((iN_inj ha hb1).mpr z)) H locs ls hJ hS hl)
theorem x_icmpne {a b : Int} {off : Int} (hE : OK E cc nL own ret) (hd : decode cc pc = .ok (.if_icmp .ne off, 3)) (ht : (pc : Int) + off = (tgt : Int)) (hp : pc' = pc + 3) (ha : inR a) (hb1 : inR b) (kt : ¬ a = b → VV E nL A Q J tgt lv st) (kf : a = b → VV E nL A Q J pc' lv st) : VV E nL A Q J pc lv (.int (iN b) :: .int (iN a) :: st) := by
  obtain ⟨p, l, e, R, s, m, args, below, meth, c, kc, ks⟩ := E
  obtain ⟨hx, hb, -, hown, hts, -, -, -⟩ := id hE
  subst hp
  intro H locs ls hJ hS hl
  exact lv_icmp_ne hx hb hd ht (fun h9 => kt (fun z => h9 ((iN_inj ha hb1).mpr z)) H locs ls hJ hS hl) (fun h9 => kf (by first | exact (iN_inj ha hb1).mp h9 | exact (iN_inj ha hb1).mp (Decidable.not_not.mp h9)) H locs ls hJ hS hl)
theorem x_icmplt {a b : Int} {off : Int} (hE : OK E cc nL own ret) (hd : decode cc pc = .ok (.if_icmp .lt off, 3)) (ht : (pc : Int) + off = (tgt : Int)) (hp : pc' = pc + 3) (ha : inR a) (hb1 : inR b) (kt : a < b → VV E nL A Q J tgt lv st) (kf : b ≤ a → VV E nL A Q J pc' lv st) : VV E nL A Q J pc lv (.int (iN b) :: .int (iN a) :: st) := by
  obtain ⟨p, l, e, R, s, m, args, below, meth, c, kc, ks⟩ := E
  obtain ⟨hx, hb, -, hown, hts, -, -, -⟩ := id hE
  subst hp
  intro H locs ls hJ hS hl
  exact lv_icmp_lt hx hb hd ht (fun h9 => kt (by rw [iN_lt ha hb1] at h9; exact h9) H locs ls hJ hS hl) (fun h9 => kf (by rw [iN_lt ha hb1] at h9; omega) H locs ls hJ hS hl)
theorem x_icmpge {a b : Int} {off : Int} (hE : OK E cc nL own ret) (hd : decode cc pc = .ok (.if_icmp .ge off, 3)) (ht : (pc : Int) + off = (tgt : Int)) (hp : pc' = pc + 3) (ha : inR a) (hb1 : inR b) (kt : b ≤ a → VV E nL A Q J tgt lv st) (kf : a < b → VV E nL A Q J pc' lv st) : VV E nL A Q J pc lv (.int (iN b) :: .int (iN a) :: st) := by
  obtain ⟨p, l, e, R, s, m, args, below, meth, c, kc, ks⟩ := E
  obtain ⟨hx, hb, -, hown, hts, -, -, -⟩ := id hE
  subst hp
  intro H locs ls hJ hS hl
  exact lv_icmp_ge hx hb hd ht (fun h9 => kt (by first | (rw [ge_iff_le, iN_le hb1 ha] at h9; exact h9) | (rw [iN_le hb1 ha] at h9; exact h9)) H locs ls hJ hS hl) (fun h9 => kf (by first | (rw [ge_iff_le, iN_le hb1 ha] at h9; omega) | (rw [iN_le hb1 ha] at h9; omega)) H locs ls hJ hS hl)
theorem x_icmpgt {a b : Int} {off : Int} (hE : OK E cc nL own ret) (hd : decode cc pc = .ok (.if_icmp .gt off, 3)) (ht : (pc : Int) + off = (tgt : Int)) (hp : pc' = pc + 3) (ha : inR a) (hb1 : inR b) (kt : b < a → VV E nL A Q J tgt lv st) (kf : a ≤ b → VV E nL A Q J pc' lv st) : VV E nL A Q J pc lv (.int (iN b) :: .int (iN a) :: st) := by
  obtain ⟨p, l, e, R, s, m, args, below, meth, c, kc, ks⟩ := E
  obtain ⟨hx, hb, -, hown, hts, -, -, -⟩ := id hE
  subst hp
  intro H locs ls hJ hS hl
  exact lv_icmp_gt hx hb hd ht (fun h9 => kt (by first | (rw [gt_iff_lt, iN_lt hb1 ha] at h9; exact h9) | (rw [iN_lt hb1 ha] at h9; exact h9)) H locs ls hJ hS hl) (fun h9 => kf (by first | (rw [gt_iff_lt, iN_lt hb1 ha] at h9; omega) | (rw [iN_lt hb1 ha] at h9; omega)) H locs ls hJ hS hl)
theorem x_icmple {a b : Int} {off : Int} (hE : OK E cc nL own ret) (hd : decode cc pc = .ok (.if_icmp .le off, 3)) (ht : (pc : Int) + off = (tgt : Int)) (hp : pc' = pc + 3) (ha : inR a) (hb1 : inR b) (kt : a ≤ b → VV E nL A Q J tgt lv st) (kf : b < a → VV E nL A Q J pc' lv st) : VV E nL A Q J pc lv (.int (iN b) :: .int (iN a) :: st) := by
  obtain ⟨p, l, e, R, s, m, args, below, meth, c, kc, ks⟩ := E
  obtain ⟨hx, hb, -, hown, hts, -, -, -⟩ := id hE
  subst hp
  intro H locs ls hJ hS hl
  exact lv_icmp_le hx hb hd ht (fun h9 => kt (by rw [iN_le ha hb1] at h9; exact h9) H locs ls hJ hS hl) (fun h9 => kf (by rw [iN_le ha hb1] at h9; omega) H locs ls hJ hS hl)
theorem x_ifeqB {b : Bool} {off : Int} (hE : OK E cc nL own ret) (hd : decode cc pc = .ok (.ifCond .eq off, 3)) (ht : (pc : Int) + off = (tgt : Int)) (hp : pc' = pc + 3) (kt : b = false → VV E nL A Q J tgt lv st) (kf : b = true → VV E nL A Q J pc' lv st) : VV E nL A Q J pc lv (.int (bI b) :: st) := by
  obtain ⟨p, l, e, R, s, m, args, below, meth, c, kc, ks⟩ := E
  obtain ⟨hx, hb, -, hown, hts, -, -, -⟩ := id hE
  subst hp
  intro H locs ls hJ hS hl
  exact lv_if_eq hx hb hd ht (fun h9 => kt ((bI_eq0 b).mp h9) H locs ls hJ hS hl) (fun h9 => kf (by cases b; exact absurd rfl h9; rfl) H locs ls hJ hS hl)
theorem x_ifneB {b : Bool} {off : Int} (hE : OK E cc nL own ret) (hd : decode cc pc = .ok (.ifCond .ne off, 3)) (ht : (pc : Int) + off = (tgt : Int)) (hp : pc' = pc + 3) (kt : b = true → VV E nL A Q J tgt lv st) (kf : b = false → VV E nL A Q J pc' lv st) : VV E nL A Q J pc lv (.int (bI b) :: st) := by
  obtain ⟨p, l, e, R, s, m, args, below, meth, c, kc, ks⟩ := E
  obtain ⟨hx, hb, -, hown, hts, -, -, -⟩ := id hE
  subst hp
  intro H locs ls hJ hS hl
  exact lv_if_ne hx hb hd ht (fun h9 => kt (by cases b; exact absurd rfl h9; rfl) H locs ls hJ hS hl) (fun h9 => kf (by first | exact (bI_eq0 b).mp h9 | exact (bI_eq0 b).mp (Decidable.not_not.mp h9)) H locs ls hJ hS hl)
theorem x_icmpeqB {b d : Bool} {off : Int} (hE : OK E cc nL own ret) (hd : decode cc pc = .ok (.if_icmp .eq off, 3)) (ht : (pc : Int) + off = (tgt : Int)) (hp : pc' = pc + 3) (kt : b = d → VV E nL A Q J tgt lv st) (kf : ¬ b = d → VV E nL A Q J pc' lv st) : VV E nL A Q J pc lv (.int (bI d) :: .int (bI b) :: st) := by
  obtain ⟨p, l, e, R, s, m, args, below, meth, c, kc, ks⟩ := E
  obtain ⟨hx, hb, -, hown, hts, -, -, -⟩ := id hE
  subst hp
  intro H locs ls hJ hS hl
  exact lv_icmp_eq hx hb hd ht (fun h9 => kt (by cases b <;> cases d <;> first | rfl | (exact absurd h9 (by decide +kernel)) | (intro z; cases z) | (exact fun z => absurd rfl h9)) H locs ls hJ hS hl) (fun h9 => kf (by cases b <;> cases d <;> first | rfl | (exact absurd h9 (by decide +kernel)) | (intro z; cases z) | (exact fun z => absurd rfl h9) | (exact absurd (by decide +kernel) h9)) H locs ls hJ hS hl)
theorem x_icmpneB {b d : Bool} {off : Int} (hE : OK E cc nL own ret) (hd : decode cc pc = .ok (.if_icmp .ne off, 3)) (ht : (pc : Int) + off = (tgt : Int)) (hp : pc' = pc + 3) (kt : ¬ b = d → VV E nL A Q J tgt lv st) (kf : b = d → VV E nL A Q J pc' lv st) : VV E nL A Q J pc lv (.int (bI d) :: .int (bI b) :: st) := by
  obtain ⟨p, l, e, R, s, m, args, below, meth, c, kc, ks⟩ := E
  obtain ⟨hx, hb, -, hown, hts, -, -, -⟩ := id hE
  subst hp
  intro H locs ls hJ hS hl
  exact lv_icmp_ne hx hb hd ht (fun h9 => kt (by cases b <;> cases d <;> first | rfl | (exact absurd h9 (by decide +kernel)) | (intro z; cases z) | (exact fun z => absurd rfl h9)) H locs ls hJ hS hl) (fun h9 => kf (by cases b <;> cases d <;> first | rfl | (exact absurd h9 (by decide +kernel)) | (intro z; cases z) | (exact fun z => absurd rfl h9) | (exact absurd (by decide +kernel) h9)) H locs ls hJ hS hl)
theorem x_tabIn {dflt lo hi : Int} {offs : Array Int} {len : Nat} {a off : Int} (hE : OK E cc nL own ret) (hd : decode cc pc = .ok (.tableswitch dflt lo hi offs, len)) (ha : inR a) (h1 : lo ≤ a) (h2 : a ≤ hi) (ho : offs[(a - lo).toNat]? = some off) (ht : (pc : Int) + off = (tgt : Int)) (k : VV E nL A Q J tgt lv st) : VV E nL A Q J pc lv (.int (iN a) :: st) := by
  obtain ⟨p, l, e, R, s, m, args, below, meth, c, kc, ks⟩ := E
  obtain ⟨hx, hb, -, hown, hts, -, -, -⟩ := id hE
  intro H locs ls hJ hS hl
  exact lv_tableIn hx hb hd (by rw [iN_toInt ha]; omega) (by rw [iN_toInt ha]; omega) (by rw [iN_toInt ha]; exact ho) ht (k H locs ls hJ hS hl)
theorem x_tabOut {dflt lo hi : Int} {offs : Array Int} {len : Nat} {a : Int} (hE : OK E cc nL own ret) (hd : decode cc pc = .ok (.tableswitch dflt lo hi offs, len)) (ha : inR a) (h1 : a < lo ∨ hi < a) (ht : (pc : Int) + dflt = (tgt : Int)) (k : VV E nL A Q J tgt lv st) : VV E nL A Q J pc lv (.int (iN a) :: st) := by
  obtain ⟨p, l, e, R, s, m, args, below, meth, c, kc, ks⟩ := E
  obtain ⟨hx, hb, -, hown, hts, -, -, -⟩ := id hE
  intro H locs ls hJ hS hl
  exact lv_tableOut hx hb hd (by rw [iN_toInt ha]; exact h1) ht (k H locs ls hJ hS hl)
end XR
