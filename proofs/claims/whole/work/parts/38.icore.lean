/-! constructors: a walk that makes cells, over a list of cells -/
def Ai (h0 sz : Nat) : Nat → Prop := fun q => q = h0 ∨ sz ≤ q
def Ek (E : EV) (a b : Nat) : EV := match E with
  | (p, l, e, R, s, m, args, below, meth, c, _, _) => (p, l, e, R, s, m, args, below, meth, c, a, b)
/-- the classes of arrays: int, boolean, char, of Pack, of Flock, byte -/
abbrev AT : Type := ClassId × ClassId × ClassId × ClassId × ClassId × ClassId
def tyA (T : AT) : List (ClassId × FieldType) := match T with
  | (cI, cZ, cC, cP, cF, cB) => [(cI, .int), (cZ, .boolean), (cC, .char), (cP, .object "WolfCalendar$Pack"), (cF, .object "WolfCalendar$Flock"), (cB, .byte)]
def SK (ek : Nat → Nat) (A : Nat → Prop) (U : State) (H : Heap) : Prop := va_En "WolfCalendar$Kind" "LWolfCalendar$Kind;" KN KF ek A U H ∧ va_AO "WolfCalendar$Pack" U ∧ va_AO "WolfCalendar$Flock" U
theorem SK.moved {ek : Nat → Nat} {A : Nat → Prop} {u U : State} {H : Heap} (hvm : u.vm.Alike U.vm) (h : SK ek A u H) : SK ek A U H := ⟨va_En.moved hvm h.1, va_AO.moved hvm h.2.1, va_AO.moved hvm h.2.2⟩
theorem SK.kept {ek : Nat → Nat} {A : Nat → Prop} {U : State} {H H1 : Heap} (h : SK ek A U H) (hq : ∀ a : Nat, a < H.size → ¬ A a → H1[a]? = H[a]?) : SK ek A U H1 := ⟨va_En.kept h.1 hq, h.2⟩
theorem SK.less {ek : Nat → Nat} {A B : Nat → Prop} {U : State} {H : Heap} (h : SK ek A U H) (hAB : ∀ q, B q → A q) : SK ek B U H := ⟨va_En.narrow h.1 hAB, h.2⟩
def KE (D : va_G) (T : AT) (ek : Nat → Nat) (A : Nat → Prop) (E : EV) : Prop := match E with
  | (_, _, _, _, s, _, _, _, _, _, _, _) => va_K D vwCl (tyA T) s ∧ SK ek A s s.heap ∧ ∀ q, s.heap.size ≤ q → A q
def MN (E : EV) : Prop := match E with
  | (_, _, _, _, _, _, _, _, meth, _, _, _) => meth.name = "<init>"
def JL (D : va_G) (A : Nat → Prop) (ws : va_W) : Heap → Prop := fun H => va_P D vwCl ws H ∧ va_D A ws
def rmI (d c n : Nat) : Room := { frames := d, cells := c, slots := n, locals := 41 * d + 41 }
def QI (D : va_G) (A : Nat → Prop) (post : va_W → Prop) : Array Value → State → Outcome → State → Prop := fun _ st o t => o = .returned none ∧ (∃ w1 : va_W, post w1 ∧ va_P D vwCl w1 t.heap ∧ va_D A w1) ∧ va_F A st t
def Qi (D : va_G) (A : Nat → Prop) (post : va_W → Prop) (mc ms : Nat) (E : EV) : State → Prop := match E with
  | (_, _, _, _, s, _, args, below, _, _, _, _) => MQ below (QI D A post) args s mc ms A
/-- a constructor: the new object's cell is e0; behind it the world is one of post -/
def Ini (l : Launch) (D : va_G) (T : AT) (ek : Nat → Nat) (y : MethodName) (cd : Cond) (d mc ms : Nat) (e0 : va_E) (post : Nat → va_W → Prop) : Prop :=
  ∀ h0 sz : Nat, Met l y (cd :: TW) (rmI d mc ms) (va_Pc [.ref h0] (fun U => U.heap.size = sz ∧ va_P D vwCl [(h0, e0)] U.heap ∧ va_K D vwCl (tyA T) U ∧ NW U ∧ SK ek (Ai h0 sz) U U.heap)) (QI D (Ai h0 sz) (post h0)) mc ms (Ai h0 sz)
theorem va_RA_inj {U : State} {a b : ClassId} {ty : FieldType} (h : va_RA U a ty) (h2 : va_RA U b ty) : a = b := by
  cases ty with
  | object C =>
    obtain ⟨_, _, _, _, _, h3⟩ := h
    obtain ⟨_, _, _, _, _, h4⟩ := h2
    exact Option.some.inj (h3.symm.trans h4)
  | _ => exact Option.some.inj (Eq.trans (Eq.symm (show U.vm.findClass _ = some a from h)) (show U.vm.findClass _ = some b from h2))
theorem dv_i : defaultValue .int = .int (iN 0) := by rw [← iN_0]; rfl
theorem dv_z : defaultValue .boolean = .int (iN 0) := by rw [← iN_0]; rfl
theorem dv_c : defaultValue .char = .int (iN 0) := by rw [← iN_0]; rfl
theorem dv_b : defaultValue .byte = .int (iN 0) := by rw [← iN_0]; rfl
theorem dv_l : defaultValue .long = .long (lL 0) := by rw [show lL 0 = 0 from by decide +kernel]; rfl
section IR
variable {E : EV} {cc : ByteArray} {nL : Nat} {own : String} {ret : Option FieldType} {A : Nat → Prop} {Q : State → Prop} {J : Heap → Prop} {pc pc' a b a' b' idx : Nat} {lv : List (Option Value)} {st : List Value} {D : va_G} {T : AT} {ek : Nat → Nat} {ws : va_W} {l : Launch}
theorem i_ok (h : OK E cc nL own ret) (ha : a ≤ (ER E).cells) (hb : b ≤ (ER E).slots) : OK (Ek E a b) cc nL own ret := by
  obtain ⟨p, l0, e, R, s, m, args, below, meth, c, kc, ks⟩ := E
  obtain ⟨h1, h2, h3, h4, h5, h6, h7, h8, -, -⟩ := h
  exact ⟨h1, h2, h3, h4, h5, h6, h7, h8, ha, hb⟩
theorem i_new {ci N : Nat} {C : String} {TT : u_T} {ty : Nat → FieldType} {fs : List Value} (hE : OK (Ek E a b) cc nL own ret) (hK : KE D T ek A E) (hcl : vwCl[ci]? = some (C, TT, N)) (hin : ∀ w ∈ u_ws C TT N, w ∈ TW) (hty : ∀ k, k < N → parseFieldDescriptor (TT k).2.2.1 = some (ty k)) (hfs : ∀ j, j < N → defaultValue (ty j) = vp_V fs j) (hw : Cond.classLink own idx C ∈ TW) (ho : Cond.instantiable C N ∈ TW) (hn : Cond.initialized C ∈ TW) (ha : a' = a + 1) (hb : b' = b + N) (hra : a' ≤ (ER E).cells) (hrb : b' ≤ (ER E).slots) (hd : decode cc pc = .ok (.new idx, 3)) (hp : pc' = pc + 3)
    (k : ∀ q : Nat, VV (Ek E a' b') nL A Q (JL D A (ws ++ [(q, .inr (ci, fs))])) pc' lv (.ref q :: st)) : VV (Ek E a b) nL A Q (JL D A ws) pc lv st := by
  obtain ⟨p, l0, e, R, s, m, args, below, meth, c, kc, ks⟩ := E
  obtain ⟨hx, hb9, hml, hown, hts, hN, hlocks, hret, hkc, hks⟩ := id hE
  subst hp; subst ha; subst hb
  intro H locs ls hJ hS hlv
  exact va_new hx hb9 hts hin ty hty hown (hts _ hw) (hts _ ho) (hts _ hn) hK.1 hJ.1 hJ.2 hS hK.2.2 hcl hfs hra hrb hd (fun q H1 hP hD hS1 => k q H1 locs ls ⟨hP, hD⟩ hS1 hlv)
theorem i_newa {atype : ArrayType} {ty : FieldType} {t0 n : Nat} {cA : ClassId} {z : Int} (hE : OK (Ek E a b) cc nL own ret) (hK : KE D T ek A E) (ht : (tyA T)[t0]? = some (cA, ty)) (hat : newarray.typeOf atype = ty) (hw : Cond.arrayClass ty ∈ TW) (hdv : defaultValue ty = .int (iN 0)) (hz : z = (n : Int)) (hn : n < 2147483648) (hbytes : n * componentBytes ty ≤ 536870912) (ha : a' = a + 1) (hb : b' = b + n) (hra : a' ≤ (ER E).cells) (hrb : b' ≤ (ER E).slots) (hd : decode cc pc = .ok (.newarray atype, 2)) (hp : pc' = pc + 2)
    (k : ∀ q : Nat, VV (Ek E a' b') nL A Q (JL D A (ws ++ [(q, .inl (cA, n, .inl (fun _ => iN 0)))])) pc' lv (.ref q :: st)) : VV (Ek E a b) nL A Q (JL D A ws) pc lv (.int (iN z) :: st) := by
  obtain ⟨p, l0, e, R, s, m, args, below, meth, c, kc, ks⟩ := E
  obtain ⟨hx, hb9, hml, hown, hts, hN, hlocks, hret, hkc, hks⟩ := id hE
  subst hp; subst ha; subst hb; subst hz
  intro H locs ls hJ hS hlv
  refine va_newa (N' := n) (a0 := (n, .inl (fun _ => iN 0))) hx hb9 (atype := atype) (by rw [hat]; exact hts _ hw) hat hK.1 hJ.1 hJ.2 hS hK.2.2 (fun cA => by rw [hdv]; rfl) (fun h9 => ?_) (iN_nat _ (by omega) (by omega)) hbytes hra hrb hd (fun q cA' H1 hK1 hP hD hS1 => ?_)
  · rw [iN_0, iN_lt ⟨by omega, by omega⟩ inR_0] at h9
    omega
  · have h1 : va_RA s cA' ty := (hK1.2 (tyA T).length (cA', ty) (by simp)).2
    have h2 : cA' = cA := va_RA_inj h1 (hK.1.2 t0 _ ht).2
    subst h2
    exact k q H1 locs ls ⟨hP, hD⟩ hS1 hlv
theorem i_newq {C : String} {t0 n : Nat} {cA : ClassId} {z : Int} (hE : OK (Ek E a b) cc nL own ret) (hK : KE D T ek A E) (ht : (tyA T)[t0]? = some (cA, .object C)) (hover : ∀ U H, SK ek A U H → va_AO C U) (hw : Cond.classLink own idx C ∈ TW) (hz : z = (n : Int)) (hn : n < 2147483648) (hbytes : n * 4 ≤ 536870912) (ha : a' = a + 1) (hb : b' = b + n) (hra : a' ≤ (ER E).cells) (hrb : b' ≤ (ER E).slots) (hd : decode cc pc = .ok (.anewarray idx, 3)) (hp : pc' = pc + 3)
    (k : ∀ q : Nat, VV (Ek E a' b') nL A Q (JL D A (ws ++ [(q, .inl (cA, n, .inr (.inr (.inr (.inr (fun j => ([] : List Nat)[j]?))))))])) pc' lv (.ref q :: st)) : VV (Ek E a b) nL A Q (JL D A ws) pc lv (.int (iN z) :: st) := by
  obtain ⟨p, l0, e, R, s, m, args, below, meth, c, kc, ks⟩ := E
  obtain ⟨hx, hb9, hml, hown, hts, hN, hlocks, hret, hkc, hks⟩ := id hE
  subst hp; subst ha; subst hb; subst hz
  intro H locs ls hJ hS hlv
  refine va_newq (N' := n) hx hb9 hown (hts _ hw) (hover _ _ hK.2.1) hK.1 hJ.1 hJ.2 hS hK.2.2 (fun h9 => ?_) (iN_nat _ (by omega) (by omega)) hbytes hra hrb hd (fun q cA' H1 hK1 hP hD hS1 => ?_)
  · rw [iN_0, iN_lt ⟨by omega, by omega⟩ inR_0] at h9
    omega
  · have h1 : va_RA s cA' (.object C) := (hK1.2 (tyA T).length (cA', .object C) (by simp)).2
    have h2 : cA' = cA := va_RA_inj h1 (hK.1.2 t0 _ ht).2
    subst h2
    have hf : (fun _ => none : Nat → Option Nat) = (fun j => ([] : List Nat)[j]?) := by funext j; simp
    rw [hf] at hP hD
    exact k q H1 locs ls ⟨hP, hD⟩ hS1 hlv
theorem i_putF {k0 ci N j x : Nat} {C ref : String} {fs : List Value} {TT : u_T} {tf : Nat → FieldType} {ty : FieldType} {v9 : Value} (hE : OK (Ek E a b) cc nL own ret) (hK : KE D T ek A E) (hI : MN E) (hk : ws[k0]? = some (x, .inr (ci, fs))) (hcl : vwCl[ci]? = some (C, TT, N)) (hj : j < N) (hin : ∀ w ∈ u_ws C TT N, w ∈ TW) (hty : ∀ k, k < N → parseFieldDescriptor (TT k).2.2.1 = some (tf k)) (hnm : ∀ a, a < N → ∀ b, b < N → a ≠ b → (TT a).2.1 ≠ (TT b).2.1) (hlink : Cond.fieldLink own idx ref (TT j).2.1 (TT j).2.2.1 ∈ TW) (hsame : (TT j).1 = ref) (hro : ref = own) (hfin : (TT j).2.2.2 = true) (hpd : parseFieldDescriptor (TT j).2.2.1 = some ty) (hn : narrow ty v9 = v9) (hfit : fits ty v9 = true) (hl9 : j < fs.length) (hd : decode cc pc = .ok (.putfield idx, 3)) (hp : pc' = pc + 3)
    (k : VV (Ek E a b) nL A Q (JL D A (ws.set k0 (x, .inr (ci, fs.set j v9)))) pc' lv st) : VV (Ek E a b) nL A Q (JL D A ws) pc lv (v9 :: .ref x :: st) := by
  obtain ⟨p, l0, e, R, s, m, args, below, meth, c, kc, ks⟩ := E
  obtain ⟨hx, hb9, hml, hown, hts, hN, hlocks, hret, hkc, hks⟩ := id hE
  subst hp; subst hsame
  intro H locs ls hJ hS hlv
  exact va_putF (D := D) hx hb9 hts hin tf hty hnm hown hK.1 hJ.1 hJ.2 hS k0 hk hcl j hj (hts _ hlink) (fun _ h9 => h9) hfin hI hro hpd hn hfit hl9 hd (fun H1 locs1 hP hD hS1 => k H1 locs1 ls ⟨hP, hD⟩ hS1 hlv)
theorem i_put {k0 ci N j x : Nat} {C ref : String} {fs : List Value} {TT : u_T} {tf : Nat → FieldType} {ty : FieldType} {v9 : Value} (hE : OK (Ek E a b) cc nL own ret) (hK : KE D T ek A E) (hk : ws[k0]? = some (x, .inr (ci, fs))) (hcl : vwCl[ci]? = some (C, TT, N)) (hj : j < N) (hin : ∀ w ∈ u_ws C TT N, w ∈ TW) (hty : ∀ k, k < N → parseFieldDescriptor (TT k).2.2.1 = some (tf k)) (hnm : ∀ a, a < N → ∀ b, b < N → a ≠ b → (TT a).2.1 ≠ (TT b).2.1) (hlink : Cond.fieldLink own idx ref (TT j).2.1 (TT j).2.2.1 ∈ TW) (hsame : (TT j).1 = ref) (hfin : (TT j).2.2.2 = false) (hpd : parseFieldDescriptor (TT j).2.2.1 = some ty) (hn : narrow ty v9 = v9) (hfit : fits ty v9 = true) (hl9 : j < fs.length) (hd : decode cc pc = .ok (.putfield idx, 3)) (hp : pc' = pc + 3)
    (k : VV (Ek E a b) nL A Q (JL D A (ws.set k0 (x, .inr (ci, fs.set j v9)))) pc' lv st) : VV (Ek E a b) nL A Q (JL D A ws) pc lv (v9 :: .ref x :: st) := by
  obtain ⟨p, l0, e, R, s, m, args, below, meth, c, kc, ks⟩ := E
  obtain ⟨hx, hb9, hml, hown, hts, hN, hlocks, hret, hkc, hks⟩ := id hE
  subst hp; subst hsame
  intro H locs ls hJ hS hlv
  exact va_put (D := D) hx hb9 hts hin tf hty hnm hown hK.1 hJ.1 hJ.2 hS k0 hk hcl j hj (hts _ hlink) (fun _ h9 => h9) hfin hpd hn hfit hl9 hd (fun H1 locs1 hP hD hS1 => k H1 locs1 ls ⟨hP, hD⟩ hS1 hlv)
theorem i_getf {k0 ci N j x : Nat} {C ref : String} {fs : List Value} {TT : u_T} {v9 : Value} (hE : OK (Ek E a b) cc nL own ret) (hK : KE D T ek A E) (hk : ws[k0]? = some (x, .inr (ci, fs))) (hcl : vwCl[ci]? = some (C, TT, N)) (hj : j < N) (hin : ∀ w ∈ u_ws C TT N, w ∈ TW) (hlink : Cond.fieldLink own idx ref (TT j).2.1 (TT j).2.2.1 ∈ TW) (hsame : (TT j).1 = ref) (hv : fs[j]? = some v9) (hd : decode cc pc = .ok (.getfield idx, 3)) (hp : pc' = pc + 3)
    (k : VV (Ek E a b) nL A Q (JL D A ws) pc' lv (v9 :: st)) : VV (Ek E a b) nL A Q (JL D A ws) pc lv (.ref x :: st) := by
  obtain ⟨p, l0, e, R, s, m, args, below, meth, c, kc, ks⟩ := E
  obtain ⟨hx, hb9, hml, hown, hts, hN, hlocks, hret, hkc, hks⟩ := id hE
  subst hp; subst hsame
  intro H locs ls hJ hS hlv
  exact va_get (D := D) hx hb9 hts hin hown hK.1 hJ.1 k0 hk hcl j hj (hts _ hlink) (fun _ h9 => h9) hv hd (k H locs ls hJ hS hlv)
theorem i_sget {i : Nat} {nm : String} (hE : OK (Ek E a b) cc nL own ret) (hK : KE D T ek A E) (hi : i < 5) (hn : KN.getD i "" = nm) (hw : Cond.fieldLink own idx "WolfCalendar$Kind" nm "LWolfCalendar$Kind;" ∈ TW) (hd : decode cc pc = .ok (.getstatic idx, 3)) (hp : pc' = pc + 3) (k : VV (Ek E a b) nL A Q (JL D A ws) pc' lv (.ref (ek i) :: st)) : VV (Ek E a b) nL A Q (JL D A ws) pc lv st := by
  obtain ⟨p, l0, e, R, s, m, args, below, meth, c, kc, ks⟩ := E
  obtain ⟨hx, hb9, hml, hown, hts, hN, hlocks, hret, hkc, hks⟩ := id hE
  subst hp; subst hn
  intro H locs ls hJ hS hlv
  exact va_gets hx hb9 (hK.2.1.1.1 i hi).1 hS hown (hts _ hw) (fun _ h => h) hd (k H locs ls hJ hS hlv)
theorem app_at {lst : List Nat} {x : Nat} (j : Nat) : (lst ++ [x])[j]? = if j = lst.length then some x else lst[j]? := by
  by_cases h : j = lst.length
  · subst h; simp
  · rw [if_neg h]
    by_cases h2 : j < lst.length
    · rw [List.getElem?_append_left h2]
    · rw [List.getElem?_eq_none (by simp; omega), List.getElem?_eq_none (by omega)]
theorem i_aast {k0 t0 k1 ci x v9 n : Nat} {cA : ClassId} {r : vw_C} {vs : List Value} {lst : List Nat} {z : Int} (hE : OK (Ek E a b) cc nL own ret) (hK : KE D T ek A E) (hk : ws[k0]? = some (x, .inl (cA, n, .inr (.inr (.inr (.inr (fun j => lst[j]?))))))) (ht : (tyA T)[t0]? = some (cA, .object r.1)) (hv : ws[k1]? = some (v9, .inr (ci, vs))) (hcl : vwCl[ci]? = some r) (hz : z = (lst.length : Int)) (hlt : lst.length < n) (hn : n < 2147483648) (hd : decode cc pc = .ok (.aastore, 1)) (hp : pc' = pc + 1)
    (k : VV (Ek E a b) nL A Q (JL D A (ws.set k0 (x, .inl (cA, n, .inr (.inr (.inr (.inr (fun j => (lst ++ [v9])[j]?)))))))) pc' lv st) : VV (Ek E a b) nL A Q (JL D A ws) pc lv (.ref v9 :: .int (iN z) :: .ref x :: st) := by
  obtain ⟨p, l0, e, R, s, m, args, below, meth, c, kc, ks⟩ := E
  obtain ⟨hx, hb9, hml, hown, hts, hN, hlocks, hret, hkc, hks⟩ := id hE
  subst hp; subst hz
  intro H locs ls hJ hS hlv
  have hin : vp_in (iN (lst.length : Int)) n := iN_vin (by omega) (by omega) hn
  refine va_astq (D := D) hx hb9 hK.1 hJ.1 hJ.2 hS k0 t0 k1 ci hk ht hv hcl hin hd (fun H1 locs1 hP hD hS1 => ?_)
  have hf : va_up (fun j => lst[j]?) (iN (lst.length : Int)).toNatClampNeg (some v9) = (fun j => (lst ++ [v9])[j]?) := by
    funext j
    rw [iN_nat _ (by omega) (by omega), app_at]
    simp [va_up]
  rw [hf] at hP hD
  exact k H1 locs1 ls ⟨hP, hD⟩ hS1 hlv
theorem i_obj {x : Nat} (hE : OK (Ek E a b) cc nL own ret) (hlen : lv.length = nL) (hw : Cond.methodLink own idx objectInit ∈ TW) (hd : decode cc pc = .ok (.invokespecial idx, 3)) (hp : pc' = pc + 3) (hr : 1 ≤ (ER E).frames) (hl9 : (st.map fun v => v.category).sum + 12 ≤ (ER E).locals) (k : VV (Ek E a b) nL A Q J pc' lv st) : VV (Ek E a b) nL A Q J pc lv (.ref x :: st) := by
  obtain ⟨p, l0, e, R, s, m, args, below, meth, c, kc, ks⟩ := E
  obtain ⟨hx, hb9, hml, hown, hts, hN, hlocks, hret, hkc, hks⟩ := id hE
  subst hp
  intro H locs ls hJ hS hlv
  refine W.objInit hx hb9 hown (hts _ hw) (hts _ tI_objInit) (hts _ tK_objInit) rfl (by rw [hml]; exact hlv.1) rfl hd hr (by show 2 * 0 + _ + 12 ≤ _; rw [Nat.mul_zero, Nat.zero_add]; exact hl9) ?_
  exact W.eq (g2 := F0 m (pc + 3) ls st) rfl (k H locs ls hJ hS hlv)
theorem i_join {wr w1 : va_W} {H H1 : Heap} {q : Nat} {e0 : va_E} (hJ : JL D A (wr ++ [(q, e0)]) H) (hA : ∀ x, H.size ≤ x → A x) (hk : ∀ x : Nat, x < H.size → ¬ Ai q H.size x → H1[x]? = H[x]?) (hP1 : va_P D vwCl w1 H1) (hD1 : va_D (Ai q H.size) w1) : JL D A (wr ++ w1) H1 := by
  have e0' : (wr ++ [(q, e0)])[wr.length]? = some (q, e0) := by simp
  have hl0 : ∀ (k : Nat) (x : Nat × va_E), wr[k]? = some x → (wr ++ [(q, e0)])[k]? = some x := fun k x hx => by
    rw [List.getElem?_append_left (List.getElem?_eq_some_iff.mp hx).1]; exact hx
  have apart : ∀ (k : Nat) (x : Nat × va_E), wr[k]? = some x → x.1 < H.size ∧ ¬ Ai q H.size x.1 := by
    intro k x hx
    have hlt := (hJ.1 k x (hl0 k x hx)).lt
    refine ⟨hlt, fun h => ?_⟩
    rcases h with h | h
    · have := hJ.2.1 k wr.length x (q, e0) (hl0 k x hx) e0' h
      have := (List.getElem?_eq_some_iff.mp hx).1
      omega
    · omega
  refine ⟨va_P.app (fun k x hx => (hJ.1 k x (hl0 k x hx)).kept (hk _ (apart k x hx).1 (apart k x hx).2)) hP1, va_D.app ⟨fun i j x y hx hy hxy => hJ.2.1 i j x y (hl0 i x hx) (hl0 j y hy) hxy, fun k x hx => hJ.2.2 k x (hl0 k x hx)⟩ (hD1.weaken (fun k x hx h => ?_)) (fun i j x y hx hy hxy => (apart i x hx).2 (by rw [hxy]; exact hD1.2 j y hy))⟩
  rcases h with h | h
  · rw [h]; exact hJ.2.2 wr.length (q, e0) e0'
  · exact hA _ h
theorem i_run {p : Program} {l : Launch} {e : Env} {R : Room} {s : State} {m : MethodId} {args : Array Value} {below : List Frame} {meth : Method} {c : Code} {H : Heap} {locs : List Loc} {cells slots mc ms pc q : Nat} {e0 : va_E} {wr : va_W} {post : va_W → Prop} {ls : Array Slot} {st0 rest : List Value} {aa : Array Value}
    (hr : va_Run p l e R s m args below meth c H locs cells slots mc ms (F0 m pc ls st0) rest (QI D (Ai q H.size) post aa) (Ai q H.size)) (hS : va_S A s.heap H locs) (hA : ∀ x, s.heap.size ≤ x → A x) (hJ : JL D A (wr ++ [(q, e0)]) H)
    (kk : ∀ (w1 : va_W) (H1 : Heap) (locs1 : List Loc), post w1 → JL D A (wr ++ w1) H1 → va_S A s.heap H1 locs1 → W p l e R s m args below meth c H1 locs1 (cells + mc) (slots + ms) Q (F0 m (pc + 3) ls rest)) : W p l e R s m args below meth c H locs cells slots Q (F0 m pc ls st0) := by
  have hAi : ∀ x, Ai q H.size x → A x := fun x h => by
    rcases h with h | h
    · rw [h]; exact hJ.2.2 wr.length (q, e0) (by simp)
    · exact hA _ (Nat.le_trans hS.1 h)
  intro T hT X
  obtain ⟨v9, st₀, t, T', L, h0, X', hL, e1, e2, ⟨hv, ⟨w1, hw, hP1, hD1⟩, hz, hk⟩, st⟩ := hr T hT X
  cases hv
  rw [h0] at hz hk
  rw [← e1] at hP1 hz hk
  obtain ⟨t2, a1, b1⟩ := kk w1 T'.heap (locs ++ L) hw (i_join hJ (fun x h => hA x (Nat.le_trans hS.1 h)) hk hP1 hD1)
    ⟨Nat.le_trans hS.1 hz, fun x h1 h2 => by rw [hk x (Nat.lt_of_lt_of_le h1 hS.1) (fun z => h2 (hAi x z))]; exact hS.2.1 x h1 h2, fun x hx => by
      rcases List.mem_append.mp hx with h | h
      · exact hS.2.2 x h
      · exact hAi _ (hL x h)⟩ T' rfl X'
  exact ⟨t2, st t2 a1, b1⟩
def CalI (y : MethodName) (bytes : ByteArray) (maxL : Nat) : Prop :=
  (y.cls ≠ "java/lang/invoke/MethodHandle" ∧ y.cls ≠ "java/lang/invoke/VarHandle" ∧ (parseMethodDescriptor y.desc).map (fun d => d.parameters.length) = some 0) ∧ y.name = "<init>" ∧ maxL ≤ 20 ∧ Cond.instanceMethod y ∈ TW ∧ Cond.initialized y.cls ∈ TW ∧ Cond.code y bytes maxL none ∈ TW
theorem pre_I {s : State} {H : Heap} {locs : List Loc} {q : Nat} {e0 : va_E} {wr : va_W} (hK1 : va_K D vwCl (tyA T) s) (hSK : SK ek A s s.heap) (hA : ∀ x, s.heap.size ≤ x → A x) (hN : NW s) (hS : va_S A s.heap H locs) (hJ : JL D A (wr ++ [(q, e0)]) H) : PreS s H (va_Pc [.ref q] (fun U => U.heap.size = H.size ∧ va_P D vwCl [(q, e0)] U.heap ∧ va_K D vwCl (tyA T) U ∧ NW U ∧ SK ek (Ai q H.size) U U.heap)) [.ref q] := by
  refine ⟨fun a U g mk z => ?_, fun U hU hW => ⟨rfl, by rw [hU], fun k x hx => ?_, va_K.moved hW.alike hK1, NW.warm hW hN, ?_⟩⟩
  · obtain ⟨z0, z1, z2, z3, z4, z5⟩ := z
    exact ⟨z0, z1, z2, va_K.moved (u := U) (U := U.calling g mk a) (Vm.Alike.refl U.vm) z3, NW.same rfl z4, SK.moved (u := U) (U := U.calling g mk a) (Vm.Alike.refl U.vm) z5⟩
  · have hz : k < 1 := (List.getElem?_eq_some_iff.mp hx).1
    rw [show k = 0 by omega] at hx
    cases hx
    rw [hU]
    exact hJ.1 wr.length (q, e0) (by simp)
  · rw [hU]
    refine ((SK.moved hW.alike hSK).kept hS.2.1).less (fun x h => ?_)
    rcases h with h | h
    · rw [h]; exact hJ.2.2 wr.length (q, e0) (by simp)
    · exact hA _ (Nat.le_trans hS.1 h)
theorem i_call {q maxL d' mc ms : Nat} {y : MethodName} {bytes : ByteArray} {e0 : va_E} {post : Nat → va_W → Prop} (hE : OK (Ek E a b) cc nL own ret) (hK : KE D T ek A E) (hl : EL E = l) (hC : Ini l D T ek y (.code y bytes maxL none) d' mc ms e0 post) (hcal : CalI y bytes maxL) (hlink : Cond.methodLink own idx y ∈ TW) (hf : d' + 1 ≤ (ER E).frames) (hlo : 8 + (maxL + 11) + (41 * d' + 41) ≤ (ER E).locals) (hlen : lv.length = nL) (hcat : (st.map fun v => v.category).sum ≤ 8) (ha : a' = a + mc) (hb : b' = b + ms) (hra : a' ≤ (ER E).cells) (hrb : b' ≤ (ER E).slots) (hd : decode cc pc = .ok (.invokespecial idx, 3)) (hp : pc' = pc + 3)
    (k : ∀ w1 : va_W, post q w1 → VV (Ek E a' b') nL A Q (JL D A (ws ++ w1)) pc' lv st) : VV (Ek E a b) nL A Q (JL D A (ws ++ [(q, e0)])) pc lv (.ref q :: st) := by
  obtain ⟨p, l0, e, R, s, m, args, below, meth, c, kc, ks⟩ := E
  obtain ⟨hx, hb9, hml, hown, hts, hN, hlocks, hret, hkc, hks⟩ := id hE
  obtain ⟨h1, h2, h3, h4, h5, h6⟩ := hcal
  have hl : l0 = l := hl
  subst hl; subst hp; subst ha; subst hb
  intro H locs ls hJ hS hlv
  refine i_run (va_runI (As := []) (rest := st) ⟨hx, hb9, hml, hown, hts⟩ (hC q H.size) (cwI 0 hts (TW_in (fun w hw => ?_) (fun w hw => ?_)) rfl rfl rfl (hts _ h5) (hts _ hlink) (hts _ h4) h2 h1 ⟨hf, hlo⟩) (pre_I hK.1 hK.2.1 hK.2.2 hN hS hJ) rfl rfl hlv.1 rfl (by show 2 * 0 + _ ≤ 8; omega) hd ⟨hra, hrb⟩) hS hK.2.2 hJ (fun w1 H1 locs1 hw hJ1 hS1 => k w1 hw H1 locs1 ls hJ1 hS1 hlv)
  · rcases List.mem_cons.mp hw with rfl | hw
    · exact h6
    · exact hw
  · rcases List.mem_cons.mp hw with rfl | hw
    · exact h6
    · exact hw
theorem i_callN {q maxL d' mc ms : Nat} {y : MethodName} {bytes : ByteArray} {host : String} {e0 : va_E} {post : Nat → va_W → Prop} (hE : OK (Ek E a b) cc nL own ret) (hK : KE D T ek A E) (hl : EL E = l) (hC : Ini l D T ek y (.code y bytes maxL none) d' mc ms e0 post) (hcal : CalI y bytes maxL) (hlink : ∀ U : State, NW U → va_Nw (.methodLinkNest own idx y host) U) (hf : d' + 1 ≤ (ER E).frames) (hlo : 8 + (maxL + 11) + (41 * d' + 41) ≤ (ER E).locals) (hlen : lv.length = nL) (hcat : (st.map fun v => v.category).sum ≤ 8) (ha : a' = a + mc) (hb : b' = b + ms) (hra : a' ≤ (ER E).cells) (hrb : b' ≤ (ER E).slots) (hd : decode cc pc = .ok (.invokespecial idx, 3)) (hp : pc' = pc + 3)
    (k : ∀ w1 : va_W, post q w1 → VV (Ek E a' b') nL A Q (JL D A (ws ++ w1)) pc' lv st) : VV (Ek E a b) nL A Q (JL D A (ws ++ [(q, e0)])) pc lv (.ref q :: st) := by
  obtain ⟨p, l0, e, R, s, m, args, below, meth, c, kc, ks⟩ := E
  obtain ⟨hx, hb9, hml, hown, hts, hN, hlocks, hret, hkc, hks⟩ := id hE
  obtain ⟨h1, h2, h3, h4, h5, h6⟩ := hcal
  have hl : l0 = l := hl
  subst hl; subst hp; subst ha; subst hb
  intro H locs ls hJ hS hlv
  refine i_run (va_runIN (As := []) (rest := st) ⟨hx, hb9, hml, hown, hts⟩ (hC q H.size) ⟨va_cnB 0 hts (TW_in (fun w hw => ?_) (fun w hw => ?_)) rfl rfl rfl (hlink s hN) (hts _ h5) h1 ⟨hf, hlo⟩, h2, hts _ h4⟩ (pre_I hK.1 hK.2.1 hK.2.2 hN hS hJ) rfl rfl hlv.1 rfl (by show 2 * 0 + _ ≤ 8; omega) hd ⟨hra, hrb⟩) hS hK.2.2 hJ (fun w1 H1 locs1 hw hJ1 hS1 => k w1 hw H1 locs1 ls hJ1 hS1 hlv)
  · rcases List.mem_cons.mp hw with rfl | hw
    · exact h6
    · exact hw
  · rcases List.mem_cons.mp hw with rfl | hw
    · exact h6
    · exact hw
theorem i_ret {w1 : va_W} {post : va_W → Prop} {mc ms : Nat} (hE : OK (Ek E mc ms) cc nL own none) (hd : decode cc pc = .ok (.return_, 1)) (hq : post w1) (hs : ∀ H, JL D A ws H → JL D A w1 H) : VV (Ek E mc ms) nL A (Qi D A post mc ms E) (JL D A ws) pc lv [] := by
  obtain ⟨p, l0, e, R, s, m, args, below, meth, c, kc, ks⟩ := E
  obtain ⟨hx, hb9, hml, hown, hts, hN, hlocks, hret, hkc, hks⟩ := id hE
  intro H locs ls hJ hS hlv
  have h1 := hs H hJ
  exact W.vret hx hb9 hret (fun t ht hW => ⟨rfl, ⟨w1, hq, by rw [ht]; exact h1.1, h1.2⟩, hS.F ht⟩) hS.2.2 hd hlocks
theorem Ini_of {y : MethodName} {cc : ByteArray} {nL d mc ms : Nat} {own : String} {e0 : va_E} {post : Nat → va_W → Prop} (hy : plainName y.cls = true) (hyc : y.cls = own) (hyn : y.name = "<init>") (hn : 1 ≤ nL) (hlv : ∀ h0, lvOf [.ref h0] nL = some (.ref h0) :: List.replicate (nL - 1) none)
    (body : ∀ (E : EV) (A : Nat → Prop) (h0 : Nat), OK E cc nL own none → KE D T ek A E → MN E → EL E = l → ER E = rmI d mc ms → VV (Ek E 0 0) nL A (Qi D A (post h0) mc ms E) (JL D A [(h0, e0)]) 0 (some (.ref h0) :: List.replicate (nL - 1) none) []) : Ini l D T ek y (.code y cc nL none) d mc ms e0 post := by
  intro h0 sz
  refine Met.ofW (cc := cc) (maxL := nL) (ret := none) hy rfl ?_
  intro p e s m args below meth c s₁ B hml hv
  obtain ⟨rfl, hsz, hP, hK, hN, hSK⟩ := hv
  have hts := atoms_spec (ws := Cond.code y cc nL none :: TW) B.pre
  have hown : s.vm.findClass y.cls = some m.cls := findClass_of_methodNamed B.named
  have hnm : meth.name = "<init>" := (name_of_methodNamed B.named B.method).1.trans hyn
  subst hsz
  have key := body (p, l, e, (headSpec (Cond.code y cc nL none :: TW) (rmI d mc ms)).room, s, m, [Value.ref h0].toArray, below, meth, c, 0, 0) (Ai h0 s.heap.size) h0 ⟨B.exec, B.bytes, hml, hyc ▸ hown, fun w hw => hts w (List.mem_cons_of_mem _ hw), hN, B.notSynchronized, B.returns, Nat.zero_le _, Nat.zero_le _⟩ ⟨hK, hSK, fun q h => Or.inr h⟩ hnm rfl rfl
  have hl := lvh_entry (av := [.ref h0]) (n := nL) (show 1 ≤ nL from hn)
  rw [hlv h0] at hl
  rw [lg_entry_eq]
  exact key s.heap [] _ ⟨hP, ⟨fun i j x y hx hy _ => by
    have h1 : i < 1 := (List.getElem?_eq_some_iff.mp hx).1
    have h2 : j < 1 := (List.getElem?_eq_some_iff.mp hy).1
    omega, fun k x hx => by
    have h1 : k < 1 := (List.getElem?_eq_some_iff.mp hx).1
    rw [show k = 0 by omega] at hx
    cases hx
    exact Or.inl rfl⟩⟩ va_S.rf hl
/-- an array's cell by another spelling of its row -/
theorem i_same {k0 x n : Nat} {cA : ClassId} {f g : Nat → Option Nat} {H : Heap} (hJ : JL D A ws H) (hk : ws[k0]? = some (x, .inl (cA, n, .inr (.inr (.inr (.inr f)))))) (hfg : ∀ j, j < n → f j = g j) : JL D A (ws.set k0 (x, .inl (cA, n, .inr (.inr (.inr (.inr g)))))) H := by
  refine ⟨fun k y hy => ?_, hJ.2.set hk⟩
  rw [List.getElem?_set] at hy
  by_cases h : k0 = k
  · subst h
    rw [if_pos rfl, if_pos (List.getElem?_eq_some_iff.mp hk).1] at hy
    cases hy
    have h1 : H[x]? = some (vp_cell cA (n, .inr (.inr (.inr (.inr f))))) := hJ.1 k0 _ hk
    show H[x]? = some (vp_cell cA (n, .inr (.inr (.inr (.inr g)))))
    rw [h1, vp_cell_q, vp_cell_q]
    refine congrArg some ?_
    unfold arrV
    have e9 : (fun j : Fin n => va_rf (f j.val)) = (fun j : Fin n => va_rf (g j.val)) := by
      funext j
      rw [hfg j.val j.isLt]
    rw [e9]
  · rw [if_neg h] at hy
    exact hJ.1 k y hy
end IR
