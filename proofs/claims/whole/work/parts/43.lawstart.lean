/-! the law from its entry -/
theorem TWs {s : State} {args : Array Value} (h : ∀ w ∈ lw_tbl, w.before args s = true) : ∀ w ∈ TW, w.before args s = true := fun w hw => h w (List.mem_filter.mp hw).1
theorem law_K {s : State} {args : Array Value} (hts : ∀ w ∈ lw_tbl, w.before args s = true) : ∃ D : va_G, ∀ tys : List (ClassId × FieldType), (∀ (k : Nat) (q : ClassId × FieldType), tys[k]? = some q → ArrOfT s q.1 q.2 ∧ va_RA s q.1 q.2) → va_K D vwCl tys s := by
  have hT := TWs hts
  obtain ⟨c0, i0, k0⟩ := u_known (C := RX0) (T := TX0) (N := 1) (n := 1) hT wT_X0 (hT _ tO_X0)
  obtain ⟨c1, i1, k1⟩ := u_known (C := RX1) (T := TX1) (N := 2) (n := 2) hT wT_X1 (hT _ tO_X1)
  obtain ⟨c2, i2, k2⟩ := u_known (C := RX2) (T := TX2) (N := 3) (n := 3) hT wT_X2 (hT _ tO_X2)
  obtain ⟨c3, i3, k3⟩ := u_known (C := RX4) (T := TX4) (N := 3) (n := 3) hT wT_X4 (hT _ tO_X4)
  obtain ⟨c4, i4, k4⟩ := u_known (C := RX5) (T := TX5) (N := 2) (n := 2) hT wT_X5 (hT _ tO_X5)
  obtain ⟨c5, i5, k5⟩ := u_known (C := RX6) (T := TX6) (N := 4) (n := 4) hT wT_X6 (hT _ tO_X6)
  obtain ⟨c6, i6, k6⟩ := u_known (C := RX7) (T := TX7) (N := 8) (n := 8) hT wT_X7 (hT _ tO_X7)
  obtain ⟨c7, i7, k7⟩ := u_known (C := RX8) (T := TX8) (N := 9) (n := 9) hT wT_X8 (hT _ tO_X8)
  obtain ⟨c8, i8, k8⟩ := u_known (C := RX9) (T := TX9) (N := 43) (n := 43) hT wT_X9 (hT _ tO_X9)
  refine ⟨(fun k => if k = 0 then c0 else if k = 1 then c1 else if k = 2 then c2 else if k = 3 then c3 else if k = 4 then c4 else if k = 5 then c5 else if k = 6 then c6 else if k = 7 then c7 else c8, fun k => if k = 0 then i0 else if k = 1 then i1 else if k = 2 then i2 else if k = 3 then i3 else if k = 4 then i4 else if k = 5 then i5 else if k = 6 then i6 else if k = 7 then i7 else i8), fun tys htys => ⟨fun k q hq => ?_, htys⟩⟩
  match k, hq with
  | 0, hq => cases hq; exact k0
  | 1, hq => cases hq; exact k1
  | 2, hq => cases hq; exact k2
  | 3, hq => cases hq; exact k3
  | 4, hq => cases hq; exact k4
  | 5, hq => cases hq; exact k5
  | 6, hq => cases hq; exact k6
  | 7, hq => cases hq; exact k7
  | 8, hq => cases hq; exact k8
  | k + 9, hq => simp [vwCl] at hq
theorem law_A {s : State} {args : Array Value} (hts : ∀ w ∈ lw_tbl, w.before args s = true) : va_AO "WolfCalendar$Pack" s ∧ va_AO "WolfCalendar$Flock" s := ⟨va_AO.of (hts (.arrayOver (.object "WolfCalendar$Pack")) (by decide +kernel)), va_AO.of (hts (.arrayOver (.object "WolfCalendar$Flock")) (by decide +kernel))⟩
theorem law_T {s : State} {args : Array Value} (hts : ∀ w ∈ lw_tbl, w.before args s = true) : ∃ T : AT, ∀ (k : Nat) (q : ClassId × FieldType), (tyA T)[k]? = some q → ArrOfT s q.1 q.2 ∧ va_RA s q.1 q.2 := by
  have hT := TWs hts
  obtain ⟨hP, hF⟩ := law_A hts
  obtain ⟨cI, kI, pI, i1, i2, i3⟩ := Cond.arrayClass_spec (hT _ tR_int)
  obtain ⟨cZ, kZ, pZ, z1, z2, z3⟩ := Cond.arrayClass_spec (hT _ tR_boolean)
  obtain ⟨cC, kC, pC, c1, c2, c3⟩ := Cond.arrayClass_spec (hT _ tR_char)
  obtain ⟨cB, kB, pB, b1, b2, b3⟩ := Cond.arrayClass_spec (hT _ tR_byte)
  obtain ⟨pP, cP, kP, a1, a2, a3, a4, a5⟩ := Cond.arrayOver_spec hP
  obtain ⟨pF, cF, kF, f1, f2, f3, f4, f5⟩ := Cond.arrayOver_spec hF
  refine ⟨(cI, cZ, cC, cP, cF, cB), fun k q hq => ?_⟩
  match k, hq with
  | 0, hq => cases hq; exact ⟨fun n z => ⟨fun k h => (by cases h), kI, i2, pI, i3⟩, i1⟩
  | 1, hq => cases hq; exact ⟨fun n z => ⟨fun k h => (by cases h), kZ, z2, pZ, z3⟩, z1⟩
  | 2, hq => cases hq; exact ⟨fun n z => ⟨fun k h => (by cases h), kC, c2, pC, c3⟩, c1⟩
  | 3, hq => cases hq; exact ⟨fun n z => ⟨fun k h => (by cases h), kP, a3, pP, a4⟩, kP, pP, a3, a4, a1, a5⟩
  | 4, hq => cases hq; exact ⟨fun n z => ⟨fun k h => (by cases h), kF, f3, pF, f4⟩, kF, pF, f3, f4, f1, f5⟩
  | 5, hq => cases hq; exact ⟨fun n z => ⟨fun k h => (by cases h), kB, b2, pB, b3⟩, b1⟩
  | k + 6, hq => simp [tyA] at hq
theorem law_S {s : State} {args : Array Value} {A : Nat → Prop} (hts : ∀ w ∈ lw_tbl, w.before args s = true) (hgv : (Jvm.Cond.and given_1 narrow_1).before args s = true) (hA : ∀ a : Nat, a < s.heap.size → ¬ A a) : ∃ (ek : Nat → Nat) (kt : Nat), SK ek A s s.heap ∧ va_Z "WolfCalendar" "KINDS" "[LWolfCalendar$Kind;" (.ref kt) A s s.heap ∧ va_T (.object "WolfCalendar$Kind") kt 5 (fun j => .ref (ek j)) A s s.heap := by
  have hT := TWs hts
  have hs := flat_of_before _ hgv
  obtain ⟨ek, hEn, hev⟩ := va_Enof2 (E := "WolfCalendar$Kind") (d := "LWolfCalendar$Kind;") (nm := KN) (F := KF) (A := A) (args := args) (s := s)
    (fun i hi => by
      have hi : i < 5 := hi
      rcases (show i = 0 ∨ i = 1 ∨ i = 2 ∨ i = 3 ∨ i = 4 by omega) with rfl | rfl | rfl | rfl | rfl <;> exact hts _ (by decide +kernel))
    (hT _ tN_X3)
    (fun i hi => by
      have hi : i < 5 := hi
      rcases (show i = 0 ∨ i = 1 ∨ i = 2 ∨ i = 3 ∨ i = 4 by omega) with rfl | rfl | rfl | rfl | rfl <;> exact hs _ (by decide +kernel))
    (fun q hq i hi => by
      have hi : i < 5 := hi
      simp only [KF, List.mem_cons, List.not_mem_nil, or_false] at hq
      rcases hq with rfl | rfl | rfl | rfl | rfl <;> rcases (show i = 0 ∨ i = 1 ∨ i = 2 ∨ i = 3 ∨ i = 4 by omega) with rfl | rfl | rfl | rfl | rfl <;> exact hs _ (by decide +kernel))
    (fun i j hi hj hij => by
      have hi : i < 5 := hi
      have hj : j < 5 := hj
      rcases (show i = 0 ∨ i = 1 ∨ i = 2 ∨ i = 3 ∨ i = 4 by omega) with rfl | rfl | rfl | rfl | rfl <;> rcases (show j = 0 ∨ j = 1 ∨ j = 2 ∨ j = 3 ∨ j = 4 by omega) with rfl | rfl | rfl | rfl | rfl <;> first | exact absurd rfl hij | exact Or.inl (hs _ (by decide +kernel)) | exact Or.inr (hs _ (by decide +kernel)))
    hA
  have hel : ∀ j : Nat, j < 5 → (Term.elem (.static "WolfCalendar" "KINDS" "[LWolfCalendar$Kind;") (.int (Int32.ofNat j))).eval args s none [] s = some (.ref (ek j)) := by
    intro j hj
    refine va_eqv (u := .static "WolfCalendar$Kind" (KN.getD j "") "LWolfCalendar$Kind;") ?_ (hev j hj)
    rcases (show j = 0 ∨ j = 1 ∨ j = 2 ∨ j = 3 ∨ j = 4 by omega) with rfl | rfl | rfl | rfl | rfl <;> exact hs _ (by decide +kernel)
  obtain ⟨kt, hkt, hTT⟩ := va_Tof (tm := .static "WolfCalendar" "KINDS" "[LWolfCalendar$Kind;") (ty := .object "WolfCalendar$Kind") (N := 5) (f := fun j => .ref (ek j)) (A := A) (args := args) (s := s) (by decide) (hs _ (by decide +kernel)) (va_eqt (hs (.eq (.length (.static "WolfCalendar" "KINDS" "[LWolfCalendar$Kind;")) (.int 5)) (by decide +kernel))) hel hA
  exact ⟨ek, kt, ⟨hEn, law_A hts⟩, va_Zref (hts _ (by decide +kernel)) (hT _ tN_X8) hkt hA, hTT⟩
theorem law_split {D : va_G} {A : Nat → Prop} {G : GC} {G' : GM} {σ τ : St} {H : Heap} (hD : yD (YC G) = D) (hD' : yD (YM G') = D) (h : JL D A (wsY (YC G) σ ++ wsY (YM G') τ) H) : ((∀ q, AS (YC G) q → A q) ∧ (∀ q, AS (YM G') q → A q) ∧ ∀ q, AS (YM G') q → ¬ AS (YC G) q) ∧ JJ G G' σ τ H := by
  obtain ⟨hP, hd1, hd2⟩ := h
  have hl : ∀ (k : Nat) (x : Nat × va_E), (wsY (YC G) σ)[k]? = some x → (wsY (YC G) σ ++ wsY (YM G') τ)[k]? = some x := fun k x hx => by
    rw [List.getElem?_append_left (List.getElem?_eq_some_iff.mp hx).1]; exact hx
  have hr : ∀ (k : Nat) (x : Nat × va_E), (wsY (YM G') τ)[k]? = some x → (wsY (YC G) σ ++ wsY (YM G') τ)[(wsY (YC G) σ).length + k]? = some x := fun k x hx => by
    rw [List.getElem?_append_right (by omega), Nat.add_sub_cancel_left]; exact hx
  have mC : ∀ q, AS (YC G) q → ∃ (k : Nat) (x : Nat × va_E), (wsY (YC G) σ)[k]? = some x ∧ x.1 = q := by
    rintro q ⟨r, hr1, rfl⟩
    obtain ⟨k, -, hk⟩ := ws_get (Y := YC G) (σ := σ) hr1
    exact ⟨k, _, hk, rfl⟩
  have mM : ∀ q, AS (YM G') q → ∃ (k : Nat) (x : Nat × va_E), (wsY (YM G') τ)[k]? = some x ∧ x.1 = q := by
    rintro q ⟨r, hr1, rfl⟩
    obtain ⟨k, -, hk⟩ := ws_get (Y := YM G') (σ := τ) hr1
    exact ⟨k, _, hk, rfl⟩
  have memY : ∀ (Y : SY) (ρ : St) (k : Nat) (x : Nat × va_E), (wsY Y ρ)[k]? = some x → AS Y x.1 := by
    intro Y ρ k x hx
    obtain ⟨r, hr1, rfl⟩ := List.mem_map.mp (List.mem_of_getElem? hx)
    exact ⟨r, hr1, rfl⟩
  refine ⟨⟨fun q hq => ?_, fun q hq => ?_, fun q h1 h2 => ?_⟩, ⟨fun k x hx => ?_, fun i j x y hx hy hxy => hd1 i j x y (hl i x hx) (hl j y hy) hxy, memY _ _⟩, ⟨fun k x hx => ?_, fun i j x y hx hy hxy => ?_, memY _ _⟩⟩
  · obtain ⟨k, x, hx, rfl⟩ := mC q hq
    exact hd2 k x (hl k x hx)
  · obtain ⟨k, x, hx, rfl⟩ := mM q hq
    exact hd2 _ x (hr k x hx)
  · obtain ⟨k, x, hx, rfl⟩ := mM q h1
    obtain ⟨k2, x2, hx2, e2⟩ := mC _ h2
    have h3 := hd1 _ _ x2 x (hl k2 x2 hx2) (hr k x hx) e2
    have h4 := (List.getElem?_eq_some_iff.mp hx2).1
    omega
  · rw [hD]; exact hP k x (hl k x hx)
  · rw [hD']; exact hP _ x (hr k x hx)
  · have := hd1 _ _ x y (hr i x hx) (hr j y hy) hxy
    omega
theorem calI_X8 : CalI yX8_init cX8_init 1 := ⟨⟨by decide, by decide, by decide +kernel⟩, rfl, by decide, tI_X8_init, tN_X8, tK_X8_init⟩
theorem calI_X9 : CalI yX9_init cX9_init 1 := ⟨⟨by decide, by decide, by decide +kernel⟩, rfl, by decide, tI_X9_init, tN_X9, tK_X9_init⟩
/-- from the law's entry to the head of its loop, and through it -/
theorem law_go {l : Launch} {E : EV} {A : Nat → Prop} {Q : State → Prop} {b L : Nat} {xs : Nat → Int32} {D : va_G} {cI cZ cC cP cF cB : ClassId} {ek : Nat → Nat} {kt : Nat} (hE0 : OK E code 4 RL ret) (hK : KE D (cI, cZ, cC, cP, cF, cB) ek A E) (hl : EL E = l) (hR : ER E = room_1) (hX : XW b L xs A E) (hst : match E with | (_, _, _, _, s, _, _, _, _, _, _, _) => va_Z "WolfCalendar" "KINDS" "[LWolfCalendar$Kind;" (.ref kt) A s s.heap ∧ va_T (.object "WolfCalendar$Kind") kt 5 (fun j => .ref (ek j)) A s s.heap) (hL : L ≤ 256) (hend : ∀ lv : List (Option Value), VV (Ek E 69 592) 4 A Q (fun _ => True) 890 lv []) : VV (Ek E 0 0) 4 A Q (JL D A []) 0 [some (.ref b), none, none, none] [] := by
  have hE := i_ok (a := 0) (b := 0) hE0 (Nat.zero_le _) (Nat.zero_le _)
  refine i_new (a' := 1) (b' := 9) (pc' := 3) (ci := 7) (C := RX8) (TT := TX8) (N := 9) (fs := f0X8) hE hK rfl wT_X8 tyX8_ok f0X8_ok tC_L_7 tO_X8 tN_X8 rfl rfl (by rw [hR]; decide) (by rw [hR]; decide) dL_law_0 rfl (fun q1 => ?_)
  have hE := i_ok (a := 1) (b := 9) hE0 (by rw [hR]; decide) (by rw [hR]; decide)
  refine x_dup (pc' := 4) hE dL_law_3 rfl rfl ?_
  refine i_call (a' := 48) (b' := 416) (pc' := 7) hE hK hl (iniX8 l D cI cZ cC cP cF cB ek kt) calI_X8 tM_L_9 (by rw [hR]; decide) (by rw [hR]; decide) rfl (Nat.le_of_ble_eq_true rfl) rfl rfl (by rw [hR]; decide) (by rw [hR]; decide) dL_law_4 rfl (fun w1 hw1 => ?_)
  obtain ⟨ad, had, rfl⟩ := hw1
  have hE := i_ok (a := 48) (b := 416) hE0 (by rw [hR]; decide) (by rw [hR]; decide)
  refine x_astore_n (pc' := 8) hE dL_law_7 rfl (by decide) rfl rfl ?_
  dsimp only [List.set]
  refine i_new (a' := 49) (b' := 459) (pc' := 11) (ci := 8) (C := RX9) (TT := TX9) (N := 43) (fs := f0X9) hE hK rfl wT_X9 tyX9_ok f0X9_ok tC_L_10 tO_X9 tN_X9 rfl rfl (by rw [hR]; decide) (by rw [hR]; decide) dL_law_8 rfl (fun q2 => ?_)
  have hE := i_ok (a := 49) (b := 459) hE0 (by rw [hR]; decide) (by rw [hR]; decide)
  refine x_dup (pc' := 12) hE dL_law_11 rfl rfl ?_
  refine i_call (a' := 69) (b' := 592) (pc' := 15) hE hK hl (iniX9 l D cI cZ cC cP cF cB ek) calI_X9 tM_L_12 (by rw [hR]; decide) (by rw [hR]; decide) rfl (Nat.le_of_ble_eq_true rfl) rfl rfl (by rw [hR]; decide) (by rw [hR]; decide) dL_law_12 rfl (fun w1 hw1 => ?_)
  obtain ⟨ad2, had2, rfl⟩ := hw1
  have hE := i_ok (a := 69) (b := 592) hE0 (by rw [hR]; decide) (by rw [hR]; decide)
  subst had; subst had2
  refine x_astore_n (pc' := 16) hE dL_law_15 rfl (by decide) rfl rfl ?_
  dsimp only [List.set]
  refine x_iconst (pc' := 17) hE dL_law_16 rfl ?_
  refine x_istore_n (pc' := 18) hE dL_law_17 rfl (by decide) rfl rfl ?_
  dsimp only [List.set]
  refine w_fact (fun H h => law_split (D := D) (G := (D, ad, (cI, cZ, cC, cP, cF), ek, kt)) (G' := (D, ad2, cI, cB)) rfl rfl h) (fun hAS => ?_)
  obtain ⟨h7, h8, h9⟩ := hAS
  have hLH : LH (D, ad, (cI, cZ, cC, cP, cF), ek, kt) (D, ad2, cI, cB) b L xs A l (Ek E 69 592) := by
    obtain ⟨p, l0, e, R, s, m, args, below, meth, c, kc, ks⟩ := E
    refine ⟨hE, ⟨hK.1.sub [0, 1, 2, 3, 4] rfl, ?_⟩, ⟨hK.1.sub [0, 5] rfl, trivial⟩, hl, hR, hX, h7, h8, h9, hL⟩
    have hn : ∀ q, adC (D, ad, (cI, cZ, cC, cP, cF), ek, kt) q → A q := h7
    exact ⟨va_En.narrow hK.2.1.1 hn, va_Z.narrow hst.1 hn, va_T.narrow hst.2 hn⟩
  exact law_loop hLH hend L 0 σ0C σ0M IM_0 RC_0 (by omega) (by omega)
theorem whole_start {p : Program} {e : Env} {s : State} {m : MethodId} {below : List Frame} {meth : Method} {c : Code} (l : Launch) (hflags : l.flags = flags0) {b L : Nat} {xs : Nat → Int32} (hL : L ≤ 256) (C0 : lw_At p s m meth c b L xs) : W p l e room_1 s m #[Value.ref b] below meth c s.heap [] 0 0 (lw_Z below #[Value.ref b] s) (entryFrame m ([Value.ref b] : List Value).toArray 4) := by
  obtain ⟨hx, hb, hr, hml, hown, hts, hX, hbl, hlocks, hgv⟩ := id C0
  have hA : ∀ a : Nat, a < s.heap.size → ¬ (fun q : Nat => s.heap.size ≤ q) a := fun a h => Nat.not_le.mpr h
  obtain ⟨D, hD⟩ := law_K hts
  obtain ⟨T, hT⟩ := law_T hts
  obtain ⟨ek, kt, hSK, hZ, hTT⟩ := law_S (A := fun q : Nat => s.heap.size ≤ q) hts hgv hA
  obtain ⟨cI, cZ, cC, cP, cF, cB⟩ := T
  have hE0 : OK (p, l, e, room_1, s, m, #[Value.ref b], below, meth, c, 0, 0) code 4 RL ret := ⟨hx, hb, hml, hown, TWs hts, NW_start hts, hlocks, hr, Nat.zero_le _, Nat.zero_le _⟩
  have key := law_go (A := fun q : Nat => s.heap.size ≤ q) (Q := lw_Z below #[Value.ref b] s) (b := b) (L := L) (xs := xs) (l := l) (kt := kt) hE0 ⟨hD _ hT, hSK, fun q h => h⟩ rfl rfl ⟨hX, hbl, hA b hbl, fun q h => h⟩ ⟨hZ, hTT⟩ hL (fun lv => by
    refine x_iconst (pc' := 891) (i_ok (a := 69) (b := 592) hE0 (show 69 ≤ 650160 by decide) (show 592 ≤ 7151767 by decide)) dL_law_890 rfl ?_
    intro H locs ls _ hS _
    refine va_forget (fun q hq => hS.2.2 q hq) ?_
    refine W.widen (k := 650160) (n := 7151767) (by decide) (by decide) ?_
    have k := lw_ret (e := e) (l := l) (below := below) (s := s) (m := m) (b := b) (H := H) (ls := ls) (meth := meth) (c := c) hx hb hr hlocks dL_law_891
    rw [iN_1] at k
    exact k)
  have hl9 := lvh_entry (av := [.ref b]) (n := 4) (show 1 ≤ 4 by omega)
  rw [lg_entry_eq]
  exact key s.heap [] _ ⟨fun k q h => by simp at h, ⟨fun i j p q h => by simp at h, fun k q h => by simp at h⟩⟩ va_S.rf hl9
