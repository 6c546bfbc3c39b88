section XC2
variable {E : EV} {cc : ByteArray} {nL : Nat} {own : String} {ret : Option FieldType} {Q : State → Prop} {pc pc' : Nat} {lv lv' : List (Option Value)} {st stk : List Value} {Y : SY} {σ : St} {l : Launch} {y : MethodName} {bytes : ByteArray} {maxL d d' idx b : Nat} {rt : Option FieldType} {As : List Value} {C host : String} {P : St → Prop} {x : Value}
theorem x_cV1 (hE : OK E cc nL own ret) (hM : Mem Y E) (hY : YOk Y) (hl : EL E = l) (hR : ER E = rmD d) (hC : Ct l Y y (.code y bytes maxL rt) d' (.ref b :: As) σ (fun v σ' => v = some x ∧ P σ')) (hcal : Callee y C bytes maxL rt As.length) (hlink : Cond.methodLink own idx y ∈ TW) (hrec : Recv Y E σ b C) (hdep : d' + 1 ≤ d) (hd : decode cc pc = .ok (.invokevirtual idx, 3)) (hp : pc' = pc + 3) (hstk : stk = As.reverse ++ .ref b :: st) (hcat : (st.map fun v => v.category).sum ≤ 8) (k : ∀ σ' : St, P σ' → VV E nL (AS Y) Q (Rh Y σ') pc' lv (x :: st)) : VV E nL (AS Y) Q (Rh Y σ) pc lv stk :=
  x_callV hE hM hY hl hR hC hcal hlink hrec hdep hd hp hstk hcat (fun v σ' h => by obtain ⟨rfl, h2⟩ := h; exact k σ' h2)
theorem x_cS1 (hE : OK E cc nL own ret) (hM : Mem Y E) (hY : YOk Y) (hl : EL E = l) (hR : ER E = rmD d) (hC : Ct l Y y (.code y bytes maxL rt) d' As σ (fun v σ' => v = some x ∧ P σ')) (hcal : CalleeS y C bytes maxL rt As.length) (hlink : Cond.methodLink own idx y ∈ TW) (hdep : d' + 1 ≤ d) (hd : decode cc pc = .ok (.invokestatic idx, 3)) (hp : pc' = pc + 3) (hstk : stk = As.reverse ++ st) (hcat : (st.map fun v => v.category).sum ≤ 8) (k : ∀ σ' : St, P σ' → VV E nL (AS Y) Q (Rh Y σ') pc' lv (x :: st)) : VV E nL (AS Y) Q (Rh Y σ) pc lv stk :=
  x_callS hE hM hY hl hR hC hcal hlink hdep hd hp hstk hcat (fun v σ' h => by obtain ⟨rfl, h2⟩ := h; exact k σ' h2)
theorem x_cSN1 (hE : OK E cc nL own ret) (hM : Mem Y E) (hY : YOk Y) (hl : EL E = l) (hR : ER E = rmD d) (hC : Ct l Y y (.code y bytes maxL rt) d' As σ (fun v σ' => v = some x ∧ P σ')) (hcal : CalleeS y C bytes maxL rt As.length) (hlink : ∀ U : State, NW U → va_Nw (.methodLinkNest own idx y host) U) (hdep : d' + 1 ≤ d) (hd : decode cc pc = .ok (.invokestatic idx, 3)) (hp : pc' = pc + 3) (hstk : stk = As.reverse ++ st) (hcat : (st.map fun v => v.category).sum ≤ 8) (k : ∀ σ' : St, P σ' → VV E nL (AS Y) Q (Rh Y σ') pc' lv (x :: st)) : VV E nL (AS Y) Q (Rh Y σ) pc lv stk :=
  x_callSN hE hM hY hl hR hC hcal hlink hdep hd hp hstk hcat (fun v σ' h => by obtain ⟨rfl, h2⟩ := h; exact k σ' h2)
theorem x_cV0 (hE : OK E cc nL own ret) (hM : Mem Y E) (hY : YOk Y) (hl : EL E = l) (hR : ER E = rmD d) (hC : Ct l Y y (.code y bytes maxL rt) d' (.ref b :: As) σ (fun v σ' => v = none ∧ P σ')) (hcal : Callee y C bytes maxL rt As.length) (hlink : Cond.methodLink own idx y ∈ TW) (hrec : Recv Y E σ b C) (hdep : d' + 1 ≤ d) (hd : decode cc pc = .ok (.invokevirtual idx, 3)) (hp : pc' = pc + 3) (hstk : stk = As.reverse ++ .ref b :: st) (hcat : (st.map fun v => v.category).sum ≤ 8) (k : ∀ σ' : St, P σ' → VV E nL (AS Y) Q (Rh Y σ') pc' lv (st)) : VV E nL (AS Y) Q (Rh Y σ) pc lv stk :=
  x_callV hE hM hY hl hR hC hcal hlink hrec hdep hd hp hstk hcat (fun v σ' h => by obtain ⟨rfl, h2⟩ := h; exact k σ' h2)
theorem x_cS0 (hE : OK E cc nL own ret) (hM : Mem Y E) (hY : YOk Y) (hl : EL E = l) (hR : ER E = rmD d) (hC : Ct l Y y (.code y bytes maxL rt) d' As σ (fun v σ' => v = none ∧ P σ')) (hcal : CalleeS y C bytes maxL rt As.length) (hlink : Cond.methodLink own idx y ∈ TW) (hdep : d' + 1 ≤ d) (hd : decode cc pc = .ok (.invokestatic idx, 3)) (hp : pc' = pc + 3) (hstk : stk = As.reverse ++ st) (hcat : (st.map fun v => v.category).sum ≤ 8) (k : ∀ σ' : St, P σ' → VV E nL (AS Y) Q (Rh Y σ') pc' lv (st)) : VV E nL (AS Y) Q (Rh Y σ) pc lv stk :=
  x_callS hE hM hY hl hR hC hcal hlink hdep hd hp hstk hcat (fun v σ' h => by obtain ⟨rfl, h2⟩ := h; exact k σ' h2)
theorem x_cSN0 (hE : OK E cc nL own ret) (hM : Mem Y E) (hY : YOk Y) (hl : EL E = l) (hR : ER E = rmD d) (hC : Ct l Y y (.code y bytes maxL rt) d' As σ (fun v σ' => v = none ∧ P σ')) (hcal : CalleeS y C bytes maxL rt As.length) (hlink : ∀ U : State, NW U → va_Nw (.methodLinkNest own idx y host) U) (hdep : d' + 1 ≤ d) (hd : decode cc pc = .ok (.invokestatic idx, 3)) (hp : pc' = pc + 3) (hstk : stk = As.reverse ++ st) (hcat : (st.map fun v => v.category).sum ≤ 8) (k : ∀ σ' : St, P σ' → VV E nL (AS Y) Q (Rh Y σ') pc' lv (st)) : VV E nL (AS Y) Q (Rh Y σ) pc lv stk :=
  x_callSN hE hM hY hl hR hC hcal hlink hdep hd hp hstk hcat (fun v σ' h => by obtain ⟨rfl, h2⟩ := h; exact k σ' h2)
theorem x_lve {A : Nat → Prop} {J : Heap → Prop} (h : lv = lv') (k : VV E nL A Q J pc lv' st) : VV E nL A Q J pc lv st := h ▸ k
end XC2
def lvle : List (Option Value) → List (Option Value) → Prop
  | [], [] => True
  | a :: r, b :: s => (a = none ∨ a = b) ∧ lvle r s
  | _, _ => False
theorem lvle_at : ∀ {r s : List (Option Value)}, lvle r s → r.length = s.length ∧ ∀ (i : Nat) (v : Value), r[i]? = some (some v) → s[i]? = some (some v)
  | [], [], _ => ⟨rfl, fun i v h => h⟩
  | a :: r, b :: s, h => by
    obtain ⟨h1, h2⟩ := lvle_at h.2
    refine ⟨by simp [h1], fun i v hi => ?_⟩
    cases i with
    | zero =>
      rcases h.1 with e | e
      · subst e; simp at hi
      · subst e; exact hi
    | succ i => simpa using h2 i v (by simpa using hi)
theorem x_lvf {E : EV} {nL : Nat} {A : Nat → Prop} {Q : State → Prop} {J : Heap → Prop} {pc : Nat} {lv lv' : List (Option Value)} {st : List Value} (h : lvle lv' lv) (k : VV E nL A Q J pc lv' st) : VV E nL A Q J pc lv st := x_lv (lvle_at h).2 (lvle_at h).1 k
theorem rb1 {b : Bool} (h : b = true) : some (Value.int (iN 1)) = some (Value.int (bI b)) := by rw [h, bI_t]
theorem rb0 {b : Bool} (h : b = false) : some (Value.int (iN 0)) = some (Value.int (bI b)) := by rw [h, bI_f]
theorem ri {a b : Int} (h : a = b) : some (Value.int (iN a)) = some (Value.int (iN b)) := by rw [h]
/-! the mathematics of the document's words -/
def anyU (p : Int → Bool) : Nat → Bool
  | 0 => false
  | n + 1 => anyU p n || p n
def allU (p : Int → Bool) : Nat → Bool
  | 0 => true
  | n + 1 => allU p n && p n
def lst (p : Int → Bool) : Nat → Int → Int
  | 0, _ => -1
  | n + 1, i => if p i then i else lst p n (i + 1)
def cntU (p : Int → Bool) : Nat → Int
  | 0 => 0
  | n + 1 => cntU p n + (if p n then 1 else 0)
def isF (fn : Int) (fo : Int → Int) (d : Int) : Bool := anyU (fun k => decide (fo k = d % 30) || decide (fo k = 100 + 10 * (d % 7) + d % 30 / 7 + 1)) fn.toNat
def rdB (k f g d : Int) : Int := d + f + 210 - (if k = 3 ∨ k = 4 then g else 0)
def fsB (F : Int → Bool) (k f g d : Int) : Bool := (decide (rdB k f g d % 7 = 5) && decide (k ≠ 2)) || (decide (k ≠ 1) && F (rdB k f g d)) || (decide (k = 4) && F (rdB k f g d + 1))
/-- worlds: rows 0 how many packs, flocks, the day; 1 2 3 kind, cell, lag; 4 5 6 name, cell, by whom; 7 what is forged -/
abbrev Wd : Type := Nat → Int → Int
def wu (W : Wd) (r : Nat) (i v : Int) : Wd := fun a b => if a = r ∧ b = i then v else W a b
def pIn (W : Wd) (c nm : Int) : Int := lst (fun f => decide (W 5 f = c) && decide (W 6 f = -1) && decide (W 4 f ≠ nm)) (W 0 1).toNat 0
def prey (F : Int → Bool) (W : Wd) (p d : Int) : Int :=
  if fsB F (W 1 p) (W 7 (W 2 p)) (W 3 p) d then -1
  else if pIn W (W 2 p) (rdB (W 1 p) (W 7 (W 2 p)) (W 3 p) d % 30 % 10) ≠ -1 then pIn W (W 2 p) (rdB (W 1 p) (W 7 (W 2 p)) (W 3 p) d % 30 % 10)
  else if pIn W (W 2 p - 1) (rdB (W 1 p) (W 7 (W 2 p)) (W 3 p) d % 30 % 10) ≠ -1 then pIn W (W 2 p - 1) (rdB (W 1 p) (W 7 (W 2 p)) (W 3 p) d % 30 % 10)
  else pIn W (W 2 p + 1) (rdB (W 1 p) (W 7 (W 2 p)) (W 3 p) d % 30 % 10)
def goA (F : Int → Bool) (W : Wd) : Nat → Wd
  | 0 => W
  | n + 1 => if prey F (goA F W n) n (W 0 2) = -1 then goA F W n else wu (goA F W n) 6 (prey F (goA F W n) n (W 0 2)) n
def goD (F : Int → Bool) (W : Wd) : Wd := wu (goA F W (W 0 0).toNat) 0 2 (W 0 2 + 1)
def dN (F : Int → Bool) (W : Wd) : Nat → Wd
  | 0 => W
  | n + 1 => goD F (dN F W n)
def mk5 (p : Int → Bool) : Int := (if p 0 then 1 else 0) + (if p 1 then 2 else 0) + (if p 2 then 4 else 0) + (if p 3 then 8 else 0) + (if p 4 then 16 else 0)
/-- those that are eaten in W' and were not in W -/
def dB (W W' : Wd) : Int := mk5 (fun f => decide (f < W 0 1) && decide (W 6 f = -1) && decide (W' 6 f ≠ -1))
def eatN (W : Wd) : Int := cntU (fun f => decide (W 6 f ≠ -1)) (W 0 1).toNat
def eatP (W : Wd) (p : Int) : Int := cntU (fun f => decide (W 6 f = p)) (W 0 1).toNat
def fallK (F : Int → Bool) (W : Wd) (f : Int) : Nat → Int → Int
  | 0, _ => -1
  | n + 1, k => if goD F W 6 f ≠ -1 then k else fallK F (goD F W) f n (k + 1)
def safeN (F : Int → Bool) (W : Wd) (f : Int) (days : Nat) : Int := lst (fun n => decide (fallK F (wu W 4 f n) f days 1 = -1)) 10 0
def runF (p : Int → Bool) : Nat → Int → Int
  | 0, k => k
  | n + 1, k => if p k then runF p n (k + 1) else k
def nailA (g : Int → Int) : Nat → Int × Int
  | 0 => (-1, 0)
  | n + 1 => if g n > (nailA g n).2 then (n, g n) else nailA g n
def nailG (F : Int → Bool) (k g d : Int) (v : Int) : Int := runF (fun m => fsB F k v g (d + m)) 30 0
def nailN (F : Int → Bool) (k g d : Int) (what : Int) : Int := if what = 0 ∨ (nailA (nailG F k g d) 30).1 = -1 then (nailA (nailG F k g d) 30).1 else (nailA (nailG F k g d) 30).2
def fitR (p : Int → Bool) : Nat → Int32
  | 0 => iN 0
  | n + 1 => if p n then fitR p n ||| (iN 1 <<< (iN n &&& 31)) else fitR p n
def gRows (F : Int → Bool) (f : Int) : Nat → Wd → Int
  | 0, _ => 1
  | n + 1, W => (if 0 ≤ W 5 f - 1 ∧ W 5 f - 1 ≤ 7 then (if goD F (wu W 5 f (W 5 f - 1)) 6 f ≠ -1 then 0 else gRows F f n (goD F (wu W 5 f (W 5 f - 1)))) else 0)
    + (if 0 ≤ W 5 f ∧ W 5 f ≤ 7 then (if goD F (wu W 5 f (W 5 f)) 6 f ≠ -1 then 0 else gRows F f n (goD F (wu W 5 f (W 5 f)))) else 0)
    + (if 0 ≤ W 5 f + 1 ∧ W 5 f + 1 ≤ 7 then (if goD F (wu W 5 f (W 5 f + 1)) 6 f ≠ -1 then 0 else gRows F f n (goD F (wu W 5 f (W 5 f + 1)))) else 0)
def gThr (F : Int → Bool) (f : Int) (n : Nat) (W : Wd) (c : Int) : Int := if 0 ≤ c ∧ c ≤ 7 then (if goD F (wu W 5 f c) 6 f ≠ -1 then 0 else gRows F f n (goD F (wu W 5 f c))) else 0
def sdN (s : Int) : Int := (1103515245 * s + 12345) % 2147483648
def yrS (F : Int → Bool) (q : Wd × Int) : Wd × Int :=
  if sdN q.2 / 65536 % 8 = 0 then (goD F (wu q.1 7 (sdN (sdN q.2) / 65536 % 8) (sdN (sdN (sdN q.2)) / 65536 % 30)), sdN (sdN (sdN q.2)))
  else (goD F q.1, sdN q.2)
def yrN (F : Int → Bool) (q : Wd × Int) : Nat → Wd × Int
  | 0 => q
  | n + 1 => yrS F (yrN F q n)
/-- numbers in their ranges, the day at most D -/
def WOk (D : Int) (W : Wd) : Prop := (0 ≤ W 0 0 ∧ W 0 0 ≤ 4) ∧ (0 ≤ W 0 1 ∧ W 0 1 ≤ 5) ∧ (0 ≤ W 0 2 ∧ W 0 2 ≤ D) ∧ (∀ p, 0 ≤ p → p < 4 → (0 ≤ W 1 p ∧ W 1 p ≤ 4) ∧ (0 ≤ W 2 p ∧ W 2 p ≤ 7) ∧ (0 ≤ W 3 p ∧ W 3 p ≤ 9)) ∧ (∀ f, 0 ≤ f → f < 5 → (0 ≤ W 4 f ∧ W 4 f ≤ 9) ∧ (-1 ≤ W 5 f ∧ W 5 f ≤ 8) ∧ (-1 ≤ W 6 f ∧ W 6 f ≤ 3)) ∧ (∀ c, 0 ≤ c → c < 8 → 0 ≤ W 7 c ∧ W 7 c ≤ 29)
def FOk (fn : Int) (fo : Int → Int) : Prop := (0 ≤ fn ∧ fn ≤ 6) ∧ ∀ k, 0 ≤ k → k < fn → -3000 ≤ fo k ∧ fo k ≤ 3000
/-- the reference's world and feasts -/
def wv (τ : St) : Wd := fun r i => if r = 0 then (if i = 0 then τ 0 0 0 5 else if i = 1 then τ 0 0 0 9 else if i = 2 then τ 0 0 0 3 else 0) else if r = 7 then τ 2 0 0 i else if r < 7 then τ (r + 2) 0 0 i else 0
def fv (τ : St) : Int → Bool := isF (τ 0 0 0 1) (τ 1 0 0)
/-! first facts -/
theorem cntU_bd (p : Int → Bool) : ∀ n : Nat, 0 ≤ cntU p n ∧ cntU p n ≤ n
  | 0 => by simp [cntU]
  | n + 1 => by
    have h := cntU_bd p n
    rw [cntU]
    split <;> omega
theorem lst_spec (p : Int → Bool) : ∀ (n : Nat) (i : Int), lst p n i = -1 ∧ (∀ j, i ≤ j → j < i + n → p j = false) ∨ (i ≤ lst p n i ∧ lst p n i < i + n ∧ p (lst p n i) = true ∧ ∀ j, i ≤ j → j < lst p n i → p j = false)
  | 0, i => by
    left
    exact ⟨rfl, fun j h1 h2 => by omega⟩
  | n + 1, i => by
    rw [lst]
    by_cases h : p i = true
    · rw [if_pos h]
      right
      exact ⟨by omega, by omega, h, fun j h1 h2 => by omega⟩
    · rw [if_neg h]
      have h' : p i = false := by simpa using h
      rcases lst_spec p n (i + 1) with ⟨h1, h2⟩ | ⟨h1, h2, h3, h4⟩
      · left
        refine ⟨h1, fun j a b => ?_⟩
        by_cases e : j = i
        · rw [e]; exact h'
        · exact h2 j (by omega) (by omega)
      · right
        refine ⟨by omega, by omega, h3, fun j a b => ?_⟩
        by_cases e : j = i
        · rw [e]; exact h'
        · exact h4 j (by omega) (by omega)
theorem lst_bd (p : Int → Bool) (n : Nat) (i : Int) (h : 0 ≤ i) : -1 ≤ lst p n i ∧ lst p n i < i + n := by
  rcases lst_spec p n i with ⟨h1, -⟩ | ⟨h1, h2, -, -⟩ <;> omega
theorem pIn_bd {W : Wd} {D : Int} (h : WOk D W) (c nm : Int) : -1 ≤ pIn W c nm ∧ pIn W c nm < W 0 1 := by
  have := lst_bd (fun f => decide (W 5 f = c) && decide (W 6 f = -1) && decide (W 4 f ≠ nm)) (W 0 1).toNat 0 (by omega)
  have h2 := h.2.1
  unfold pIn
  omega
theorem prey_bd {F : Int → Bool} {W : Wd} {D : Int} (h : WOk D W) (p d : Int) : -1 ≤ prey F W p d ∧ prey F W p d < W 0 1 := by
  have h2 := h.2.1
  unfold prey
  split
  · omega
  · split
    · exact pIn_bd h _ _
    · split
      · exact pIn_bd h _ _
      · exact pIn_bd h _ _
theorem pIn_un {W : Wd} {c nm : Int} (h : pIn W c nm ≠ -1) : W 6 (pIn W c nm) = -1 := by
  unfold pIn at h ⊢
  rcases lst_spec (fun f => decide (W 5 f = c) && decide (W 6 f = -1) && decide (W 4 f ≠ nm)) (W 0 1).toNat 0 with ⟨h1, -⟩ | ⟨-, -, h3, -⟩
  · exact absurd h1 h
  · simp only [Bool.and_eq_true, decide_eq_true_eq] at h3
    exact h3.1.2
theorem prey_un {F : Int → Bool} {W : Wd} {p d : Int} (h : prey F W p d ≠ -1) : W 6 (prey F W p d) = -1 := by
  unfold prey at h ⊢
  split at h
  · exact absurd rfl h
  · rename_i h1
    rw [if_neg h1]
    split at h
    · rename_i h2
      rw [if_pos h2]
      exact pIn_un h
    · rename_i h2
      rw [if_neg h2]
      split at h
      · rename_i h3
        rw [if_pos h3]
        exact pIn_un h
      · rename_i h3
        rw [if_neg h3]
        exact pIn_un h
theorem wu_s (W : Wd) (r : Nat) (i v : Int) : wu W r i v r i = v := by simp [wu]
theorem wu_r {W : Wd} {r a : Nat} {i v b : Int} (h : a ≠ r) : wu W r i v a b = W a b := by simp [wu, h]
theorem wu_i {W : Wd} {r a : Nat} {i v b : Int} (h : b ≠ i) : wu W r i v a b = W a b := by simp [wu, h]
theorem wu6_ok {D : Int} {W : Wd} {i v : Int} (h : WOk D W) (h0 : -1 ≤ v) (h1 : v ≤ 3) : WOk D (wu W 6 i v) := by
  obtain ⟨a, b, c, d, e, f⟩ := h
  refine ⟨a, b, c, d, fun g g0 g1 => ?_, f⟩
  have := e g g0 g1
  refine ⟨this.1, this.2.1, ?_⟩
  show -1 ≤ wu W 6 i v 6 g ∧ wu W 6 i v 6 g ≤ 3
  unfold wu
  split <;> omega
/-- what going through a day leaves as it was -/
theorem goA_r (F : Int → Bool) (W : Wd) : ∀ (n r : Nat) (i : Int), r ≠ 6 → goA F W n r i = W r i
  | 0, _, _, _ => rfl
  | n + 1, r, i, h => by
    rw [goA]
    split
    · exact goA_r F W n r i h
    · rw [wu_r h]
      exact goA_r F W n r i h
theorem goA_ok {F : Int → Bool} {W : Wd} {D : Int} (h : WOk D W) : ∀ n : Nat, n ≤ 4 → WOk D (goA F W n)
  | 0, _ => h
  | n + 1, hn => by
    have ih := goA_ok (F := F) h n (by omega)
    rw [goA]
    split
    · exact ih
    · exact wu6_ok ih (by omega) (by omega)
theorem goD_r (F : Int → Bool) (W : Wd) {r : Nat} {i : Int} (h : r ≠ 6) (h2 : ¬ (r = 0 ∧ i = 2)) : goD F W r i = W r i := by
  unfold goD
  have : wu (goA F W (W 0 0).toNat) 0 2 (W 0 2 + 1) r i = goA F W (W 0 0).toNat r i := by simp [wu, h2]
  rw [this]
  exact goA_r F W _ r i h
theorem goD_day (F : Int → Bool) (W : Wd) : goD F W 0 2 = W 0 2 + 1 := wu_s _ _ _ _
theorem goD_6 (F : Int → Bool) (W : Wd) (i : Int) : goD F W 6 i = goA F W (W 0 0).toNat 6 i := wu_r (by decide)
theorem goD_ok {F : Int → Bool} {W : Wd} {D : Int} (h : WOk D W) : WOk (D + 1) (goD F W) := by
  have hn := h.1
  obtain ⟨a, b, c, d, e, f⟩ := goA_ok (F := F) h (W 0 0).toNat (by omega)
  have hd := h.2.2.1
  refine ⟨a, b, ?_, d, e, f⟩
  rw [goD_day]
  omega
theorem WOk_mono {W : Wd} {D D' : Int} (h : WOk D W) (hD : D ≤ D') : WOk D' W := by
  obtain ⟨a, b, c, d⟩ := h
  exact ⟨a, b, ⟨c.1, by omega⟩, d⟩
theorem dN_ok {F : Int → Bool} {W : Wd} {D : Int} (h : WOk D W) : ∀ n : Nat, WOk (D + n) (dN F W n)
  | 0 => by simpa [dN] using h
  | n + 1 => WOk_mono (goD_ok (dN_ok h n)) (by omega)
theorem dN_r (F : Int → Bool) (W : Wd) {r : Nat} {i : Int} (h : r ≠ 6) (h2 : ¬ (r = 0 ∧ i = 2)) : ∀ n : Nat, dN F W n r i = W r i
  | 0 => rfl
  | n + 1 => by rw [dN, goD_r F _ h h2, dN_r F W h h2 n]
theorem dN_s (F : Int → Bool) (W : Wd) : ∀ n : Nat, dN F (goD F W) n = dN F W (n + 1)
  | 0 => rfl
  | n + 1 => by rw [dN, dN_s F W n]; rfl

