/-! between calls: one call more -/
theorem IM_s {B : Int} {τ : St} (h : IM B τ) : IM (B + 1) τ := h.mono (by omega)
theorem I_letter {B : Int} {τ : St} (c : Int) (h : IM B τ) : IM (B + 1) (sLetter τ c) := by
  unfold sLetter
  split
  · exact IM_s h
  · exact IM_s (IM_letter (by omega) (by omega) h)
theorem I_blank {B : Int} {τ : St} (h : IM B τ) : IM (B + 1) (sBlank τ) := IM_s (IM_blank h)
theorem I_feasts {B : Int} {τ : St} (h : IM B τ) : IM (B + 1) (sFeasts τ) := by
  unfold sFeasts
  split
  · rename_i q
    have hl := h.2.2.2.2.1
    have := (whl_ok q hl.1).1
    exact IM_feasts h (by omega)
  · exact IM_s h
theorem I_forge {B : Int} {τ : St} (c d : Int) (h : IM B τ) : IM (B + 1) (sForge τ c d) := by
  unfold sForge
  split
  · exact IM_s (IM_forge (by omega) h)
  · exact IM_s h
theorem I_pack {B : Int} {τ : St} (k c g : Int) (h : IM B τ) : IM (B + 1) (sPack τ k c g) := by
  unfold sPack
  split
  · rename_i q
    exact IM_s (IM_pack q.2.1 q.1 q.2.2.1 q.2.2.2 h)
  · exact IM_s h
theorem I_flock {B : Int} {τ : St} (n c : Int) (h : IM B τ) : IM (B + 1) (sFlock τ n c) := by
  unfold sFlock
  split
  · rename_i q
    exact IM_s (IM_flock q.1 q.2.1 q.2.2 h)
  · exact IM_s h
theorem I_name {B : Int} {τ : St} (f n : Int) (h : IM B τ) : IM (B + 1) (sName τ f n) := by
  unfold sName
  split
  · exact IM_s (IM_name (by omega) h)
  · exact IM_s h
theorem I_move {B : Int} {τ : St} (f n : Int) (h : IM B τ) : IM (B + 1) (sMove τ f n) := by
  unfold sMove
  split
  · exact IM_s (IM_move (by omega) h)
  · exact IM_s h
theorem I_graze {B : Int} {τ : St} (f d w : Int) (h : IM B τ) : IM (B + 1) (sGraze τ f d w) := by
  unfold sGraze
  split
  · exact IM_s (IM_graze (by omega) h)
  · exact IM_s h
theorem I_watch {B : Int} {τ : St} (p : Int) (h : IM B τ) : IM (B + 1) (sWatch τ p) := by
  unfold sWatch
  split
  · exact IM_s h
  · exact IM_s (IM_watch (by omega) h)
theorem I_seen {B : Int} {τ : St} (b : Bool) (h : IM B τ) : IM (B + 1) (sSeen τ b) := by
  unfold sSeen
  split
  · exact IM_s h
  · exact IM_s (IM_seen (by cases b <;> simp) (by omega) h)
theorem I_image {B : Int} {τ : St} (h : IM B τ) : IM (B + 1) (sImage τ) := IM_s (IM_image h)
theorem I_restore {B : Int} {τ : St} (h : IM B τ) : IM (B + 1) (sRestore τ) := by
  by_cases q : τ 0 0 0 30 = 0
  · rw [sRestore, if_pos q]
    exact IM_s h
  · have hk := h.2.2.2.2.2.2.2.2.2.2.2.1
    rw [sRestore_e q]
    exact IM_s (IM_restore h (by omega))
