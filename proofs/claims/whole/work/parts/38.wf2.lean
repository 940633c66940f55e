/-! the row with a field more -/
def sp_f4 (q : sp_R) (n km : Nat) (a : Int32) : sp_R := sp_up (sp_up (sp_up (sp_up q (13 + 10 * n + 0) (nI (km / 10))) (13 + 10 * n + 1) (nI (km % 10))) (13 + 10 * n + 2) a) (13 + 10 * n + 3) (nI 0)
theorem sp_f4_wf {q : sp_R} (h : sp_wf q) {n km : Nat} (hn : n < 10) (hk : km ≤ 69) {a : Int32} (ha : nI 1 ≤ a ∧ a ≤ nI 99) : sp_wf (sp_f4 q n km a) := by
  obtain ⟨m, h1, h2⟩ := (i_in (v := a) (n := 99) (by decide)).mp ⟨Int32.le_trans (by decide) ha.1, ha.2⟩
  have h3 : 1 ≤ m := by
    have := ha.1
    rw [h2] at this
    exact (nI_leI (by decide) (by omega)).mp this
  exact sp_wf_f (sp_wf_f (sp_km_wf h hn hk) hn (by decide) (Or.inr (Or.inr (Or.inl ⟨rfl, m, h3, h1, h2⟩)))) hn (by decide) (Or.inr (Or.inr (Or.inr (Or.inl ⟨rfl, 0, by decide, rfl⟩))))
theorem sp_fi_fw {q : sp_R} {n km : Nat} (hk : km ≤ 69) {a : Int32} (ha : nI 1 ≤ a ∧ a ≤ nI 99) : sp_fw (sp_tz (sp_f4 q n km a) n) n := by
  obtain ⟨m, h1, h2⟩ := (i_in (v := a) (n := 99) (by decide)).mp ⟨Int32.le_trans (by decide) ha.1, ha.2⟩
  have h3 : 1 ≤ m := by
    have := ha.1
    rw [h2] at this
    exact (nI_leI (by decide) (by omega)).mp this
  have lo : ∀ w, w < 4 → sp_tz (sp_f4 q n km a) n (13 + 10 * n + w) = sp_f4 q n km a (13 + 10 * n + w) := by
    intro w hw
    unfold sp_tz
    rw [sp_up_ne _ _ (by omega), sp_up_ne _ _ (by omega), sp_up_ne _ _ (by omega), sp_up_ne _ _ (by omega), sp_up_ne _ _ (by omega), sp_up_ne _ _ (by omega)]
  refine sp_al_fw (fun w hw => ?_)
  rcases (show w = 0 ∨ w = 1 ∨ w = 2 ∨ w = 3 ∨ w = 4 ∨ w = 5 ∨ w = 6 + 0 ∨ w = 6 + 1 ∨ w = 6 + 2 ∨ w = 6 + 3 by omega) with rfl | rfl | rfl | rfl | rfl | rfl | rfl | rfl | rfl | rfl
  · rw [lo 0 (by decide)]
    unfold sp_f4
    rw [sp_up_ne _ _ (by omega), sp_up_ne _ _ (by omega), sp_up_ne _ _ (by omega), sp_up_eq]
    exact Or.inl ⟨rfl, km / 10, by omega, rfl⟩
  · rw [lo 1 (by decide)]
    unfold sp_f4
    rw [sp_up_ne _ _ (by omega), sp_up_ne _ _ (by omega), sp_up_eq]
    exact Or.inr (Or.inl ⟨rfl, km % 10, by omega, rfl⟩)
  · rw [lo 2 (by decide)]
    unfold sp_f4
    rw [sp_up_ne _ _ (by omega), sp_up_eq]
    exact Or.inr (Or.inr (Or.inl ⟨rfl, m, h3, h1, h2⟩))
  · rw [lo 3 (by decide)]
    unfold sp_f4
    rw [sp_up_eq]
    exact Or.inr (Or.inr (Or.inr (Or.inl ⟨rfl, 0, by decide, rfl⟩)))
  · unfold sp_tz
    rw [sp_up_ne _ _ (by omega), sp_up_ne _ _ (by omega), sp_up_ne _ _ (by omega), sp_up_ne _ _ (by omega), sp_up_ne _ _ (by omega), sp_up_eq]
    exact sp_al_no4
  · unfold sp_tz
    rw [sp_up_ne _ _ (by omega), sp_up_ne _ _ (by omega), sp_up_ne _ _ (by omega), sp_up_ne _ _ (by omega), sp_up_eq]
    exact sp_al_no5
  · unfold sp_tz
    rw [sp_up_ne _ _ (by omega), sp_up_ne _ _ (by omega), sp_up_ne _ _ (by omega), sp_up_eq]
    exact sp_al_told (o := 0) (k := 0) (by decide) (by decide)
  · unfold sp_tz
    rw [sp_up_ne _ _ (by omega), sp_up_ne _ _ (by omega), sp_up_eq]
    exact sp_al_told (o := 1) (k := 0) (by decide) (by decide)
  · unfold sp_tz
    rw [sp_up_ne _ _ (by omega), sp_up_eq]
    exact sp_al_told (o := 2) (k := 0) (by decide) (by decide)
  · unfold sp_tz
    rw [sp_up_eq]
    exact sp_al_told (o := 3) (k := 0) (by decide) (by decide)
theorem sp_fi_wf {q : sp_R} (h : sp_wf q) {km : Nat} (hn : sp_n q < 10) (hk : km ≤ 69) {a : Int32} (ha : nI 1 ≤ a ∧ a ≤ nI 99) : sp_wf (sp_fi q km a) := by
  have h1 := sp_tz_wf (sp_f4_wf h hn hk ha) hn
  have e : sp_n (sp_tz (sp_f4 q (sp_n q) km a) (sp_n q)) = sp_n q := by
    unfold sp_n
    rw [sp_tz_0]
    unfold sp_f4
    rw [sp_up_ne _ _ (by omega), sp_up_ne _ _ (by omega), sp_up_ne _ _ (by omega), sp_up_ne _ _ (by omega)]
  have h2 := sp_wf_n h1 (by rw [e]; exact hn) (by rw [e]; exact sp_fi_fw hk ha)
  rw [e] at h2
  exact h2
