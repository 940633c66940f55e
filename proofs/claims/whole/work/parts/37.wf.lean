/-! rows stay well-formed -/
theorem sp_al_told {o k : Nat} (ho : o < 4) (hk : k < 10) : sp_al (6 + o) (nI k) := Or.inr (Or.inr (Or.inr (Or.inr (Or.inr (Or.inr ⟨by omega, by omega, k, hk, rfl⟩)))))
theorem sp_al_no4 : sp_al 4 (-1) := Or.inr (Or.inr (Or.inr (Or.inr (Or.inl ⟨rfl, Or.inl rfl⟩))))
theorem sp_al_no5 : sp_al 5 (-1) := Or.inr (Or.inr (Or.inr (Or.inr (Or.inr (Or.inl ⟨rfl, Or.inl rfl⟩)))))
theorem sp_tz_wf {q : sp_R} (h : sp_wf q) {i : Nat} (hi : i < 10) : sp_wf (sp_tz q i) :=
  sp_wf_f (sp_wf_f (sp_wf_f (sp_wf_f (sp_wf_f (sp_wf_f h hi (by decide) sp_al_no4) hi (by decide) sp_al_no5) hi (by decide) (sp_al_told (o := 0) (k := 0) (by decide) (by decide))) hi (by decide) (sp_al_told (o := 1) (k := 0) (by decide) (by decide))) hi (by decide) (sp_al_told (o := 2) (k := 0) (by decide) (by decide))) hi (by decide) (sp_al_told (o := 3) (k := 0) (by decide) (by decide))
theorem sp_km_wf {q : sp_R} (h : sp_wf q) {i km : Nat} (hi : i < 10) (hk : km ≤ 69) : sp_wf (sp_up (sp_up q (13 + 10 * i + 0) (nI (km / 10))) (13 + 10 * i + 1) (nI (km % 10))) :=
  sp_wf_f (sp_wf_f h hi (by decide) (Or.inl ⟨rfl, km / 10, by omega, rfl⟩)) hi (by decide) (Or.inr (Or.inl ⟨rfl, km % 10, by omega, rfl⟩))
theorem sp_fr_wf {q : sp_R} (h : sp_wf q) {o : Nat} (ho : o < 4) {v : Int32} (hv : sp_isW v 9) : sp_wf (sp_up q (9 + o) v) := by
  obtain ⟨n, h1, h2⟩ := (i_in (by decide)).mp hv
  exact sp_wf_h h (by omega) (fun z => by omega) (fun z => by omega) (fun z => by omega) (fun z => by omega) (fun _ => ⟨n, h1, h2⟩)
theorem sp_pc_wf {q : sp_R} (h : sp_wf q) {v : Int32} (hv : nI 1 ≤ v ∧ v ≤ nI 20) : sp_wf (sp_up q 8 v) := by
  obtain ⟨n, h1, h2⟩ := (i_in (v := v) (n := 20) (by decide)).mp ⟨Int32.le_trans (by decide) hv.1, hv.2⟩
  have h3 : 1 ≤ n := by
    have := hv.1
    rw [h2] at this
    exact (nI_leI (by decide) (by omega)).mp this
  exact sp_wf_h h (by omega) (fun z => by omega) (fun z => by omega) (fun z => by omega) (fun _ => ⟨n, h3, h1, h2⟩) (fun z => by omega)
theorem sp_sd_wf {q : sp_R} (h : sp_wf q) (v : Int32) : sp_wf (sp_up q 3 v) := sp_wf_h h (by omega) (fun z => by omega) (fun z => by omega) (fun z => by omega) (fun z => by omega) (fun z => by omega)
theorem sp_wf_w {q : sp_R} (h : sp_wf q) {k : Nat} {x : Int32} (hk : 163 ≤ k ∧ k < 183) : sp_wf (sp_up q k x) := by
  obtain ⟨a0, a1, a2, a3, a4, a5, a6, a7, a8, a9⟩ := h
  have g : ∀ j, j < 163 → sp_up q k x j = q j := fun j hj => sp_up_ne q x (fun z => absurd hk.1 (by rw [← z]; exact Nat.not_le.mpr hj))
  have e : sp_n (sp_up q k x) = sp_n q := by unfold sp_n; rw [g 0 (by decide)]
  have hf : ∀ i, i < sp_n q → i < 10 := fun i hi => by
    obtain ⟨n, h1, h2⟩ := a0
    unfold sp_n at hi
    rw [h2, nI_clamp (Nat.lt_of_le_of_lt h1 (by decide))] at hi
    exact Nat.lt_of_lt_of_le hi h1
  refine ⟨?_, ?_, ?_, ?_, ?_, ?_, ?_, ?_, ?_, ?_⟩
  · rw [g 0 (by decide)]; exact a0
  · intro j hj
    rw [e] at hj
    refine sp_al_fw (fun v hv => ?_)
    have hj10 := hf j hj
    rw [g _ (by clear a0 a3 a4 a5 a6 a7; omega)]
    exact sp_fw_al (a1 j hj) hv
  · intro u hu
    exact sp_tw_up hk.2 (fun z => absurd hk.1 (by rw [z]; exact Nat.not_le.mpr (Nat.lt_of_lt_of_le (Nat.add_lt_add_left hu 6) (by decide)))) (a2 u hu)
  · rw [g 1 (by decide)]; exact a3
  · rw [g 2 (by decide)]; exact a4
  · rw [g 4 (by decide)]; exact a5
  · rw [g 5 (by decide)]; exact a6
  · rw [g 8 (by decide)]; exact a7
  · intro o ho
    rw [g (9 + o) (Nat.lt_of_lt_of_le (Nat.add_lt_add_left ho 9) (by decide))]; exact a8 o ho
  · intro j hj
    rw [g (113 + j) (Nat.add_lt_add_left hj 113)]; exact a9 j hj
theorem sp_te_wf {q : sp_R} (h : sp_wf q) {n : Nat} (hn : n < 20) (v : Int32) : sp_wf (sp_up (sp_up q (163 + n) v) 5 (nI (n + 1))) :=
  sp_wf_h (sp_wf_w h (by omega)) (by omega) (fun z => by omega) (fun z => by omega) (fun _ => ⟨n + 1, hn, rfl⟩) (fun z => by omega) (fun z => by omega)
/-- one field more -/
theorem sp_wf_n {q : sp_R} (h : sp_wf q) (hn : sp_n q < 10) (hf : sp_fw q (sp_n q)) : sp_wf (sp_up q 0 (nI (sp_n q + 1))) := by
  have en := h.n
  obtain ⟨a0, a1, a2, a3, a4, a5, a6, a7, a8, a9⟩ := h
  have g : ∀ j, 0 < j → sp_up q 0 (nI (sp_n q + 1)) j = q j := fun j hj => sp_up_ne q _ (Nat.ne_of_gt hj)
  have e : sp_n (sp_up q 0 (nI (sp_n q + 1))) = sp_n q + 1 := by
    rw [sp_n, sp_up_eq, nI_clamp (Nat.lt_of_le_of_lt (show sp_n q + 1 ≤ 10 from hn) (by decide))]
  refine ⟨⟨sp_n q + 1, hn, sp_up_eq _ _ _⟩, ?_, ?_, ?_, ?_, ?_, ?_, ?_, ?_, ?_⟩
  · intro j hj
    rw [e] at hj
    refine sp_al_fw (fun v hv => ?_)
    rw [g _ (Nat.lt_of_lt_of_le (by decide : 0 < 13) (by rw [Nat.add_assoc]; exact Nat.le_add_right _ _))]
    rcases Nat.lt_or_ge j (sp_n q) with hj' | hj'
    · exact sp_fw_al (a1 j hj') hv
    · rw [Nat.le_antisymm (Nat.le_of_lt_succ hj) hj']
      exact sp_fw_al hf hv
  · intro u hu
    exact sp_tw_up (by decide) (by clear a0 a3 a4 a5 a6 a7; omega) (a2 u hu)
  · rw [g 1 (by decide)]; exact a3
  · rw [g 2 (by decide)]; exact a4
  · rw [g 4 (by decide)]; exact a5
  · rw [g 5 (by decide)]; exact a6
  · rw [g 8 (by decide)]; exact a7
  · intro o ho
    rw [g (9 + o) (Nat.lt_of_lt_of_le (by decide) (Nat.le_add_right 9 o))]; exact a8 o ho
  · intro j hj
    rw [g (113 + j) (Nat.lt_of_lt_of_le (by decide) (Nat.le_add_right 113 j))]; exact a9 j hj
