/-! rows stay well-formed: bytes, texts, acres -/
theorem sp_wf_t {q : sp_R} (h : sp_wf q) {k n : Nat} (hk : k < 50) (hn : n < 256) : sp_wf (sp_up q (113 + k) (nI n)) := by
  obtain ⟨a0, a1, a2, a3, a4, a5, a6, a7, a8, a9⟩ := h
  have g : ∀ j, j < 113 → sp_up q (113 + k) (nI n) j = q j := fun j hj => sp_up_ne q _ (by omega)
  have e : sp_n (sp_up q (113 + k) (nI n)) = sp_n q := by unfold sp_n; rw [g 0 (by decide)]
  have hf : ∀ i, i < sp_n q → i < 10 := fun i hi => by
    obtain ⟨m, h1, h2⟩ := a0
    unfold sp_n at hi
    rw [h2, nI_clamp (Nat.lt_of_le_of_lt h1 (by decide))] at hi
    exact Nat.lt_of_lt_of_le hi h1
  refine ⟨?_, ?_, ?_, ?_, ?_, ?_, ?_, ?_, ?_, ?_⟩
  · rw [g 0 (by decide)]; exact a0
  · intro j hj
    rw [e] at hj
    refine sp_al_fw (fun v hv => ?_)
    have hj10 := hf j hj
    rw [g _ (by clear a0 a3 a4 a5 a6 a7; omega)]
    exact sp_fw_al (a1 j hj) hv
  · intro u hu
    exact sp_tw_up (by omega) (by omega) (a2 u hu)
  · rw [g 1 (by decide)]; exact a3
  · rw [g 2 (by decide)]; exact a4
  · rw [g 4 (by decide)]; exact a5
  · rw [g 5 (by decide)]; exact a6
  · rw [g 8 (by decide)]; exact a7
  · intro o ho
    rw [g (9 + o) (Nat.lt_of_lt_of_le (Nat.add_lt_add_left ho 9) (by decide))]; exact a8 o ho
  · intro j hj
    by_cases hjk : j = k
    · rw [hjk, sp_up_eq]; exact ⟨n, hn, rfl⟩
    · rw [sp_up_ne q _ (fun z => hjk (Nat.add_left_cancel z))]; exact a9 j hj
theorem sp_by8_lt (w : Int64) (k : Nat) : ∃ n, n < 256 ∧ sp_by8 w k = nI n := by
  unfold sp_by8
  generalize (w >>> ((nI (8 * k)).toInt64 &&& 63)) = y
  have h := Jvm.Kit.i64_mask y 255 (k := 8) (by decide) (by decide)
  have h3 : (y &&& 255).toInt32.toInt = y.toInt % 2 ^ 8 := by rw [Jvm.Kit.i32_of_i64 (by omega) (by omega), h]
  refine ⟨(y.toInt % 2 ^ 8).toNat, by omega, ?_⟩
  rw [← Int32.toInt_inj, h3, nI_toInt (by omega)]
  omega
theorem sp_wf_4 {q : sp_R} (h : sp_wf q) {n : Nat} (hn : n ≤ 50) : sp_wf (sp_up q 4 (nI n)) := sp_wf_h h (by decide) (fun z => by omega) (fun _ => ⟨n, hn, rfl⟩) (fun z => by omega) (fun z => by omega) (fun z => by omega)
theorem sp_fd_wf {q : sp_R} (h : sp_wf q) (w : Int64) (t : Nat) : ∀ n, t + n ≤ 50 → sp_wf (sp_fd w q t n)
  | 0, _ => by unfold sp_fd; exact h
  | n + 1, hn => by
    rw [sp_fd_s]
    obtain ⟨b, hb, e⟩ := sp_by8_lt w n
    rw [e]
    exact sp_wf_4 (sp_wf_t (sp_fd_wf h w t n (by omega)) (by omega) hb) (by omega)
theorem sp_ac_wf {t : sp_R} {s : Nat} : ∀ f k (q : sp_R), sp_wf q → k + f ≤ 10 → sp_wf (sp_ac t s f k q).2 := by
  intro f
  induction f with
  | zero =>
    intro k q h hk
    rw [sp_ac_0]
    exact h
  | succ f ih =>
    intro k q h hk
    rw [sp_ac_s]
    by_cases g : nI 1 ≤ t (40 * s + k) ∧ t (40 * s + k) ≤ nI 99
    · rw [sp_if_t g]
      obtain ⟨m, h1, h2⟩ := (i_in (v := t (40 * s + k)) (n := 99) (by decide)).mp ⟨Int32.le_trans (by decide) g.1, g.2⟩
      have h3 : 1 ≤ m := by
        have := g.1
        rw [h2] at this
        exact (nI_leI (by decide) (by omega)).mp this
      exact ih (k + 1) _ (sp_wf_f h (by omega) (by decide) (Or.inr (Or.inr (Or.inl ⟨rfl, m, h3, h1, h2⟩)))) (by omega)
    · rw [sp_if_f g]
      exact h
theorem sp_tt_wf {q : sp_R} (h : sp_wf q) {u n : Nat} (hu : u < 2) (hn : n ≤ 50) (e4 : q 4 = nI n) (hp : (sp_ps (sp_tp q) n u).1 = true ∧ (sp_ps (sp_tp q) n u).2.1 = n) : sp_wf (sp_tt q u) := by
  have hx := sp_tt_p q u hu hn
  obtain ⟨a0, a1, a2, a3, a4, a5, a6, a7, a8, a9⟩ := h
  have g : ∀ j, j < 183 → j ≠ 6 + u → sp_tt q u j = q j := fun j hj h6 => (sp_up_ne _ _ h6).trans (sp_tk_n q u 50 hj)
  have e : sp_n (sp_tt q u) = sp_n q := by unfold sp_n; rw [g 0 (by decide) (by omega)]
  have hf : ∀ i, i < sp_n q → i < 10 := fun i hi => by
    obtain ⟨m, h1, h2⟩ := a0
    unfold sp_n at hi
    rw [h2, nI_clamp (Nat.lt_of_le_of_lt h1 (by decide))] at hi
    exact Nat.lt_of_lt_of_le hi h1
  refine ⟨?_, ?_, ?_, ?_, ?_, ?_, ?_, ?_, ?_, ?_⟩
  · rw [g 0 (by decide) (by omega)]; exact a0
  · intro j hj
    rw [e] at hj
    refine sp_al_fw (fun v hv => ?_)
    have hj10 := hf j hj
    rw [g _ (by clear a0 a3 a4 a5 a6 a7; omega) (by clear a0 a3 a4 a5 a6 a7; omega)]
    exact sp_fw_al (a1 j hj) hv
  · intro u' hu'
    by_cases hh : u' = u
    · subst hh
      refine Or.inr ⟨n, hn, ?_, ?_, ?_⟩
      · unfold sp_tt
        rw [sp_up_eq, e4]
      · rw [hx]; exact hp.1
      · rw [hx]; exact hp.2
    · have e1 : sp_tt q u (6 + u') = q (6 + u') := g _ (by omega) (by omega)
      have e2 : ∀ k, k < 50 → sp_tx (sp_tt q u) u' k = sp_tx q u' k := fun k hk => by
        unfold sp_tx sp_tt
        rw [sp_up_ne _ _ (by omega)]
        exact if_neg (by omega)
      rcases a2 u' hu' with h | ⟨m, h1, h2, h3, h4⟩
      · exact Or.inl (e1.trans h)
      · have e3 := sp_ps_c (n := m) u' (fun k hk => e2 k (by omega))
        exact Or.inr ⟨m, h1, e1.trans h2, by rw [e3]; exact h3, by rw [e3]; exact h4⟩
  · rw [g 1 (by decide) (by omega)]; exact a3
  · rw [g 2 (by decide) (by omega)]; exact a4
  · rw [g 4 (by decide) (by omega)]; exact a5
  · rw [g 5 (by decide) (by omega)]; exact a6
  · rw [g 8 (by decide) (by omega)]; exact a7
  · intro o ho
    rw [g (9 + o) (by omega) (by omega)]; exact a8 o ho
  · intro j hj
    rw [g (113 + j) (by omega) (by omega)]; exact a9 j hj
