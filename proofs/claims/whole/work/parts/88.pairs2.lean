/-! pairs: errors by hand, odds, voices, sheets, images -/
theorem sp_tw_c {q p : sp_R} (e : ∀ j, j < 283 → p j = q j) {u : Nat} (hu : u < 2) (h : sp_tw q u) : sp_tw p u := by
  have g : ∀ n, n ≤ 50 → sp_ps (sp_tx p u) n u = sp_ps (sp_tx q u) n u := fun n hn => sp_ps_c u (fun k hk => e _ (by omega))
  unfold sp_tw at h ⊢
  rw [e (6 + u) (by omega)]
  rcases h with h | ⟨n, h1, h2, h3, h4⟩
  · exact Or.inl h
  · exact Or.inr ⟨n, h1, h2, by rw [g n h1]; exact h3, by rw [g n h1]; exact h4⟩
theorem sp_n_c {q p : sp_R} (e : ∀ j, j < 283 → p j = q j) : sp_n p = sp_n q := by
  unfold sp_n
  rw [e 0 (by decide)]
theorem sp_wf_c {q p : sp_R} (e : ∀ j, j < 283 → p j = q j) (h : sp_wf q) : sp_wf p := by
  have h10 := h.n.1
  obtain ⟨a0, a1, a2, a3, a4, a5, a6, a7, a8, a9⟩ := h
  refine ⟨?_, fun i hi => ?_, fun u hu => sp_tw_c e hu (a2 u hu), ?_, ?_, ?_, ?_, ?_, fun o ho => ?_, fun k hk => ?_⟩
  · rw [e 0 (by decide)]; exact a0
  · rw [sp_n_c e] at hi
    refine sp_al_fw (fun v hv => ?_)
    rw [e _ (by clear a0 a3 a4 a5 a6 a7; omega)]
    exact sp_fw_al (a1 i hi) hv
  · rw [e 1 (by decide)]; exact a3
  · rw [e 2 (by decide)]; exact a4
  · rw [e 4 (by decide)]; exact a5
  · rw [e 5 (by decide)]; exact a6
  · rw [e 8 (by decide)]; exact a7
  · rw [e (9 + o) (by clear a0 a3 a4 a5 a6 a7; omega)]; exact a8 o ho
  · rw [e (113 + k) (by clear a0 a3 a4 a5 a6 a7; omega)]; exact a9 k hk
theorem CL_c {S : wp_S} {q p : sp_R} (e : ∀ j, j < 283 → p j = q j) (C : CL S q) : CL S p := by
  refine ⟨⟨fun j h1 h2 h3 h4 => ?_, by rw [sp_n_c e]; exact C.1.2⟩, C.2.1, fun u hu => ?_⟩
  · unfold sp_us1 at h4
    rw [sp_n_c e] at h4
    rw [e j (by omega)]
    exact C.1.1 j h1 h2 h3 h4
  · obtain ⟨g1, g2, g3, g4⟩ := C.2.2 u hu
    have ec : sp_code p u = sp_code q u := sp_code_c (e _ (by omega)) (fun k hk => e _ (by omega)) g1
    unfold cLw
    rw [ec]
    exact ⟨sp_tw_c e hu g1, g2, g3, g4⟩
section PS
variable {S : wp_S} {q : sp_R} {k : Nat}
theorem er_0 (f : sp_R) : sp_er f 0 = f := if_pos rfl
theorem er_u (S : wp_S) (c : Nat) {e : Nat} (he : e ≠ 0) : (wp_u S c e (S.2 c e + nI 1)).2 c = sp_er (S.2 c) e := by
  unfold sp_er
  rw [if_neg he]
  funext j
  rw [wp_u2]
  by_cases h : j = e
  · rw [if_pos ⟨rfl, h⟩, h, sp_up_eq]
  · rw [if_neg (fun z => h z.2), sp_up_ne _ _ h]
theorem mC_un {c j : Nat} {x : Int32} (C : mC S q (-1)) (h : c ≠ 91 ∧ c ≠ 92) : mC (wp_u S c j x) q (-1) := ⟨(funext fun i => wp_un (by omega)).trans C.1, (wp_un (by omega)).trans C.2⟩
theorem iv_err (I : Iv k S q) {e : Nat} (he : e ≠ 0) (h6 : e < 6) : Iv k (wp_u (wp_u S 90 e (S.2 90 e + nI 1)) 96 e ((wp_u S 90 e (S.2 90 e + nI 1)).2 96 e + nI 1)) q :=
  iv_after (o := (e, 0, q)) (S1 := wp_u S 90 e (S.2 90 e + nI 1)) I h6 I.2.2.1 (CL_90 I.1) (er_u S 90 he) (fun a j h => wp_un (fun z => h (Or.inr z.1))) (mC_un (mC_un I.2.1 (by decide)) (by decide)) (er_u _ 96 he) (fr.rf.up (Or.inr rfl))
theorem pr_odds (I : Iv k S q) (o w : Int32) : cl 100 y_Fo_odds [.ref 0, .int o, .int w] S (fun r S1 => ∃ v, r = some (.long v) ∧ cl 100 y_Mo_odds [.ref 91, .int o, .int w] S1 (fun r2 S2 => r2 = some (.long v) ∧ ∃ q1, Iv k S2 q1)) := by
  refine cl_mono (d := h_Fo_odds) (Nat.le_of_ble_eq_true rfl) (c_odds I.1 I.2.2.1 o w (fun h S1 C1 f1 => ⟨_, rfl, ?_⟩) (fun h => ⟨_, rfl, ?_⟩))
  · have g1 : ∀ a j, ¬ cX a j → S1.2 a j = S.2 a j := fun a j z => f1.2 a j (fun y => z (by unfold cS at y; unfold cX cY; omega))
    have g2 : S1.2 90 = S.2 90 := funext fun j => f1.2 90 j (by unfold cS; omega)
    exact cl_mono (d := h_Mo_odds) (Nat.le_of_ble_eq_true rfl) (m_odds (mC_91 I.2.1 (fun a j z => g1 a j (by unfold cX cY; omega))) I.2.2.1 o w (fun _ S2 C2 f2 => ⟨rfl, q, iv_after (o := (0, 0, q)) I (Nat.zero_lt_succ 5) I.2.2.1 C1 (g2.trans (er_0 _).symm) g1 C2 ((f2.row (fun j z => by unfold mY ps_D at z; omega)).trans (er_0 _).symm) (f2.mono (fun _ _ z => Or.inl z))⟩) (fun z => absurd h z))
  · exact cl_mono (d := h_Mo_odds) (Nat.le_of_ble_eq_true rfl) (m_odds (mC_un I.2.1 (by decide)) I.2.2.1 o w (fun z => absurd z h) (fun _ => ⟨rfl, q, iv_err I (by decide) (by decide)⟩))
theorem sp_vo_le (n m x : Int32) (K a : Nat) : (sp_vo n m K a x).1.length ≤ 40 := by
  unfold sp_vo
  split
  · exact Nat.le_trans (sp_vh_le _ _ _) (by decide)
  · split
    · exact Nat.le_trans (sp_vs_le _ _ _ _ _) (by decide)
    · split
      · exact Nat.le_trans (sp_vf_le _ _ _ _) (by decide)
      · exact Nat.le_trans (sp_vt_le _ _ _ _ _) (by decide)
theorem sp_isF_i (hw : sp_wf q) {i : Nat} (hi : i < sp_n q) : sp_isF q (nI i) := by
  have hn := hw.n
  unfold sp_isF
  rw [hn.2]
  exact (i_fld (by omega)).mpr ⟨i, hi, rfl⟩
theorem pr_voice (I : Iv k S q) (v a x : Int32) : lP y_Fo_voice y_Mo_voice [.int v, .int a, .int x] (fun S2 => ∃ q1, Iv k S2 q1) S := by
  have hn := I.2.2.1.n
  refine cl_mono (d := h_Fo_voice) (Nat.le_of_ble_eq_true rfl) (c_voice I.1 I.2.2.1 v a x (fun i hi ev b hb ea S1 C1 f1 e1 e2 => ⟨_, rfl, ?_⟩) (fun h => ⟨_, rfl, ?_⟩))
  · have g1 : ∀ c j, c ≠ 79 ∧ c ≠ 80 → S1.2 c j = S.2 c j := fun c j z => f1.2 c j (fun y => by unfold cVv at y; omega)
    refine cl_mono (d := h_Mo_voice) (Nat.le_of_ble_eq_true rfl) (m_voice (mC_91 I.2.1 (fun c j z => g1 c j (by omega))) I.2.2.1 v a x (fun i' hi' ev' b' hb' ea' S2 C2 f2 e3 e4 => ?_) (fun h => absurd ⟨ev ▸ sp_isF_i I.2.2.1 hi, ea ▸ (i_in (by decide)).mpr ⟨b, hb, rfl⟩⟩ h))
    obtain rfl : i = i' := (nI_eq (by omega) (by omega)).mp (ev.symm.trans ev')
    obtain rfl : b = b' := (nI_eq (by omega) (by omega)).mp (ea.symm.trans ea')
    have g2 : ∀ c j, c ≠ 91 ∧ c ≠ 104 → S2.2 c j = S1.2 c j := fun c j z => f2.2 c j (fun y => by unfold mV at y; omega)
    have g3 : ∀ j, j < 24 → S2.2 91 j = S1.2 91 j := fun j z => f2.2 91 j (fun y => by unfold mV at y; omega)
    refine ⟨rfl, q, C1.fr (fun c j y => g2 c j (by unfold cW at y; omega)), C2, I.2.2.1, ?_, ?_, ?_, ?_⟩
    · exact Iv_s_fr I.2.2.2.1 (fun c j z => (g2 c j (by omega)).trans (g1 c j (by omega)))
    · intro j hj
      rw [g2 90 j (by decide), g2 96 j (by decide), g1 90 j (by decide), g1 96 j (by decide)]
      exact I.2.2.2.2.1 j hj
    · refine Iv_i_fr I.2.2.2.2.2.1 (Nat.le_refl _) (fun c j z => ?_)
      rcases z with z | z | z | ⟨z, y⟩
      · exact (g2 c j (by omega)).trans (g1 c j (by omega))
      · exact (g2 c j (by omega)).trans (g1 c j (by omega))
      · exact (g2 c j (by omega)).trans (g1 c j (by omega))
      · subst z
        exact (g3 j (by omega)).trans (g1 91 j (by decide))
    · refine ⟨_, sp_vo_le (nI i) (nI (sp_m q i)) x (sp_kd q i) b, (g2 79 1 (by decide)).trans e1, e3, fun j hj => ?_⟩
      have e := List.getElem?_eq_getElem hj
      exact (g2 80 j (by decide)).trans ((e2 j _ e).trans (e4 j _ e).symm)
  · exact cl_mono (d := h_Mo_voice) (Nat.le_of_ble_eq_true rfl) (m_voice (mC_un I.2.1 (by decide)) I.2.2.1 v a x (fun i hi ev b hb ea => absurd ⟨ev ▸ sp_isF_i I.2.2.1 hi, ea ▸ (i_in (by decide)).mpr ⟨b, hb, rfl⟩⟩ h) (fun _ => ⟨rfl, q, iv_err I (by decide) (by decide)⟩))
theorem pr_image (I : Iv k S q) : lP y_Fo_image y_Mo_image [] (fun S2 => ∃ q1, Iv (k + 1) S2 q1) S := by
  obtain ⟨h1, c, h2, h3, h4, h5, h6⟩ := I.2.2.2.2.2.1
  refine cl_mono (d := h_Fo_image) (Nat.le_of_ble_eq_true rfl) (c_image I.1 h1 (fun S1 C1 f1 => ⟨_, rfl, ?_⟩))
  have g1 : ∀ a j, ¬ (33 ≤ a ∧ a ≤ 64) → S1.2 a j = S.2 a j := fun a j z => f1.2 a j (fun y => by unfold cCp32 at y; omega)
  have g2 : ∀ a j, ¬ (33 ≤ a ∧ a ≤ 64) → a ≠ 0 → (wp_u S1 0 7 (S.2 0 7 + nI 1)).2 a j = S.2 a j := fun a j z y => (wp_un (by omega)).trans (g1 a j z)
  generalize hT : wp_u S1 0 7 (S.2 0 7 + nI 1) = T at g2
  have gC : CL (sft 32 T) q := by
    rw [← hT]
    exact C1.fr (fun a j y => wp_un (S := S1) (k := 0) (j := 7) (a := a + 32) (b := j) (x := S.2 0 7 + nI 1) (by omega))
  have g7 : T.2 0 7 = nI (c + 1) := by
    rw [← hT, wp_u2, if_pos ⟨rfl, rfl⟩, h3]
    exact nI_add _ _
  clear hT
  have e5 : T.2 91 5 + nI 1 = nI (c + 1) := by
    rw [g2 91 5 (by decide) (by decide), h4]
    exact nI_add _ _
  have ew : S.2 0 7 + nI 1 = T.2 91 5 + nI 1 := by rw [e5, h3]; exact nI_add _ _
  refine cl_mono (d := h_Mo_image) (Nat.le_of_ble_eq_true rfl) (m_image ⟨by rw [ew], q, ?_⟩)
  rw [e5]
  generalize hU : wp_u (wp_u (mv T 92 93 283) 91 4 (nI 1)) 91 5 (nI (c + 1)) = U
  have u1 : ∀ a j, a ≠ 93 → ¬ (a = 91 ∧ (j = 4 ∨ j = 5)) → U.2 a j = T.2 a j := fun a j z y => by
    rw [← hU]
    exact (wp_un (by omega)).trans ((wp_un (by omega)).trans (if_neg (by omega)))
  have u4 : U.2 91 4 = nI 1 := by
    rw [← hU]
    exact (wp_un (by omega)).trans wp_us
  have u5 : U.2 91 5 = nI (c + 1) := by
    rw [← hU]
    exact wp_us
  have u93 : ∀ j, j < 283 → U.2 93 j = q j := fun j hj => by
    rw [← hU]
    refine (wp_un (by omega)).trans ((wp_un (by omega)).trans ((if_pos ⟨rfl, hj⟩).trans ?_))
    rw [g2 92 j (by omega) (by decide), I.2.1.1]
  clear hU
  have u2 : ∀ a j, ¬ (33 ≤ a ∧ a ≤ 64) → a ≠ 0 → a ≠ 93 → ¬ (a = 91 ∧ (j = 4 ∨ j = 5)) → U.2 a j = S.2 a j := fun a j z1 z2 z3 z4 => (u1 a j z3 z4).trans (g2 a j z1 z2)
  refine ⟨I.1.fr (fun a j y => u2 a j (by unfold cW at y; omega) (by unfold cW at y; omega) (by unfold cW at y; omega) (by unfold cW at y; omega)), ⟨(funext fun j => u2 92 j (by decide) (by decide) (by decide) (by omega)).trans I.2.1.1, (u2 91 7 (by decide) (by decide) (by decide) (by decide)).trans I.2.1.2⟩, I.2.2.1, ?_, ?_, ?_, ?_⟩
  · exact Iv_s_fr I.2.2.2.1 (fun a j z => u2 a j (by omega) (by omega) (by omega) (by omega))
  · intro j hj
    rw [u2 90 j (by decide) (by decide) (by decide) (by omega), u2 96 j (by decide) (by decide) (by decide) (by omega)]
    exact I.2.2.2.2.1 j hj
  · have gU : CL (sft 32 U) q := gC.fr (fun a j y => u1 (a + 32) j (by unfold cW at y; omega) (by unfold cW at y; omega))
    refine ⟨fun i hi => ?_, c + 1, by omega, (u1 0 7 (by decide) (by decide)).trans g7, u5, ?_, fun _ => ⟨CL_c u93 gU, sp_wf_c u93 I.2.2.1⟩⟩
    · have := gU.2.1 i hi
      rw [show 45 + 2 * i = 13 + 2 * i + 32 by omega]
      exact this
    · rw [u4]
      exact ⟨fun z => absurd z (by decide), fun z => absurd z (by omega)⟩
  · exact Iv_v_fr I.2.2.2.2.2.2 (fun a j z => u2 a j (by omega) (by omega) (by omega) (by omega))
theorem pr_restore (hk : k ≤ 9999) (I : Iv k S q) : lP y_Fo_restore y_Mo_restore [] (fun S2 => ∃ q1, Iv k S2 q1) S := by
  obtain ⟨h1, c, h2, h3, h4, h5, h6⟩ := I.2.2.2.2.2.1
  have c0 : S.2 0 7 ≠ 0 → c ≠ 0 := fun z y => z (by rw [h3, y]; rfl)
  have c1 : S.2 0 7 = 0 → c = 0 := fun z => by
    rw [h3] at z
    exact (nI_eq0 (by omega)).mp z
  refine cl_mono (d := h_Fo_restore) (Nat.le_of_ble_eq_true rfl) (c_restore (p := S.2 93) I.1.2.1 (fun z => (h6 (c0 z)).1) (fun z S1 C1 f1 => ⟨_, rfl, ?_⟩) (fun z => ⟨_, rfl, ?_⟩))
  · have g1 : ∀ a j, ¬ (1 ≤ a ∧ a ≤ 32) → S1.2 a j = S.2 a j := fun a j y => f1.2 a j (fun x => by unfold cCp0 at x; omega)
    have g4 : S1.2 91 4 ≠ 0 := by
      rw [g1 91 4 (by decide)]
      exact fun y => c0 z (h5.mp y)
    refine cl_mono (d := h_Mo_restore) (Nat.le_of_ble_eq_true rfl) (m_restore (fun _ => ⟨by rw [g1 93 1 (by decide)], (mv S1 93 92 283).2 92, ?_⟩) (fun y => absurd y g4))
    generalize hU : mv S1 93 92 283 = U
    have u1 : ∀ a j, a ≠ 92 → U.2 a j = S1.2 a j := fun a j y => by
      rw [← hU]
      exact if_neg (by omega)
    have u2 : ∀ j, j < 283 → U.2 92 j = S.2 93 j := fun j hj => by
      rw [← hU]
      exact (if_pos ⟨rfl, hj⟩).trans (g1 93 j (by decide))
    clear hU
    have u3 : ∀ a j, ¬ (1 ≤ a ∧ a ≤ 32) → a ≠ 92 → U.2 a j = S.2 a j := fun a j y x => (u1 a j x).trans (g1 a j y)
    refine ⟨CL_c u2 (C1.fr (fun a j y => u1 a j (by unfold cW at y; omega))), ⟨rfl, (u3 91 7 (by decide) (by decide)).trans I.2.1.2⟩, sp_wf_c u2 (h6 (c0 z)).2, ?_, ?_, ?_, ?_⟩
    · exact Iv_s_fr I.2.2.2.1 (fun a j z => u3 a j (by omega) (by omega))
    · intro j hj
      rw [u3 90 j (by decide) (by decide), u3 96 j (by decide) (by decide)]
      exact I.2.2.2.2.1 j hj
    · exact Iv_i_fr I.2.2.2.2.2.1 (Nat.le_refl _) (fun a j z => u3 a j (by omega) (by omega))
    · exact Iv_v_fr I.2.2.2.2.2.2 (fun a j z => u3 a j (by omega) (by omega))
  · have g4 : (wp_u S 90 2 (S.2 90 2 + nI 1)).2 91 4 = 0 := (wp_un (by omega)).trans (h5.mpr (c1 z))
    exact cl_mono (d := h_Mo_restore) (Nat.le_of_ble_eq_true rfl) (m_restore (fun y => absurd g4 y) (fun _ => ⟨rfl, q, iv_err I (by decide) (by decide)⟩))
end PS
