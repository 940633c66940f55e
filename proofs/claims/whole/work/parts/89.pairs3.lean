/-! pairs: the calls over sheets -/
section PT
variable {S : wp_S} {q : sp_R} {k : Nat}
theorem x_w {v : Int32} {s : Nat} (hs : s < 4) (e : v = nI s) (h : ¬ sp_isW v 3) : False := h (e ▸ (i_in (by decide)).mpr ⟨s, by omega, rfl⟩)
theorem x_s {v : Int32} {s s' : Nat} (hs : s < 4) (hs' : s' < 4) (e : v = nI s) (e' : v = nI s') : s' = s := (nI_eq (by omega) (by omega)).mp (e'.symm.trans e)
/-- both came to the same error -/
theorem pr_bad {S1 : wp_S} {e : Nat} (I : Iv k S q) (he : e < 6) (C1 : CL S1 q) (e1 : S1.2 90 = sp_er (S.2 90) e) (f1 : ∀ a j, ¬ cX a j → S1.2 a j = S.2 a j) : mQ S1 (sp_bad q e) (fun r2 S2 => r2 = some (.int (-1000000000 - nI e)) ∧ ∃ q1, Iv k S2 q1) :=
  fun _ C2 e2 f2 => ⟨rfl, q, iv_after (o := sp_bad q e) I he I.2.2.1 C1 e1 f1 C2 e2 f2⟩
theorem f_91 {S1 : wp_S} (f1 : ∀ a j, ¬ cX a j → S1.2 a j = S.2 a j) : ∀ a j, 91 ≤ a → S1.2 a j = S.2 a j := fun a j h => f1 a j (by unfold cX cY; omega)
/-- sheets changed in both -/
theorem iv_sh {S2 : wp_S} (I : Iv k S q) (f : ∀ a j, ¬ (82 ≤ a ∧ a ≤ 89) → ¬ (100 ≤ a ∧ a ≤ 103) → S2.2 a j = S.2 a j) (h : Iv_s S2) : Iv k S2 q := by
  refine ⟨I.1.fr (fun a j y => f a j (by unfold cW at y; omega) (by unfold cW at y; omega)), ⟨(funext fun j => f 92 j (by omega) (by omega)).trans I.2.1.1, (f 91 7 (by omega) (by omega)).trans I.2.1.2⟩, I.2.2.1, h, ?_, ?_, ?_⟩
  · intro j hj
    rw [f 90 j (by omega) (by omega), f 96 j (by omega) (by omega)]
    exact I.2.2.2.2.1 j hj
  · exact Iv_i_fr I.2.2.2.2.2.1 (Nat.le_refl _) (fun a j z => f a j (by omega) (by omega))
  · exact Iv_v_fr I.2.2.2.2.2.2 (fun a j z => f a j (by omega) (by omega))
theorem pr_put (I : Iv k S q) (v w x : Int32) : lP y_Fo_put y_Mo_put [.int v, .int w, .int x] (fun S2 => ∃ q1, Iv k S2 q1) S := by
  obtain ⟨sh, hz⟩ := I.2.2.2.1
  refine cl_mono (d := h_Fo_put) (Nat.le_of_ble_eq_true rfl) (c_put I.1 sh hz v w x (fun h S1 C1 e1 f1 => ⟨_, rfl, ?_⟩) (fun s hs hv hb S1 C1 e1 f1 => ⟨_, rfl, ?_⟩) (fun s hs hv hb hi S1 C1 e1 f1 => ⟨_, rfl, ?_⟩) (fun s y i hs hv hb hy h40 hw hi => ⟨_, rfl, ?_⟩))
  · obtain ⟨e0, e2, e3⟩ := e_sh (f_91 f1)
    refine cl_mono (d := h_Mo_put) (Nat.le_of_ble_eq_true rfl) (m_put (mC_91 I.2.1 (f_91 f1)) (by rw [e2]; exact hz) v w x (fun _ => ?_) (fun s' hs' hv' _ => (x_w hs' hv' h).elim) (fun s' hs' hv' _ _ => (x_w hs' hv' h).elim) (fun s' _ _ hs' hv' _ _ _ _ _ => (x_w hs' hv' h).elim))
    exact pr_bad I (by decide) C1 e1 f1
  · obtain ⟨e0, e2, e3⟩ := e_sh (f_91 f1)
    refine cl_mono (d := h_Mo_put) (Nat.le_of_ble_eq_true rfl) (m_put (mC_91 I.2.1 (f_91 f1)) (by rw [e2]; exact hz) v w x (fun h => (x_w hs hv h).elim) (fun s' hs' hv' hb' => ?_) (fun s' hs' hv' hb' _ => ?_) (fun s' _ _ hs' hv' hb' _ _ _ _ => ?_))
    · exact pr_bad I (by decide) C1 e1 f1
    · obtain rfl := x_s hs hs' hv hv'
      exact absurd (by rw [e0]; exact hb) hb'
    · obtain rfl := x_s hs hs' hv hv'
      exact absurd (by rw [e0]; exact hb) hb'
  · obtain ⟨e0, e2, e3⟩ := e_sh (f_91 f1)
    refine cl_mono (d := h_Mo_put) (Nat.le_of_ble_eq_true rfl) (m_put (mC_91 I.2.1 (f_91 f1)) (by rw [e2]; exact hz) v w x (fun h => (x_w hs hv h).elim) (fun s' hs' hv' hb' => ?_) (fun s' hs' hv' hb' _ => ?_) (fun s' y i hs' hv' hb' hy h40 hw hi' => ?_))
    · obtain rfl := x_s hs hs' hv hv'
      exact absurd (by rw [e0] at hb'; exact hb') hb
    · exact pr_bad I (by decide) C1 e1 f1
    · obtain rfl := x_s hs hs' hv hv'
      rw [e2] at hy
      refine absurd ?_ hi
      rw [hy]
      exact (i_fld (by omega)).mpr ⟨i, hi', hw⟩
  · generalize hT : wp_u S (83 + 2 * s) i (sp_na (S.2 100 s) x) = T
    have f1 : ∀ a j, ¬ (82 ≤ a ∧ a ≤ 89) → T.2 a j = S.2 a j := fun a j z => by
      rw [← hT]
      exact wp_un (by omega)
    obtain ⟨e0, e2, e3⟩ := e_sh (S := S) (S1 := T) (fun a j z => f1 a j (by omega))
    refine cl_mono (d := h_Mo_put) (Nat.le_of_ble_eq_true rfl) (m_put (mC_91 I.2.1 (fun a j z => f1 a j (by omega))) (by rw [e2]; exact hz) v w x (fun h => (x_w hs hv h).elim) (fun s' hs' hv' hb' => ?_) (fun s' hs' hv' hb' h => ?_) (fun s' y' i' hs' hv' hb' hy' h40' hw' hi' => ?_))
    · obtain rfl := x_s hs hs' hv hv'
      exact absurd (by rw [e0] at hb'; exact hb') hb
    · obtain rfl := x_s hs hs' hv hv'
      refine absurd ?_ h
      rw [e2, hy]
      exact (i_fld (by omega)).mpr ⟨i, hi, hw⟩
    · obtain rfl := x_s hs hs' hv hv'
      rw [e2] at hy'
      obtain rfl : y' = y := (nI_eq (by omega) (by omega)).mp (hy'.symm.trans hy)
      obtain rfl : i' = i := (nI_eq (by omega) (by omega)).mp (hw'.symm.trans hw)
      refine ⟨rfl, q, iv_sh I (fun a j z1 z2 => (wp_un (by omega)).trans (f1 a j z1)) ?_⟩
      rw [e0]
      generalize hU : wp_u T 102 (40 * s' + i') (sp_na (S.2 100 s') x) = U
      have u1 : ∀ a j, a ≠ 102 → U.2 a j = T.2 a j := fun a j z => by
        rw [← hU]
        exact wp_un (by omega)
      have u2 : ∀ j, U.2 102 j = if j = 40 * s' + i' then sp_na (S.2 100 s') x else S.2 102 j := fun j => by
        rw [← hU, wp_u2, e3]
        by_cases hj : j = 40 * s' + i'
        · rw [if_pos ⟨rfl, hj⟩, if_pos hj]
        · rw [if_neg (fun z => hj z.2), if_neg hj]
      have t2 : ∀ a j, T.2 a j = if a = 83 + 2 * s' ∧ j = i' then sp_na (S.2 100 s') x else S.2 a j := fun a j => by
        rw [← hT, wp_u2]
      clear hU hT
      have u100 : U.2 100 = S.2 100 := (funext fun j => u1 100 j (by decide)).trans e0
      have u101 : U.2 101 = S.2 101 := (funext fun j => u1 101 j (by decide)).trans e2
      unfold Iv_s
      rw [u100, u101]
      refine ⟨fun s hs => ?_, hz⟩
      obtain ⟨g1, g2, g3⟩ := sh s hs
      refine ⟨?_, ?_, fun j hj => ?_⟩
      · rw [u1 _ _ (by omega), t2, if_neg (by omega)]
        exact g1
      · rw [u1 _ _ (by omega), t2, if_neg (by omega)]
        exact g2
      · rw [u1 _ _ (by omega), t2, u2]
        by_cases hh : s = s' ∧ j = i'
        · rw [if_pos (by omega), if_pos (by omega)]
        · rw [if_neg (by omega), if_neg (by omega)]
          exact g3 j hj
theorem pr_sheet (I : Iv k S q) (v b n : Int32) : lP y_Fo_sheet y_Mo_sheet [.int v, .int b, .int n] (fun S2 => ∃ q1, Iv k S2 q1) S := by
  obtain ⟨sh, hz⟩ := I.2.2.2.1
  refine cl_mono (d := h_Fo_sheet) (Nat.le_of_ble_eq_true rfl) (c_sheet I.1 v b n (fun h S1 C1 e1 f1 => ⟨_, rfl, ?_⟩) (fun h h2 S1 C1 e1 f1 => ⟨_, rfl, ?_⟩) (fun h h2 S1 C1 e1 f1 => ⟨_, rfl, ?_⟩) (fun s y hs hv hb hy => ⟨_, rfl, ?_⟩))
  · refine cl_mono (d := h_Mo_sheet) (Nat.le_of_ble_eq_true rfl) (m_sheet (mC_91 I.2.1 (f_91 f1)) v b n (fun _ => ?_) (fun h' _ => absurd h' h) (fun h' _ => absurd h' h) (fun s y hs hv hb hy => absurd ⟨hv ▸ (i_in (by decide)).mpr ⟨s, by omega, rfl⟩, hb⟩ h))
    exact pr_bad I (by decide) C1 e1 f1
  · refine cl_mono (d := h_Mo_sheet) (Nat.le_of_ble_eq_true rfl) (m_sheet (mC_91 I.2.1 (f_91 f1)) v b n (fun h' => absurd h h') (fun _ _ => ?_) (fun _ h' => absurd h2.2 h'.2.1) (fun s y hs hv hb hy => ?_))
    · exact pr_bad I (by decide) C1 e1 f1
    · rcases hy with z | z
      · exact absurd z.1 h2.1
      · exact absurd h2.2 z.2.1
  · refine cl_mono (d := h_Mo_sheet) (Nat.le_of_ble_eq_true rfl) (m_sheet (mC_91 I.2.1 (f_91 f1)) v b n (fun h' => absurd h h') (fun _ h' => absurd h'.2 h2.2.1) (fun _ _ => ?_) (fun s y hs hv hb hy => ?_))
    · exact pr_bad I (by decide) C1 e1 f1
    · rcases hy with z | z
      · exact absurd z.1 h2.1
      · exact absurd z.2.2.1 (Int32.not_le.mpr h2.2.2)
  · have hW : sp_isW v 3 ∧ sp_isB b := ⟨hv ▸ (i_in (by decide)).mpr ⟨s, by omega, rfl⟩, hb⟩
    generalize hT : wp_fl (wp_u (wp_u S (82 + 2 * s) 1 b) (82 + 2 * s) 2 y) (83 + 2 * s) 40 (nI 0) = T
    have t2 : ∀ a j, T.2 a j = if a = 83 + 2 * s ∧ j < 40 then nI 0 else if a = 82 + 2 * s ∧ j = 2 then y else if a = 82 + 2 * s ∧ j = 1 then b else S.2 a j := fun a j => by
      rw [← hT]
      rfl
    have f1 : ∀ a j, ¬ (82 ≤ a ∧ a ≤ 89) → T.2 a j = S.2 a j := fun a j z => by
      rw [t2, if_neg (by omega), if_neg (by omega), if_neg (by omega)]
    clear hT
    refine cl_mono (d := h_Mo_sheet) (Nat.le_of_ble_eq_true rfl) (m_sheet (mC_91 I.2.1 (fun a j z => f1 a j (by omega))) v b n (fun h' => absurd hW h') (fun _ h' => ?_) (fun _ h' => ?_) (fun s' y' hs' hv' hb' hy' => ?_))
    · rcases hy with z | z
      · exact absurd z.1 h'.1
      · exact absurd h'.2 z.2.1
    · rcases hy with z | z
      · exact absurd z.1 h'.1
      · exact absurd z.2.2.1 (Int32.not_le.mpr h'.2.2)
    · obtain rfl := x_s hs hs' hv hv'
      obtain rfl : y' = y := by
        rcases hy with z | z
        · rcases hy' with z' | z'
          · exact z'.2.trans z.2.symm
          · exact absurd z.1 z'.1
        · rcases hy' with z' | z'
          · exact absurd z'.1 z.1
          · exact z'.2.2.2.trans z.2.2.2.symm
      have hy40 : ∃ m, m ≤ 40 ∧ y' = nI m := by
        rcases hy with z | z
        · exact ⟨0, Nat.zero_le _, z.2⟩
        · obtain ⟨m, hm, e⟩ := (i_in (n := 40) (by decide)).mp ⟨Int32.not_lt.mp z.2.1, z.2.2.1⟩
          exact ⟨m, hm, z.2.2.2.trans e⟩
      generalize hU : sh_cl (wp_u (wp_u T 100 s' b) 101 s' y') s' 40 = U
      have u2 : ∀ a j, U.2 a j = if a = 102 ∧ 40 * s' ≤ j ∧ j < 40 * s' + 40 then nI 0 else if a = 101 ∧ j = s' then y' else if a = 100 ∧ j = s' then b else T.2 a j := fun a j => by
        rw [← hU]
        rfl
      clear hU
      have u1 : ∀ a j, ¬ (100 ≤ a ∧ a ≤ 103) → U.2 a j = T.2 a j := fun a j z => by
        rw [u2, if_neg (by omega), if_neg (by omega), if_neg (by omega)]
      refine ⟨rfl, q, iv_sh I (fun a j z1 z2 => (u1 a j z2).trans (f1 a j z1)) ⟨fun s hs => ?_, fun s hs => ?_⟩⟩
      · obtain ⟨g1, g2, g3⟩ := sh s hs
        by_cases hh : s = s'
        · refine ⟨?_, ?_, fun j hj => ?_⟩
          · rw [u1 _ _ (by omega), t2, u2, if_neg (by omega), if_neg (by omega), if_pos (by omega), if_neg (by omega), if_neg (by omega), if_pos (by omega)]
          · rw [u1 _ _ (by omega), t2, u2, if_neg (by omega), if_pos (by omega), if_neg (by omega), if_pos (by omega)]
          · rw [u1 _ _ (by omega), t2, u2, if_pos (by omega), if_pos (by omega)]
        · refine ⟨?_, ?_, fun j hj => ?_⟩
          · rw [u1 _ _ (by omega), t2, u2, if_neg (by omega), if_neg (by omega), if_neg (by omega), if_neg (by omega), if_neg (by omega), if_neg (by omega), f1 _ _ (by omega)]
            exact g1
          · rw [u1 _ _ (by omega), t2, u2, if_neg (by omega), if_neg (by omega), if_neg (by omega), if_neg (by omega), if_neg (by omega), if_neg (by omega), f1 _ _ (by omega)]
            exact g2
          · rw [u1 _ _ (by omega), t2, u2, if_neg (by omega), if_neg (by omega), if_neg (by omega), if_neg (by omega), if_neg (by omega), if_neg (by omega), f1 _ _ (by omega)]
            exact g3 j hj
      · rw [u2, if_neg (by omega)]
        by_cases hh : s = s'
        · rw [if_pos ⟨rfl, hh⟩]
          exact hy40
        · rw [if_neg (by omega), if_neg (by omega), f1 _ _ (by omega)]
          exact hz s hs
end PT
