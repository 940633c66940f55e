/-! pairs: numbers moved between sheets -/
section PM
variable {S : wp_S} {q : sp_R} {k : Nat}
theorem x_m {v w : Int32} {s o : Nat} (hs : s < 4) (ho : o < 4) (hv : v = nI s) (hw : w = nI o) (h : ¬ (sp_isW v 3 ∧ sp_isW w 3)) : False := h ⟨hv ▸ (i_in (by decide)).mpr ⟨s, by omega, rfl⟩, hw ▸ (i_in (by decide)).mpr ⟨o, by omega, rfl⟩⟩
theorem m1_ne (S : wp_S) (a n : Nat) {c : Nat} (x : Nat) (h : c ≠ 103) : (m1 S a n).2 c x = S.2 c x := if_neg (fun z => h z.1)
theorem x_r {a b i j n : Int32} {zs zo i1 j1 n1 : Nat} (ha : a = nI zs) (hb : b = nI zo) (h1 : zs ≤ 40) (h2 : zo ≤ 40) (hi : i = nI i1) (hj : j = nI j1) (hn : n = nI n1) (h3 : i1 + n1 ≤ zs) (h4 : j1 + n1 ≤ zo) : 0 ≤ n ∧ 0 ≤ i ∧ 0 ≤ j ∧ i ≤ a - n ∧ j ≤ b - n := by
  subst ha hb hi hj hn
  rw [pk_sub (show n1 ≤ zs by omega), pk_sub (show n1 ≤ zo by omega)]
  exact ⟨nI_pos' (by omega), nI_pos' (by omega), nI_pos' (by omega), (nI_leI (by omega) (by omega)).mpr (by omega), (nI_leI (by omega) (by omega)).mpr (by omega)⟩
theorem pr_move (I : Iv k S q) (v i w j n : Int32) : lP y_Fo_move y_Mo_move [.int v, .int i, .int w, .int j, .int n] (fun S2 => ∃ q1, Iv k S2 q1) S := by
  obtain ⟨sh, hz⟩ := I.2.2.2.1
  refine cl_mono (d := h_Fo_move) (Nat.le_of_ble_eq_true rfl) (c_move I.1 sh hz v i w j n (fun h S1 C1 e1 f1 => ⟨_, rfl, ?_⟩) (fun s o hs ho hv hw hb S1 C1 e1 f1 => ⟨_, rfl, ?_⟩) (fun s o hs ho hv hw hb hc he S1 C1 e1 f1 => ⟨_, rfl, ?_⟩) (fun s o hs ho hv hw hb hc he hr S1 C1 e1 f1 => ⟨_, rfl, ?_⟩) (fun s o zs zo i1 j1 n1 hs ho hv hw hb hc he hzs hzo zs4 zo4 hi hj hn hs1 ho1 => ⟨_, rfl, ?_⟩))
  · obtain ⟨e0, e2, e3⟩ := e_sh (f_91 f1)
    refine cl_mono (d := h_Mo_move) (Nat.le_of_ble_eq_true rfl) (m_move (mC_91 I.2.1 (f_91 f1)) (by rw [e2]; exact hz) v i w j n (fun h' => ?_) (fun s' o' hs' ho' hv' hw' hb' => ?_) (fun s' o' hs' ho' hv' hw' hb' hc' he' => ?_) (fun s' o' hs' ho' hv' hw' hb' hc' he' hr' => ?_) (fun s' o' zs' zo' i1' j1' n1' hs' ho' hv' hw' hb' hc' he' hzs' hzo' zs4' zo4' hi' hj' hn' hs1' ho1' => ?_))
    · exact pr_bad I (by decide) C1 e1 f1
    · exact (x_m hs' ho' hv' hw' h).elim
    · exact (x_m hs' ho' hv' hw' h).elim
    · exact (x_m hs' ho' hv' hw' h).elim
    · exact (x_m hs' ho' hv' hw' h).elim
  · obtain ⟨e0, e2, e3⟩ := e_sh (f_91 f1)
    refine cl_mono (d := h_Mo_move) (Nat.le_of_ble_eq_true rfl) (m_move (mC_91 I.2.1 (f_91 f1)) (by rw [e2]; exact hz) v i w j n (fun h' => ?_) (fun s' o' hs' ho' hv' hw' hb' => ?_) (fun s' o' hs' ho' hv' hw' hb' hc' he' => ?_) (fun s' o' hs' ho' hv' hw' hb' hc' he' hr' => ?_) (fun s' o' zs' zo' i1' j1' n1' hs' ho' hv' hw' hb' hc' he' hzs' hzo' zs4' zo4' hi' hj' hn' hs1' ho1' => ?_))
    · exact (x_m hs ho hv hw h').elim
    · exact pr_bad I (by decide) C1 e1 f1
    · obtain rfl := x_s hs hs' hv hv'
      obtain rfl := x_s ho ho' hw hw'
      rw [e0] at hb' hc' he'
      exact hb.elim (fun z => absurd z hb') (fun z => absurd z hc')
    · obtain rfl := x_s hs hs' hv hv'
      obtain rfl := x_s ho ho' hw hw'
      rw [e0] at hb' hc' he'
      rw [e2] at hr'
      exact hb.elim (fun z => absurd z hb') (fun z => absurd z hc')
    · obtain rfl := x_s hs hs' hv hv'
      obtain rfl := x_s ho ho' hw hw'
      rw [e0] at hb' hc' he'
      rw [e2] at hzs' hzo'
      exact hb.elim (fun z => absurd z hb') (fun z => absurd z hc')
  · obtain ⟨e0, e2, e3⟩ := e_sh (f_91 f1)
    refine cl_mono (d := h_Mo_move) (Nat.le_of_ble_eq_true rfl) (m_move (mC_91 I.2.1 (f_91 f1)) (by rw [e2]; exact hz) v i w j n (fun h' => ?_) (fun s' o' hs' ho' hv' hw' hb' => ?_) (fun s' o' hs' ho' hv' hw' hb' hc' he' => ?_) (fun s' o' hs' ho' hv' hw' hb' hc' he' hr' => ?_) (fun s' o' zs' zo' i1' j1' n1' hs' ho' hv' hw' hb' hc' he' hzs' hzo' zs4' zo4' hi' hj' hn' hs1' ho1' => ?_))
    · exact (x_m hs ho hv hw h').elim
    · obtain rfl := x_s hs hs' hv hv'
      obtain rfl := x_s ho ho' hw hw'
      rw [e0] at hb'
      exact hb'.elim (fun z => absurd z hb) (fun z => absurd z hc)
    · exact pr_bad I (by decide) C1 e1 f1
    · obtain rfl := x_s hs hs' hv hv'
      obtain rfl := x_s ho ho' hw hw'
      rw [e0] at hb' hc' he'
      rw [e2] at hr'
      exact absurd he' he
    · obtain rfl := x_s hs hs' hv hv'
      obtain rfl := x_s ho ho' hw hw'
      rw [e0] at hb' hc' he'
      rw [e2] at hzs' hzo'
      exact absurd he' he
  · obtain ⟨e0, e2, e3⟩ := e_sh (f_91 f1)
    refine cl_mono (d := h_Mo_move) (Nat.le_of_ble_eq_true rfl) (m_move (mC_91 I.2.1 (f_91 f1)) (by rw [e2]; exact hz) v i w j n (fun h' => ?_) (fun s' o' hs' ho' hv' hw' hb' => ?_) (fun s' o' hs' ho' hv' hw' hb' hc' he' => ?_) (fun s' o' hs' ho' hv' hw' hb' hc' he' hr' => ?_) (fun s' o' zs' zo' i1' j1' n1' hs' ho' hv' hw' hb' hc' he' hzs' hzo' zs4' zo4' hi' hj' hn' hs1' ho1' => ?_))
    · exact (x_m hs ho hv hw h').elim
    · obtain rfl := x_s hs hs' hv hv'
      obtain rfl := x_s ho ho' hw hw'
      rw [e0] at hb'
      exact hb'.elim (fun z => absurd z hb) (fun z => absurd z hc)
    · obtain rfl := x_s hs hs' hv hv'
      obtain rfl := x_s ho ho' hw hw'
      rw [e0] at hb' hc' he'
      exact absurd he he'
    · exact pr_bad I (by decide) C1 e1 f1
    · obtain rfl := x_s hs hs' hv hv'
      obtain rfl := x_s ho ho' hw hw'
      rw [e0] at hb' hc' he'
      rw [e2] at hzs' hzo'
      exact (hr (x_r hzs' hzo' zs4' zo4' hi' hj' hn' hs1' ho1')).elim
  · generalize hT : wp_cp S (83 + 2 * s) (83 + 2 * o) i1 j1 n1 = T
    have f1 : ∀ a x, ¬ (82 ≤ a ∧ a ≤ 89) → T.2 a x = S.2 a x := fun a x z => by
      rw [← hT, wp_cp2, if_neg (by omega)]
    obtain ⟨e0, e2, e3⟩ := e_sh (S := S) (S1 := T) (fun a x z => f1 a x (by omega))
    refine cl_mono (d := h_Mo_move) (Nat.le_of_ble_eq_true rfl) (m_move (mC_91 I.2.1 (fun a x z => f1 a x (by omega))) (by rw [e2]; exact hz) v i w j n (fun h' => ?_) (fun s' o' hs' ho' hv' hw' hb' => ?_) (fun s' o' hs' ho' hv' hw' hb' hc' he' => ?_) (fun s' o' hs' ho' hv' hw' hb' hc' he' hr' => ?_) (fun s' o' zs' zo' i1' j1' n1' hs' ho' hv' hw' hb' hc' he' hzs' hzo' zs4' zo4' hi' hj' hn' hs1' ho1' => ?_))
    · exact (x_m hs ho hv hw h').elim
    · obtain rfl := x_s hs hs' hv hv'
      obtain rfl := x_s ho ho' hw hw'
      rw [e0] at hb'
      exact hb'.elim (fun z => absurd z hb) (fun z => absurd z hc)
    · obtain rfl := x_s hs hs' hv hv'
      obtain rfl := x_s ho ho' hw hw'
      rw [e0] at hb' hc' he'
      exact absurd he he'
    · obtain rfl := x_s hs hs' hv hv'
      obtain rfl := x_s ho ho' hw hw'
      rw [e0] at hb' hc' he'
      rw [e2] at hr'
      exact (hr' (x_r hzs hzo zs4 zo4 hi hj hn hs1 ho1)).elim
    · obtain rfl := x_s hs hs' hv hv'
      obtain rfl := x_s ho ho' hw hw'
      rw [e0] at hb' hc' he'
      rw [e2] at hzs' hzo'
      obtain rfl : i1' = i1 := (nI_eq (by omega) (by omega)).mp (hi'.symm.trans hi)
      obtain rfl : j1' = j1 := (nI_eq (by omega) (by omega)).mp (hj'.symm.trans hj)
      obtain rfl : n1' = n1 := (nI_eq (by omega) (by omega)).mp (hn'.symm.trans hn)
      refine ⟨rfl, q, iv_sh I (fun a x z1 z2 => ?_) ?_⟩
      · exact (if_neg (by omega)).trans ((if_neg (by omega)).trans (f1 a x z1))
      · generalize hU : m2 (m1 T (40 * s' + i1') n1') (40 * o' + j1') n1' = U
        have u1 : ∀ a x, a ≠ 102 → a ≠ 103 → U.2 a x = T.2 a x := fun a x z1 z2 => by
          rw [← hU]
          exact (if_neg (by omega)).trans (if_neg (by omega))
        have u2 : ∀ x, U.2 102 x = if 40 * o' + j1' ≤ x ∧ x < 40 * o' + j1' + n1' then S.2 102 (40 * s' + i1' + (x - (40 * o' + j1'))) else S.2 102 x := fun x => by
          rw [← hU, ← e3]
          by_cases hx : 40 * o' + j1' ≤ x ∧ x < 40 * o' + j1' + n1'
          · rw [if_pos hx]
            exact (if_pos ⟨rfl, hx.1, hx.2⟩).trans (if_pos ⟨rfl, by omega⟩)
          · rw [if_neg hx]
            exact (if_neg (fun z => hx z.2)).trans (m1_ne _ _ _ _ (by decide))
        have t2 : ∀ a x, T.2 a x = if a = 83 + 2 * o' ∧ j1' ≤ x ∧ x < j1' + n1' then S.2 (83 + 2 * s') (i1' + (x - j1')) else S.2 a x := fun a x => by
          rw [← hT, wp_cp2]
        clear hU hT
        have u100 : U.2 100 = S.2 100 := (funext fun x => u1 100 x (by decide) (by decide)).trans e0
        have u101 : U.2 101 = S.2 101 := (funext fun x => u1 101 x (by decide) (by decide)).trans e2
        unfold Iv_s
        rw [u100, u101]
        refine ⟨fun s hs => ?_, hz⟩
        obtain ⟨g1, g2, g3⟩ := sh s hs
        refine ⟨?_, ?_, fun x hx => ?_⟩
        · rw [u1 _ _ (by omega) (by omega), t2, if_neg (by omega)]
          exact g1
        · rw [u1 _ _ (by omega) (by omega), t2, if_neg (by omega)]
          exact g2
        · rw [u1 _ _ (by omega) (by omega), t2, u2]
          by_cases hh : s = o' ∧ j1' ≤ x ∧ x < j1' + n1'
          · rw [if_pos (by omega), if_pos (by omega), show 40 * s + x - (40 * o' + j1') = x - j1' by omega, Nat.add_assoc]
            exact (sh s' hs').2.2 _ (by omega)
          · rw [if_neg (by omega), if_neg (by omega)]
            exact g3 x hx
end PM
