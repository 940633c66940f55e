/-! a call of the class, then of the reference: calls with one outcome -/
section PR
variable {S : wp_S} {q : sp_R} {k : Nat}
theorem e_told {f g : sp_R} (h : ∀ j, j < 6 → f j = g j) (q : sp_R) (v : Int32) : op_told q f v = op_told q g v := by
  unfold op_told
  by_cases c : nI 1 ≤ v ∧ v ≤ nI 5
  · obtain ⟨y, hy, e⟩ := (i_in (n := 5) (by decide)).mp ⟨Int32.le_trans (by decide) c.1, c.2⟩
    rw [sp_if_t c, sp_if_t c, e, nI_clamp (by omega), h y (by omega)]
  · rw [sp_if_f c, sp_if_f c]
theorem e_trace {f g : sp_R} {n : Nat} (hn : n ≤ 40) (h : ∀ j, j < n → f j = g j) (q : sp_R) (v : Int32) : op_trace q f (nI n) v = op_trace q g (nI n) v := by
  unfold op_trace
  by_cases c : 0 ≤ v ∧ v ≤ nI n - nI 1
  · obtain ⟨y, hy, e⟩ := (i_fld (by omega)).mp c
    rw [sp_if_t c, sp_if_t c, e, nI_clamp (by omega), h y hy]
  · rw [sp_if_f c, sp_if_f c]
theorem pr_tellings (I : Iv k S q) (v w : Int32) : lP y_Fo_tellings y_Mo_tellings [.int v, .int w] (fun S2 => ∃ q1, Iv k S2 q1) S := pr_op I (oW_tellings I.2.2.1 v w) (dF := h_Fo_tellings) (dM := h_Mo_tellings) (Nat.le_of_ble_eq_true rfl) (Nat.le_of_ble_eq_true rfl) (fun _ K => c_tellings I.1 I.2.2.1 v w K) (fun _ _ C _ K => m_tellings C I.2.2.1 v w K)
theorem pr_fear (I : Iv k S q) (o v : Int32) : lP y_Fo_fear y_Mo_fear [.int o, .int v] (fun S2 => ∃ q1, Iv k S2 q1) S := pr_op I (oW_fear I.2.2.1 o v) (dF := h_Fo_fear) (dM := h_Mo_fear) (Nat.le_of_ble_eq_true rfl) (Nat.le_of_ble_eq_true rfl) (fun _ K => c_fear I.1 o v K) (fun _ _ C _ K => m_fear C o v K)
theorem pr_pace (I : Iv k S q) (v : Int32) : lP y_Fo_pace y_Mo_pace [.int v] (fun S2 => ∃ q1, Iv k S2 q1) S := pr_op I (oW_pace I.2.2.1 v) (dF := h_Fo_pace) (dM := h_Mo_pace) (Nat.le_of_ble_eq_true rfl) (Nat.le_of_ble_eq_true rfl) (fun _ K => c_pace I.1 v K) (fun _ _ C _ K => m_pace C v K)
theorem pr_seed (I : Iv k S q) (v : Int32) : lP y_Fo_seed y_Mo_seed [.int v] (fun S2 => ∃ q1, Iv k S2 q1) S := pr_op I (oW_seed I.2.2.1 v) (dF := h_Fo_seed) (dM := h_Mo_seed) (Nat.le_of_ble_eq_true rfl) (Nat.le_of_ble_eq_true rfl) (fun _ K => c_seed I.1 v K) (fun _ _ C _ K => m_seed C v K)
theorem pr_become (I : Iv k S q) (v w : Int32) : lP y_Fo_become y_Mo_become [.int v, .int w] (fun S2 => ∃ q1, Iv k S2 q1) S := pr_op I (oW_become I.2.2.1 v w) (dF := h_Fo_become) (dM := h_Mo_become) (Nat.le_of_ble_eq_true rfl) (Nat.le_of_ble_eq_true rfl) (fun _ K => c_become I.1 I.2.2.1 v w K) (fun _ _ C _ K => m_become C I.2.2.1 v w K)
theorem pr_tells (I : Iv k S q) (o v : Int32) : lP y_Fo_tells y_Mo_tells [.int o, .int v] (fun S2 => ∃ q1, Iv k S2 q1) S := pr_op I (oW_tells I.2.2.1 o v) (dF := h_Fo_tells) (dM := h_Mo_tells) (Nat.le_of_ble_eq_true rfl) (Nat.le_of_ble_eq_true rfl) (fun _ K => c_tells I.1 I.2.2.1 o v K) (fun _ _ C _ K => m_tells C I.2.2.1 o v K)
theorem pr_forgets (I : Iv k S q) (v : Int32) : lP y_Fo_forgets y_Mo_forgets [.int v] (fun S2 => ∃ q1, Iv k S2 q1) S := pr_op I (oW_forgets I.2.2.1 v) (dF := h_Fo_forgets) (dM := h_Mo_forgets) (Nat.le_of_ble_eq_true rfl) (Nat.le_of_ble_eq_true rfl) (fun _ K => c_forgets I.1 I.2.2.1 v K) (fun _ _ C _ K => m_forgets C I.2.2.1 v K)
theorem pr_field (I : Iv k S q) (w a : Int32) : lP y_Fo_field y_Mo_field [.int w, .int a] (fun S2 => ∃ q1, Iv k S2 q1) S := pr_op I (oW_field I.2.2.1 w a) (dF := h_Fo_field) (dM := h_Mo_field) (Nat.le_of_ble_eq_true rfl) (Nat.le_of_ble_eq_true rfl) (fun _ K => c_field I.1 I.2.2.1 w a K) (fun _ _ C _ K => m_field C I.2.2.1 w a K)
theorem pr_loose (I : Iv k S q) (v : Int32) : lP y_Fo_loose y_Mo_loose [.int v] (fun S2 => ∃ q1, Iv k S2 q1) S := pr_op I (oW_loose I.2.2.1 v) (dF := h_Fo_loose) (dM := h_Mo_loose) (Nat.le_of_ble_eq_true rfl) (Nat.le_of_ble_eq_true rfl) (fun _ K => c_loose I.1 I.2.2.1 v K) (fun _ _ C _ K => m_loose C I.2.2.1 v K)
theorem pr_coach (I : Iv k S q) (v : Int32) : lP y_Fo_coach y_Mo_coach [.int v] (fun S2 => ∃ q1, Iv k S2 q1) S := pr_op I (oW_coach I.2.2.1 v) (dF := h_Fo_coach) (dM := h_Mo_coach) (Nat.le_of_ble_eq_true rfl) (Nat.le_of_ble_eq_true rfl) (fun _ K => c_coach I.1 I.2.2.1 v K) (fun _ _ C _ K => m_coach C I.2.2.1 v K)
theorem pr_law (I : Iv k S q) (u a b c : Int32) : lP y_Fo_law y_Mo_law [.int u, .int a, .int b, .int c] (fun S2 => ∃ q1, Iv k S2 q1) S := pr_op I (oW_law I.2.2.1 u a b c) (dF := h_Fo_law) (dM := h_Mo_law) (Nat.le_of_ble_eq_true rfl) (Nat.le_of_ble_eq_true rfl) (fun _ K => c_law I.1 u a b c K) (fun _ _ C _ K => m_law C I.2.2.1 u a b c K)
theorem pr_ofField (I : Iv k S q) (v w : Int32) : lP y_Fo_ofField y_Mo_ofField [.int v, .int w] (fun S2 => ∃ q1, Iv k S2 q1) S := pr_op I (oW_ofField I.2.2.1 v w) (dF := h_Fo_ofField) (dM := h_Mo_ofField) (Nat.le_of_ble_eq_true rfl) (Nat.le_of_ble_eq_true rfl) (fun _ K => c_ofField I.1 I.2.2.1 v w K) (fun _ _ C _ K => m_ofField C I.2.2.1 v w K)
theorem pr_silence (I : Iv k S q) (v o : Int32) : lP y_Fo_silence y_Mo_silence [.int v, .int o] (fun S2 => ∃ q1, Iv k S2 q1) S := pr_op I (oW_silence I.2.2.1 v o) (dF := h_Fo_silence) (dM := h_Mo_silence) (Nat.le_of_ble_eq_true rfl) (Nat.le_of_ble_eq_true rfl) (fun _ K => c_silence I.1 I.2.2.1 v o K) (fun _ _ C _ K => m_silence C I.2.2.1 v o K)
theorem pr_needed (I : Iv k S q) (o v : Int32) : lP y_Fo_needed y_Mo_needed [.int o, .int v] (fun S2 => ∃ q1, Iv k S2 q1) S := pr_op I (oW_needed I.2.2.1 o v) (dF := h_Fo_needed) (dM := h_Mo_needed) (Nat.le_of_ble_eq_true rfl) (Nat.le_of_ble_eq_true rfl) (fun _ K => c_needed I.1 I.2.2.1 o v K) (fun _ _ C _ K => m_needed C I.2.2.1 o v K)
theorem pr_as (I : Iv k S q) (v w : Int32) : lP y_Fo_as y_Mo_as [.int v, .int w] (fun S2 => ∃ q1, Iv k S2 q1) S := pr_op I (oW_as I.2.2.1 v w) (dF := h_Fo_as) (dM := h_Mo_as) (Nat.le_of_ble_eq_true rfl) (Nat.le_of_ble_eq_true rfl) (fun _ K => c_as I.1 I.2.2.1 v w K) (fun _ _ C _ K => m_as C I.2.2.1 v w K)
theorem pr_tell (I : Iv k S q) (v : Int32) : lP y_Fo_tell y_Mo_tell [.int v] (fun S2 => ∃ q1, Iv k S2 q1) S := pr_op I (oW_tell I.2.2.1 v) (dF := h_Fo_tell) (dM := h_Mo_tell) (Nat.le_of_ble_eq_true rfl) (Nat.le_of_ble_eq_true rfl) (fun _ K => c_tell I.1 I.2.2.1 v K) (fun _ _ C _ K => m_tell C I.2.2.1 v K)
theorem pr_ofOwner (I : Iv k S q) (o w : Int32) : lP y_Fo_ofOwner y_Mo_ofOwner [.int o, .int w] (fun S2 => ∃ q1, Iv k S2 q1) S := pr_op I (oW_ofOwner I.2.2.1 o w) (dF := h_Fo_ofOwner) (dM := h_Mo_ofOwner) (Nat.le_of_ble_eq_true rfl) (Nat.le_of_ble_eq_true rfl) (fun _ K => c_ofOwner I.1 I.2.2.1 o w K) (fun _ _ C _ K => m_ofOwner C I.2.2.1 o w K)
theorem pr_set (I : Iv k S q) (v w x : Int32) : lP y_Fo_set y_Mo_set [.int v, .int w, .int x] (fun S2 => ∃ q1, Iv k S2 q1) S := pr_op I (oW_set I.2.2.1 v w x) (dF := h_Fo_set) (dM := h_Mo_set) (Nat.le_of_ble_eq_true rfl) (Nat.le_of_ble_eq_true rfl) (fun _ K => c_set I.1 I.2.2.1 v w x K) (fun _ _ C _ K => m_set C I.2.2.1 v w x K)
theorem pr_check (I : Iv k S q) : lP y_Fo_check y_Mo_check [] (fun S2 => ∃ q1, Iv k S2 q1) S := pr_op I (oW_check I.2.2.1 ) (dF := h_Fo_check) (dM := h_Mo_check) (Nat.le_of_ble_eq_true rfl) (Nat.le_of_ble_eq_true rfl) (fun _ K => c_check I.1 I.2.2.1  K) (fun _ _ C _ K => m_check C I.2.2.1  K)
theorem pr_gain (I : Iv k S q) (o w : Int32) : lP y_Fo_gain y_Mo_gain [.int o, .int w] (fun S2 => ∃ q1, Iv k S2 q1) S := pr_op I (oW_gain I.2.2.1 o w) (dF := h_Fo_gain) (dM := h_Mo_gain) (Nat.le_of_ble_eq_true rfl) (Nat.le_of_ble_eq_true rfl) (fun _ K => c_gain I.1 I.2.2.1 o w K) (fun _ _ C _ K => m_gain C I.2.2.1 o w K)
theorem pr_turns (I : Iv k S q) (o p n : Int32) : lP y_Fo_turns y_Mo_turns [.int o, .int p, .int n] (fun S2 => ∃ q1, Iv k S2 q1) S := pr_op I (oW_turns I.2.2.1 o p n) (dF := h_Fo_turns) (dM := h_Mo_turns) (Nat.le_of_ble_eq_true rfl) (Nat.le_of_ble_eq_true rfl) (fun _ K => c_turns I.1 I.2.2.1 o p n K) (fun _ _ C _ K => m_turns C I.2.2.1 o p n K)
theorem pr_text (I : Iv k S q) (v : Int32) : lP y_Fo_text y_Mo_text [.int v] (fun S2 => ∃ q1, Iv k S2 q1) S := pr_op I (oW_text I.2.2.1 v) (dF := h_Fo_text) (dM := h_Mo_text) (Nat.le_of_ble_eq_true rfl) (Nat.le_of_ble_eq_true rfl) (fun _ K => c_text I.1 I.2.2.1 v K) (fun _ _ C _ K => m_text C I.2.2.1 v K)
theorem pr_feed (I : Iv k S q) (w : Int64) (v : Int32) : lP y_Fo_feed y_Mo_feed [.long w, .int v] (fun S2 => ∃ q1, Iv k S2 q1) S := pr_op I (oW_feed I.2.2.1 w v) (dF := h_Fo_feed) (dM := h_Mo_feed) (Nat.le_of_ble_eq_true rfl) (Nat.le_of_ble_eq_true rfl) (fun _ K => c_feed I.1 I.2.2.1 w v K) (fun _ _ C _ K => m_feed C I.2.2.1 w v K)
theorem e_sh {S1 : wp_S} (f : ∀ a j, 91 ≤ a → S1.2 a j = S.2 a j) : S1.2 100 = S.2 100 ∧ S1.2 101 = S.2 101 ∧ S1.2 102 = S.2 102 := ⟨funext fun j => f 100 j (by decide), funext fun j => f 101 j (by decide), funext fun j => f 102 j (by decide)⟩
theorem pr_one (I : Iv k S q) (v w : Int32) : lP y_Fo_one y_Mo_one [.int v, .int w] (fun S2 => ∃ q1, Iv k S2 q1) S := pr_op I (oW_one I.2.2.1 (S.2 100) (S.2 101) (S.2 102) v w) (dF := h_Fo_one) (dM := h_Mo_one) (Nat.le_of_ble_eq_true rfl) (Nat.le_of_ble_eq_true rfl) (fun _ K => c_one I.1 I.2.2.1 I.2.2.2.1.1 v w K) (fun _ _ C f K => m_one C I.2.2.1 v w (by
  rw [(e_sh f).1, (e_sh f).2.1, (e_sh f).2.2]
  exact K))
theorem pr_fears (I : Iv k S q) (v w : Int32) : lP y_Fo_fears y_Mo_fears [.int v, .int w] (fun S2 => ∃ q1, Iv k S2 q1) S := pr_op I (oW_fears I.2.2.1 (S.2 100) (S.2 101) (S.2 102) v w) (dF := h_Fo_fears) (dM := h_Mo_fears) (Nat.le_of_ble_eq_true rfl) (Nat.le_of_ble_eq_true rfl) (fun _ K => c_fears I.1 I.2.2.1 I.2.2.2.1.1 v w K) (fun _ _ C f K => m_fears C I.2.2.1 v w (by
  rw [(e_sh f).1, (e_sh f).2.1, (e_sh f).2.2]
  exact K))
theorem pr_judge (I : Iv k S q) (v : Int32) : lP y_Fo_judge y_Mo_judge [.int v] (fun S2 => ∃ q1, Iv k S2 q1) S := pr_op I (oW_judge I.2.2.1 (S.2 100) (S.2 101) (S.2 102) v) (dF := h_Fo_judge) (dM := h_Mo_judge) (Nat.le_of_ble_eq_true rfl) (Nat.le_of_ble_eq_true rfl) (fun _ K => c_judge I.1 I.2.2.1 I.2.2.2.1.1 I.2.2.2.1.2 v K) (fun _ _ C f K => m_judge C I.2.2.1 (by rw [(e_sh f).2.1]; exact I.2.2.2.1.2) v (by
  rw [(e_sh f).1, (e_sh f).2.1, (e_sh f).2.2]
  exact K))
theorem pr_acres (I : Iv k S q) (v : Int32) : lP y_Fo_acres y_Mo_acres [.int v] (fun S2 => ∃ q1, Iv k S2 q1) S := pr_op I (oW_acres I.2.2.1 (S.2 100) (S.2 101) (S.2 102) v) (dF := h_Fo_acres) (dM := h_Mo_acres) (Nat.le_of_ble_eq_true rfl) (Nat.le_of_ble_eq_true rfl) (fun _ K => c_acres I.1 I.2.2.1 I.2.2.2.1.1 I.2.2.2.1.2 v K) (fun _ _ C f K => m_acres C I.2.2.1 (by rw [(e_sh f).2.1]; exact I.2.2.2.1.2) v (by
  rw [(e_sh f).1, (e_sh f).2.1, (e_sh f).2.2]
  exact K))
theorem pr_told (I : Iv k S q) (v : Int32) : lP y_Fo_told y_Mo_told [.int v] (fun S2 => ∃ q1, Iv k S2 q1) S := pr_op I (oW_told I.2.2.1 (S.2 90) v) (dF := h_Fo_told) (dM := h_Mo_told) (Nat.le_of_ble_eq_true rfl) (Nat.le_of_ble_eq_true rfl) (fun _ K => c_told I.1 v K) (fun S1 _ C f K => m_told C v (by
  rw [e_told (g := S.2 90) (fun j hj => (f 96 j (by decide)).trans (I.2.2.2.2.1 j hj).symm) q v]
  exact K))
theorem pr_count (I : Iv k S q) (v : Int32) : lP y_Fo_count y_Mo_count [.int v] (fun S2 => ∃ q1, Iv k S2 q1) S := pr_op I (oW_count I.2.2.1 (S.2 79 1) v) (dF := h_Fo_count) (dM := h_Mo_count) (Nat.le_of_ble_eq_true rfl) (Nat.le_of_ble_eq_true rfl) (fun _ K => c_count I.1 I.2.2.1 v K) (fun S1 _ C f K => m_count C I.2.2.1 v (by
  obtain ⟨n, -, h1, h2, -⟩ := I.2.2.2.2.2.2
  rw [f 91 24 (by decide), h2, ← h1]
  exact K))
theorem pr_trace (I : Iv k S q) (v : Int32) : lP y_Fo_trace y_Mo_trace [.int v] (fun S2 => ∃ q1, Iv k S2 q1) S := by
  obtain ⟨n, hn, h1, h2, h3⟩ := I.2.2.2.2.2.2
  refine pr_op I (oW_trace I.2.2.1 (S.2 80) (S.2 79 1) v) (dF := h_Fo_trace) (dM := h_Mo_trace) (Nat.le_of_ble_eq_true rfl) (Nat.le_of_ble_eq_true rfl) (fun _ K => c_trace I.1 hn h1 v K) (fun S1 _ C f K => ?_)
  have g := (f 91 24 (by decide)).trans h2
  refine m_trace C hn g v ?_
  rw [g, e_trace hn (g := S.2 80) (fun j hj => (f 104 j (by decide)).trans (h3 j hj).symm) q v, ← h1]
  exact K
end PR
