/-! the reference: numbers moved -/
def m1 (S : wp_S) (a n : Nat) : wp_S := (S.1, fun c x => if c = 103 ∧ x < n then S.2 102 (a + x) else S.2 c x)
theorem m1_0 (S : wp_S) (a : Nat) : m1 S a 0 = S := Prod.ext rfl (funext fun c => funext fun x => if_neg (by omega))
theorem m1_s (S : wp_S) (a k : Nat) : wp_u (m1 S a k) 103 k ((m1 S a k).2 102 (a + k)) = m1 S a (k + 1) := by
  refine Prod.ext rfl (funext fun c => funext fun x => ?_)
  rw [wp_u2]
  simp only [m1]
  rw [if_neg (show ¬ (102 = 103 ∧ a + k < k) from fun z => absurd z.1 (by decide))]
  by_cases h1 : c = 103 ∧ x = k
  · rw [if_pos h1, if_pos (by omega), h1.2]
  · by_cases h2 : c = 103 ∧ x < k
    · rw [if_neg h1, if_pos h2, if_pos (by omega)]
    · rw [if_neg h1, if_neg h2, if_neg (by omega)]
section OP
variable {S : wp_S} {q : sp_R} {mu : Int32} {Q : Option Value → wp_S → Prop}
theorem m_mo_1 (s i o j n : Nat) (hs : s < 4) (hi : i + n ≤ 40) (K : wp (h_Mo_move - 1) y_Mo_move 153 [some (.ref 91), some (.int (nI s)), some (.int (nI i)), some (.int (nI o)), some (.int (nI j)), some (.int (nI n)), some (.int (nI n))] [] (m1 S (40 * s + i) n) Q) : ∀ m k, k + m = n → wp (h_Mo_move - 1) y_Mo_move 119 [some (.ref 91), some (.int (nI s)), some (.int (nI i)), some (.int (nI o)), some (.int (nI j)), some (.int (nI n)), some (.int (nI k))] [] (m1 S (40 * s + i) k) Q := by
  intro m
  induction m with
  | zero =>
    intro k hk
    obtain rfl : k = n := by omega
    refine wp_iload d_Mo_move_119 rfl ?_
    refine wp_iload d_Mo_move_121 rfl ?_
    refine wp_icN_ge (pc' := 153) d_Mo_move_123 (by decide) (by omega) (by omega) (fun h123 => ?_) (fun h123 => absurd h123 (by omega))
    exact K
  | succ m ih =>
    intro k hk
    refine wp_iload d_Mo_move_119 rfl ?_
    refine wp_iload d_Mo_move_121 rfl ?_
    refine wp_icN_ge (pc' := 153) d_Mo_move_123 (by decide) (by omega) (by omega) (fun h123 => absurd h123 (by omega)) (fun h123 => ?_)
    refine wp_aload_n d_Mo_move_126 rfl rfl ?_
    refine wp_getR d_Mo_move_127 ow_Mo_move fl_8_47 (O_91 _) rfl ?_
    refine wp_iload d_Mo_move_130 rfl ?_
    refine wp_aload_n d_Mo_move_132 rfl rfl ?_
    refine wp_getR d_Mo_move_133 ow_Mo_move fl_8_44 (O_91 _) rfl ?_
    refine wp_bipush (x := nI 40) d_Mo_move_136 (by decide) ?_
    refine wp_iload_n d_Mo_move_138 rfl rfl ?_
    refine wp_imul d_Mo_move_139 (pk_mul _ _) ?_
    refine wp_iload_n d_Mo_move_140 rfl rfl ?_
    refine wp_iadd d_Mo_move_141 (nI_add _ _) ?_
    refine wp_iload d_Mo_move_142 rfl ?_
    refine wp_iadd d_Mo_move_144 (nI_add _ _) ?_
    refine wp_iaload d_Mo_move_145 (A_102 _) (by omega) (by decide) (rfl) ?_
    refine wp_iastore d_Mo_move_146 (A_103 _) (by omega) (by decide) ?_
    refine wp_eqS (m1_s S (40 * s + i) k) ?_
    refine wp_iinc6 d_Mo_move_147 rfl (nI_add _ 1) ?_
    refine wp_goto (pc' := 119) d_Mo_move_150 (by decide) ?_
    exact ih (k + 1) (by omega)
end OP
