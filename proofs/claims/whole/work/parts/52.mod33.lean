/-! the reference: numbers moved, to their place -/
def m2 (S : wp_S) (b n : Nat) : wp_S := (S.1, fun c x => if c = 102 ∧ b ≤ x ∧ x < b + n then S.2 103 (x - b) else S.2 c x)
theorem m2_0 (S : wp_S) (b : Nat) : m2 S b 0 = S := Prod.ext rfl (funext fun c => funext fun x => if_neg (by omega))
theorem m2_s (S : wp_S) (b k : Nat) : wp_u (m2 S b k) 102 (b + k) ((m2 S b k).2 103 k) = m2 S b (k + 1) := by
  refine Prod.ext rfl (funext fun c => funext fun x => ?_)
  rw [wp_u2]
  simp only [m2]
  rw [if_neg (show ¬ (103 = 102 ∧ b ≤ k ∧ k < b + k) from fun z => absurd z.1 (by decide))]
  by_cases h1 : c = 102 ∧ x = b + k
  · rw [if_pos h1, if_pos (by omega), h1.2, show b + k - b = k by omega]
  · by_cases h2 : c = 102 ∧ b ≤ x ∧ x < b + k
    · rw [if_neg h1, if_pos h2, if_pos (by omega)]
    · rw [if_neg h1, if_neg h2, if_neg (by omega)]
section OQ
variable {S : wp_S} {q : sp_R} {mu : Int32} {Q : Option Value → wp_S → Prop}
theorem m_mo_2 (s i o j n : Nat) (ho : o < 4) (hj : j + n ≤ 40) (K : Q (some (.int (nI n))) (m2 S (40 * o + j) n)) : ∀ m k, k + m = n → wp (h_Mo_move - 1) y_Mo_move 156 [some (.ref 91), some (.int (nI s)), some (.int (nI i)), some (.int (nI o)), some (.int (nI j)), some (.int (nI n)), some (.int (nI k))] [] (m2 S (40 * o + j) k) Q := by
  intro m
  induction m with
  | zero =>
    intro k hk
    obtain rfl : k = n := by omega
    refine wp_iload d_Mo_move_156 rfl ?_
    refine wp_iload d_Mo_move_158 rfl ?_
    refine wp_icN_ge (pc' := 191) d_Mo_move_160 (by decide) (by omega) (by omega) (fun h160 => ?_) (fun h160 => absurd h160 (by omega))
    refine wp_iload d_Mo_move_191 rfl ?_
    refine wp_reti d_Mo_move_193 rt_Mo_move ?_
    exact K
  | succ m ih =>
    intro k hk
    refine wp_iload d_Mo_move_156 rfl ?_
    refine wp_iload d_Mo_move_158 rfl ?_
    refine wp_icN_ge (pc' := 191) d_Mo_move_160 (by decide) (by omega) (by omega) (fun h160 => absurd h160 (by omega)) (fun h160 => ?_)
    refine wp_aload_n d_Mo_move_163 rfl rfl ?_
    refine wp_getR d_Mo_move_164 ow_Mo_move fl_8_44 (O_91 _) rfl ?_
    refine wp_bipush (x := nI 40) d_Mo_move_167 (by decide) ?_
    refine wp_iload_n d_Mo_move_169 rfl rfl ?_
    refine wp_imul d_Mo_move_170 (pk_mul _ _) ?_
    refine wp_iload d_Mo_move_171 rfl ?_
    refine wp_iadd d_Mo_move_173 (nI_add _ _) ?_
    refine wp_iload d_Mo_move_174 rfl ?_
    refine wp_iadd d_Mo_move_176 (nI_add _ _) ?_
    refine wp_aload_n d_Mo_move_177 rfl rfl ?_
    refine wp_getR d_Mo_move_178 ow_Mo_move fl_8_47 (O_91 _) rfl ?_
    refine wp_iload d_Mo_move_181 rfl ?_
    refine wp_iaload d_Mo_move_183 (A_103 _) (by omega) (by decide) (rfl) ?_
    refine wp_iastore d_Mo_move_184 (A_102 _) (by omega) (by decide) ?_
    refine wp_eqS (m2_s S (40 * o + j) k) ?_
    refine wp_iinc6 d_Mo_move_185 rfl (nI_add _ 1) ?_
    refine wp_goto (pc' := 156) d_Mo_move_188 (by decide) ?_
    exact ih (k + 1) (by omega)
theorem m_mo (s i o j n : Nat) (hs : s < 4) (hi : i + n ≤ 40) (ho : o < 4) (hj : j + n ≤ 40) (l6 : Option Value) (K : Q (some (.int (nI n))) (m2 (m1 S (40 * s + i) n) (40 * o + j) n)) : wp (h_Mo_move - 1) y_Mo_move 116 [some (.ref 91), some (.int (nI s)), some (.int (nI i)), some (.int (nI o)), some (.int (nI j)), some (.int (nI n)), l6] [] S Q := by
  have L153 : wp (h_Mo_move - 1) y_Mo_move 153 [some (.ref 91), some (.int (nI s)), some (.int (nI i)), some (.int (nI o)), some (.int (nI j)), some (.int (nI n)), some (.int (nI n))] [] (m1 S (40 * s + i) n) Q := by
    refine wp_iconst (x := nI 0) d_Mo_move_153 rfl ?_
    refine wp_isto6 d_Mo_move_154 rfl ?_
    exact (m2_0 (m1 S (40 * s + i) n) (40 * o + j)) ▸ m_mo_2 (S := m1 S (40 * s + i) n) s i o j n ho hj K n 0 (Nat.zero_add _)
  refine wp_iconst (x := nI 0) d_Mo_move_116 rfl ?_
  refine wp_isto6 d_Mo_move_117 rfl ?_
  exact (m1_0 S (40 * s + i)) ▸ m_mo_1 (S := S) s i o j n hs hi L153 n 0 (Nat.zero_add _)
end OQ
