/-! the reference: texts, level by level -/
section PR
variable {S : wp_S} {q : sp_R} {u n : Nat} {a b c : Int32} {Q : Option Value → wp_S → Prop}
/-- what is asked of a reading -/
def ps_T (S : wp_S) (q : sp_R) (u n : Nat) (a b c : Int32) (d y f lv op k : Nat) : Prop := ∀ (Q : Option Value → wp_S → Prop), (∀ v, ((ps_p q u n f lv op k).1 = true → ∀ St, sp_ex a b c (ps_p q u n f lv op k).2.2 St = v :: St) → Q (some (.int v)) (ps S (ps_p q u n f lv op k).2.1 op (ps_p q u n f lv op k).1)) → cl d y [.ref k_Mo] (ps S k op true) Q
theorem sp_nu_le (f : Nat) : ∀ k v, k ≤ n → k ≤ (sp_nu (ps_b q u n) f k v).1 ∧ (sp_nu (ps_b q u n) f k v).1 ≤ n := by
  induction f with
  | zero => exact fun k v h => ⟨Nat.le_refl _, h⟩
  | succ f ih =>
    intro k v h
    unfold sp_nu
    split
    · rename_i h1
      have := ih (k + 1) (nI 10 * v + ps_b q u n k - nI 48) (ps_b_dg h1)
      exact ⟨by omega, this.2⟩
    · exact ⟨Nat.le_refl _, h⟩
theorem sp_nu_lt (f k : Nat) (v : Int32) (hk : k ≤ n) (h : sp_dg (ps_b q u n k) = true) : k < (sp_nu (ps_b q u n) (f + 1) k v).1 := by
  unfold sp_nu
  rw [if_pos h]
  have := sp_nu_le (q := q) (u := u) (n := n) f (k + 1) (nI 10 * v + ps_b q u n k - nI 48) (ps_b_dg h)
  omega
theorem sp_dg_of {x : Int32} (h : sp_dg x = true) : ∃ j, j ≤ 9 ∧ x = nI (48 + j) := by
  unfold sp_dg at h
  have h := decide_eq_true_iff.mp h
  obtain ⟨j, h1, rfl⟩ := (i_in (v := x) (n := 57) (by decide)).mp ⟨Int32.le_trans (by decide) h.1, h.2⟩
  have := (nI_leI (by decide) (by omega)).mp (show nI 48 ≤ nI j from h.1)
  exact ⟨j - 48, by omega, by rw [show 48 + (j - 48) = j by omega]⟩
theorem sp_nu_bd (by_ : Nat → Int32) (f : Nat) : ∀ k m B, m < B → ∃ m', m' < B * 10 ^ f ∧ (sp_nu by_ f k (nI m)).2 = nI m' := by
  induction f with
  | zero => exact fun k m B h => ⟨m, by omega, rfl⟩
  | succ f ih =>
    intro k m B h
    unfold sp_nu
    split
    · rename_i h1
      obtain ⟨j, hj, e⟩ := sp_dg_of h1
      rw [e, pk_mul, nI_add, show 10 * m + (48 + j) = (10 * m + j) + 48 by omega, show nI (10 * m + j + 48) - nI 48 = nI (10 * m + j) from by rw [pk_sub (by omega)]; congr 1]
      obtain ⟨m', h2, h3⟩ := ih (k + 1) (10 * m + j) (B * 10) (by omega)
      exact ⟨m', by rw [Nat.pow_succ, Nat.mul_comm (10 ^ f), ← Nat.mul_assoc]; exact h2, h3⟩
    · refine ⟨m, Nat.lt_of_lt_of_le h (Nat.le_mul_of_pos_right _ (Nat.pow_pos (by decide))), rfl⟩
theorem sp_op_lt {lv k : Nat} (h : sp_op lv (ps_b q u n k) = true) : k < n := ps_b_lt rfl (fun z => by
  rw [z] at h
  unfold sp_op at h
  split at h
  · exact absurd h (by decide)
  · split at h
    · exact absurd h (by decide)
    · split at h
      · exact absurd h (by decide)
      · split at h <;> exact absurd h (by decide))
/-- a reading goes on, and not beyond the end -/
theorem sp_lp_le {g : Nat → sp_P} {lv : Nat} (hg : ∀ k, k ≤ n → k ≤ (g k).2.1 ∧ (g k).2.1 ≤ n ∧ ((g k).1 = true → k < (g k).2.1)) (c : Nat) : ∀ r : sp_P, r.2.1 ≤ n → r.2.1 ≤ (sp_lp g (sp_op lv) (ps_b q u n) c r).2.1 ∧ (sp_lp g (sp_op lv) (ps_b q u n) c r).2.1 ≤ n := by
  induction c with
  | zero => exact fun r h => ⟨Nat.le_refl _, h⟩
  | succ c ih =>
    intro r h
    unfold sp_lp
    split
    · rename_i h1
      have h2 := hg (r.2.1 + 1) (sp_op_lt h1.2)
      have h3 := ih ((g (r.2.1 + 1)).1, (g (r.2.1 + 1)).2.1, r.2.2 ++ (g (r.2.1 + 1)).2.2 ++ [20000 + ps_b q u n r.2.1]) h2.2.1
      exact ⟨by have := h3.1; dsimp only at this; omega, h3.2⟩
    · exact ⟨Nat.le_refl _, h⟩
theorem sp_pr_le (f : Nat) : ∀ lv op k, k ≤ n → k ≤ (ps_p q u n f lv op k).2.1 ∧ (ps_p q u n f lv op k).2.1 ≤ n ∧ ((ps_p q u n f lv op k).1 = true → k < (ps_p q u n f lv op k).2.1) := by
  induction f with
  | zero => exact fun lv op k h => ⟨Nat.le_refl _, h, fun z => by cases z⟩
  | succ f ih =>
    intro lv op k h
    have c1 : sp_n0 u ≠ -1 := by unfold sp_n0; split <;> decide
    have c2 : sp_n1 u ≠ -1 := by unfold sp_n1; split <;> decide
    have c3 : sp_n2 u ≠ -1 := by unfold sp_n2; split <;> decide
    unfold ps_p sp_pr
    split
    · have h1 := ih (lv + 1) op k h
      have h2 := sp_lp_le (q := q) (u := u) (lv := lv) (g := fun k => ps_p q u n f (lv + 1) op k) (fun k hk => ih (lv + 1) op k hk) (if lv = 2 then 1 else 50) (ps_p q u n f (lv + 1) op k) h1.2.1
      refine ⟨Nat.le_trans h1.1 h2.1, h2.2, fun z => Nat.lt_of_lt_of_le (h1.2.2 ?_) h2.1⟩
      generalize (if lv = 2 then 1 else 50) = cc at z
      cases hr : (ps_p q u n f (lv + 1) op k).1 with
      | true => rfl
      | false =>
        exfalso
        cases cc with
        | zero => unfold sp_lp at z; exact absurd (hr.symm.trans z) (by decide)
        | succ cc =>
          unfold sp_lp at z
          rw [if_neg (fun w => absurd (hr.symm.trans w.1) (by decide))] at z
          exact absurd (hr.symm.trans z) (by decide)
    · split
      · rename_i h1
        have h2 := sp_nu_le (q := q) (u := u) 4 k 0 h
        exact ⟨h2.1, h2.2, fun _ => sp_nu_lt 3 k 0 h h1⟩
      · split
        · rename_i h1
          have := ps_b_lt h1 c1
          exact ⟨by dsimp only; omega, by dsimp only; omega, fun _ => by dsimp only; omega⟩
        · split
          · rename_i h1
            have := ps_b_lt h1 c2
            exact ⟨by dsimp only; omega, by dsimp only; omega, fun _ => by dsimp only; omega⟩
          · split
            · rename_i h1
              have := ps_b_lt h1 c3
              exact ⟨by dsimp only; omega, by dsimp only; omega, fun _ => by dsimp only; omega⟩
            · split
              · rename_i h1
                have h2 := ih 5 (op + 1) (k + 1) (ps_b_lt h1.1 (by decide))
                exact ⟨Nat.le_trans (Nat.le_succ k) h2.1, h2.2.1, fun z => Nat.lt_of_lt_of_le (Nat.lt_succ_self k) h2.1⟩
              · split
                · rename_i h1
                  have h2 := ih 0 (op + 1) (k + 1) (ps_b_lt h1.1 (by decide))
                  split
                  · rename_i h3
                    have h4 := ps_b_lt h3.2 (by decide)
                    exact ⟨by have := h2.1; dsimp only [ps_p] at *; omega, by dsimp only [ps_p] at *; omega, fun _ => by have := h2.1; dsimp only [ps_p] at *; omega⟩
                  · exact ⟨Nat.le_trans (Nat.le_succ k) h2.1, h2.2.1, fun z => by cases z⟩
                · exact ⟨Nat.le_refl _, h, fun z => by cases z⟩
end PR
