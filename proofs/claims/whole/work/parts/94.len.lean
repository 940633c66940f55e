/-! the start: both are made; they tell the same -/
theorem ab_stp_void {X : ab_X} {y : Nat} {s : ab_F} {v : Option Value} (hr : ab_ret y = none) (e : ab_stp X y s = some (.inr (.inr v))) : v = none := by
  unfold ab_stp at e
  split at e
  · rename_i i n hd
    by_cases hR : ab_isR i = false
    · by_cases hI : ab_isI i = false
      · exact (ab_ex_inr hI hR e).elim
      · have hinv : ∀ kd j pc ls st h, ab_inv y kd j pc ls st h = some (.inr (.inr v)) → v = none := by
          intro kd j pc ls st h e
          rcases ab_inv_inv e with ⟨st', u, e2⟩ | ⟨k, as, st', e2⟩ <;> cases e2
        cases i
        case invokevirtual => exact hinv _ _ _ _ _ _ (ab_if_inv e).2
        case invokespecial => exact hinv _ _ _ _ _ _ (ab_if_inv e).2
        case invokestatic => exact hinv _ _ _ _ _ _ (ab_if_inv e).2
        all_goals exact absurd rfl hI
    · cases i
      case ireturn =>
        simp only [ab_ex, ab_rti, hr] at e
        repeat' split at e
        all_goals cases e
      case lreturn =>
        simp only [ab_ex, ab_rtl, hr] at e
        repeat' split at e
        all_goals first | (cases e; done) | (rename_i z; cases z; done)
      case areturn =>
        simp only [ab_ex, ab_rta, hr] at e
        repeat' split at e
        all_goals first | (cases e; done) | (rename_i z; cases z; done)
      case return_ =>
        simp only [ab_ex, ab_rtv] at e
        repeat' split at e
        all_goals first | (cases e; rfl) | cases e
      all_goals exact absurd rfl hR
  · cases e
theorem ab_run_void {C : Nat → List Value → ab_H → Option Value → ab_H → Prop} {X : ab_X} {y : Nat} (hr : ab_ret y = none) : ∀ (n : Nat) (s : ab_F) (r : Option Value) (h' : ab_H), ab_run C X y n s r h' → r = none
  | 0, _, _, _, e => e.elim
  | n + 1, s, r, h', e => by
    unfold ab_run at e
    split at e
    · exact ab_run_void hr n _ r h' e
    · obtain ⟨r1, h1, -, e2⟩ := e
      exact ab_run_void hr n _ r h' e2
    · rename_i v hs
      exact e.1.trans (ab_stp_void hr hs)
    · exact e.elim
theorem ab_cal_void {X : ab_X} {d y : Nat} {as : List Value} {h h' : ab_H} {r : Option Value} (hr : ab_ret y = none) (e : ab_cal X d y as h r h') : r = none := by
  cases d with
  | zero => exact e.elim
  | succ d =>
    obtain ⟨-, n, e⟩ := e
    exact ab_run_void hr n _ r h' e
theorem h1_len : (match ab_h1 none with | some h => h.1.length == 91 | none => false) = true := by decide +kernel
