/-! the first memory: the class and the reference tell the same -/
/-- a place of the first memory that is a number's -/
def vd (k j : Nat) : Bool := match (ab_SH 10002)[k]? with
  | some (_, n, rs) => decide (j < n) && (match rs[j]? with
    | some (some _) => false
    | _ => true)
  | none => false
theorem vd_le : ∀ k : Nat, ∀ j, vd k j = true → k < 105 := by
  intro k j h
  unfold vd at h
  split at h
  · rename_i t n rs e
    exact (List.getElem?_eq_some_iff.mp e).1
  · cases h
theorem chk_of {h : ab_H} (c : ab_chk h = true) : h.1 = ab_SH 10002 ∧ ∀ k j, vd k j = true → h.2 k j = ab_m0 k j := by
  unfold ab_chk at c
  obtain ⟨c1, c2⟩ := (Bool.and_eq_true _ _).mp c
  have c1 := of_decide_eq_true c1
  refine ⟨c1, fun k j hv => ?_⟩
  have hk := vd_le k j hv
  have c3 := List.all_eq_true.mp c2 k (List.mem_range.mpr hk)
  rw [c1] at c3
  unfold vd at hv
  split at hv
  · rename_i t n rs e
    rw [e] at c3
    dsimp only at c3
    obtain ⟨hv1, hv2⟩ := (Bool.and_eq_true _ _).mp hv
    have c4 := List.all_eq_true.mp c3 j (List.mem_range.mpr (of_decide_eq_true hv1))
    split at hv2
    · cases hv2
    · rename_i hn
      split at c4
      · rename_i v e2
        exact (hn _ e2).elim
      · exact of_decide_eq_true c4
  · cases hv
def vx (k j : Nat) (x : Int32) : Bool := vd k j && decide (ab_m0 k j = x)
theorem vx_of {u : Nat → Nat → Int32} (h : ∀ k j, vd k j = true → u k j = ab_m0 k j) {k j : Nat} {x : Int32} (v : vx k j x = true) : u k j = x := by
  obtain ⟨v1, v2⟩ := (Bool.and_eq_true _ _).mp v
  exact (h k j v1).trans (of_decide_eq_true v2)
theorem v_cl : ∀ j : Fin 183, j.val ≠ 6 → j.val ≠ 7 → (j.val < 13 ∨ 113 ≤ j.val) → vd 92 j.val = true ∧ vx (cc j.val).1 (cc j.val).2 (ab_m0 92 j.val) = true := by decide +kernel
theorem v_nu : ∀ i : Fin 10, vx (13 + 2 * i.val) 0 (nI i.val) = true ∧ vx (45 + 2 * i.val) 0 (nI i.val) = true := by decide +kernel
theorem v_sh : ∀ s : Fin 4, vx (82 + 2 * s.val) 1 0 = true ∧ vx (82 + 2 * s.val) 2 0 = true ∧ vx 100 s.val 0 = true ∧ vx 101 s.val 0 = true ∧ ∀ j : Fin 40, vx (83 + 2 * s.val) j.val 0 = true ∧ vx 102 (40 * s.val + j.val) 0 = true := by decide +kernel
theorem v_er : ∀ j : Fin 6, vx 90 j.val 0 = true ∧ vx 96 j.val 0 = true := by decide +kernel
theorem v_fe : ∀ o : Fin 4, vx 92 (9 + o.val) (nI o.val) = true := by decide +kernel
theorem v_ta : ∀ k : Fin 50, vx 92 (113 + k.val) (nI 0) = true := by decide +kernel
theorem v_ot : vx 92 0 (nI 0) = true ∧ vx 92 1 (nI 0) = true ∧ vx 92 2 (nI 0) = true ∧ vx 92 4 (nI 0) = true ∧ vx 92 5 (nI 0) = true ∧ vx 92 6 (-1) = true ∧ vx 92 7 (-1) = true ∧ vx 92 8 (nI 4) = true ∧ vx 91 7 (-1) = true ∧ vx 91 4 0 = true ∧ vx 91 5 (nI 0) = true ∧ vx 91 24 (nI 0) = true ∧ vx 79 1 (nI 0) = true ∧ vx 0 7 (nI 0) = true := by decide +kernel
theorem v_la : vx 4 3 (nI 3) = true ∧ vx 5 0 10000 = true ∧ vx 5 1 2 = true ∧ vx 5 2 20062 = true ∧ vx 7 3 (nI 1) = true ∧ vx 8 0 10000 = true := by decide +kernel
theorem iv_0 {u : Nat → Nat → Int32} (h : ∀ k j, vd k j = true → u k j = ab_m0 k j) : Iv 0 (10002, u) (u 92) := by
  obtain ⟨o0, o1, o2, o4, o5, o6, o7, o8, p7, p4, p5, p24, p79, p07⟩ := v_ot
  have e0 : u 92 0 = nI 0 := vx_of h o0
  have e6 : u 92 6 = -1 := vx_of h o6
  have e7 : u 92 7 = -1 := vx_of h o7
  have en : sp_n (u 92) = 0 := by
    unfold sp_n
    rw [e0]
    decide
  have tw : ∀ w, w < 2 → sp_tw (u 92) w := fun w hw => Or.inl (by
    rcases (show w = 0 ∨ w = 1 by omega) with rfl | rfl
    · exact e6
    · exact e7)
  refine ⟨⟨⟨fun j h1 h2 h3 h4 => ?_, by rw [en]; exact Nat.zero_le _⟩, fun i hi => vx_of h (v_nu ⟨i, hi⟩).1, fun w hw => ?_⟩, ⟨rfl, vx_of h p7⟩, ⟨⟨0, Nat.zero_le _, e0⟩, fun i hi => by rw [en] at hi; omega, tw, ⟨0, Nat.zero_le _, vx_of h o1⟩, ⟨0, Nat.zero_le _, vx_of h o2⟩, ⟨0, Nat.zero_le _, vx_of h o4⟩, ⟨0, Nat.zero_le _, vx_of h o5⟩, ⟨4, by decide, by decide, vx_of h o8⟩, fun o ho => ⟨o, by omega, vx_of h (v_fe ⟨o, ho⟩)⟩, fun k hk => ⟨0, by decide, vx_of h (v_ta ⟨k, hk⟩)⟩⟩, ⟨fun s hs => ?_, fun s hs => ⟨0, Nat.zero_le _, vx_of h (v_sh ⟨s, hs⟩).2.2.2.1⟩⟩, fun j hj => ?_, ⟨fun i hi => vx_of h (v_nu ⟨i, hi⟩).2, 0, Nat.le_refl _, vx_of h p07, vx_of h p5, ⟨fun _ => rfl, fun _ => vx_of h p4⟩, fun z => absurd rfl z⟩, ⟨0, Nat.zero_le _, vx_of h p79, vx_of h p24, fun j hj => absurd hj (Nat.not_lt_zero _)⟩⟩
  · unfold sp_us1 at h4
    rw [en] at h4
    obtain ⟨g1, g2⟩ := v_cl ⟨j, h1⟩ h2 h3 (show j < 13 ∨ 113 ≤ j by omega)
    exact (vx_of h g2).trans (h 92 j g1).symm
  · obtain ⟨l1, l2, l3, l4, l5, l6⟩ := v_la
    refine ⟨tw w hw, ?_⟩
    rcases (show w = 0 ∨ w = 1 by omega) with rfl | rfl
    · have ec : sp_code (u 92) 0 = [10000, 2, 20062] := by
        unfold sp_code
        rw [if_pos (by rw [e6]; decide), if_pos rfl]
      rw [ec]
      refine ⟨Nat.le_of_ble_eq_true rfl, vx_of h l1, fun k x hk => ?_⟩
      rcases k with _ | _ | _ | k
      · cases hk; exact vx_of h l2
      · cases hk; exact vx_of h l3
      · cases hk; exact vx_of h l4
      · cases hk
    · have ec : sp_code (u 92) 1 = [10000] := by
        unfold sp_code
        rw [if_pos (by rw [e7]; decide), if_neg (by decide)]
      rw [ec]
      refine ⟨Nat.le_of_ble_eq_true rfl, vx_of h l5, fun k x hk => ?_⟩
      rcases k with _ | k
      · cases hk; exact vx_of h l6
      · cases hk
  · obtain ⟨g1, g2, g3, g4, g5⟩ := v_sh ⟨s, hs⟩
    exact ⟨(vx_of h g1).trans (vx_of h g3).symm, (vx_of h g2).trans (vx_of h g4).symm, fun j hj => (vx_of h (g5 ⟨j, hj⟩).1).trans (vx_of h (g5 ⟨j, hj⟩).2).symm⟩
  · obtain ⟨g1, g2⟩ := v_er ⟨j, hj⟩
    exact (vx_of h g1).trans (vx_of h g2).symm
