/-! the law's loop -/
theorem and63 (x : Int32) : ∃ c, c < 64 ∧ x &&& nI 63 = nI c := by
  refine ⟨x.toBitVec.toNat % 64, Nat.mod_lt _ (by decide), ?_⟩
  refine Int32.toBitVec_inj.mp (BitVec.eq_of_toNat_eq ?_)
  have h1 : ((x &&& nI 63).toBitVec).toNat = x.toBitVec.toNat % 64 := by
    show (x.toBitVec &&& BitVec.ofNat 32 63).toNat = _
    rw [BitVec.toNat_and, BitVec.toNat_ofNat, Nat.mod_eq_of_lt (show 63 < 2 ^ 32 by decide)]
    exact Nat.and_two_pow_sub_one_eq_mod _ 6
  have h2 : ((nI (x.toBitVec.toNat % 64)).toBitVec).toNat = x.toBitVec.toNat % 64 := by
    show (BitVec.ofNat 32 (x.toBitVec.toNat % 64)).toNat = _
    rw [BitVec.toNat_ofNat, Nat.mod_eq_of_lt (by omega)]
  rw [h1, h2]
theorem lP_imp {kF kM : Nat} {a : List Value} {R R2 : wp_S → Prop} {S : wp_S} (h : lP kF kM a R S) (g : ∀ S2, R S2 → R2 S2) : lP kF kM a R2 S := cl_imp h (fun _ _ z => by
  obtain ⟨v, e, z2⟩ := z
  exact ⟨v, e, cl_imp z2 (fun _ _ y => ⟨y.1, g _ y.2⟩)⟩)
theorem lw_end {L i : Nat} (hL : L ≤ 3072) (hi : i ≤ 9999) : nI L - nI 6 < nI i ↔ L < i + 6 := by
  rcases Nat.lt_or_ge L 6 with h | h
  · have g : nI L - nI 6 < 0 := by
      rcases (show L = 0 ∨ L = 1 ∨ L = 2 ∨ L = 3 ∨ L = 4 ∨ L = 5 by omega) with rfl | rfl | rfl | rfl | rfl | rfl <;> decide
    exact ⟨fun _ => by omega, fun _ => Int32.lt_of_lt_of_le g (nI_pos' (by omega))⟩
  · rw [pk_sub h]
    rw [← Int32.not_le, nI_leI (by omega) (by omega)]
    omega
section LL
variable {L : Nat} {xs : Nat → Int32}
theorem lw_case (hL : L ≤ 3072) {i k : Nat} {S : wp_S} {q : sp_R} (hk : k ≤ 9999) (hi : i + 6 ≤ L) (I : Iv k S q) (n1 : ∀ S2, (∃ q1, Iv (k + 1) S2 q1) → lw (some (L, xs)) 200 y_Law_law 18 (lL (i + 6)) [] S2) {c : Nat} (hc : c < 64) : lw (some (L, xs)) 200 y_Law_law 33 (lL i) [.int (nI c)] S := by
  have n0 : ∀ S2, (∃ q1, Iv k S2 q1) → lw (some (L, xs)) 200 y_Law_law 18 (lL (i + 6)) [] S2 := fun S2 h => n1 S2 (by
    obtain ⟨q1, h⟩ := h
    exact ⟨q1, Iv_mono h (Nat.le_succ _)⟩)
  by_cases h36 : c ≤ 36
  · rcases (show c = 0 ∨ c = 1 ∨ c = 2 ∨ c = 3 ∨ c = 4 ∨ c = 5 ∨ c = 6 ∨ c = 7 ∨ c = 8 ∨ c = 9 ∨ c = 10 ∨ c = 11 ∨ c = 12 ∨ c = 13 ∨ c = 14 ∨ c = 15 ∨ c = 16 ∨ c = 17 ∨ c = 18 ∨ c = 19 ∨ c = 20 ∨ c = 21 ∨ c = 22 ∨ c = 23 ∨ c = 24 ∨ c = 25 ∨ c = 26 ∨ c = 27 ∨ c = 28 ∨ c = 29 ∨ c = 30 ∨ c = 31 ∨ c = 32 ∨ c = 33 ∨ c = 34 ∨ c = 35 ∨ c = 36 by omega) with rfl | rfl | rfl | rfl | rfl | rfl | rfl | rfl | rfl | rfl | rfl | rfl | rfl | rfl | rfl | rfl | rfl | rfl | rfl | rfl | rfl | rfl | rfl | rfl | rfl | rfl | rfl | rfl | rfl | rfl | rfl | rfl | rfl | rfl | rfl | rfl | rfl
    · refine lw_ts (pc' := 196) (off := 163) d_Law_law_33 (by decide) rfl (by decide) ?_
      exact lw_c0 hL hi (lP_imp (pr_field I _ _) n0)
    · refine lw_ts (pc' := 229) (off := 196) d_Law_law_33 (by decide) rfl (by decide) ?_
      exact lw_c1 hL hi (lP_imp (pr_ofField I _ _) n0)
    · refine lw_ts (pc' := 262) (off := 229) d_Law_law_33 (by decide) rfl (by decide) ?_
      exact lw_c2 hL hi (lP_imp (pr_tellings I _ _) n0)
    · refine lw_ts (pc' := 295) (off := 262) d_Law_law_33 (by decide) rfl (by decide) ?_
      exact lw_c3 hL hi (lP_imp (pr_ofOwner I _ _) n0)
    · refine lw_ts (pc' := 328) (off := 295) d_Law_law_33 (by decide) rfl (by decide) ?_
      exact lw_c4 hL hi (lP_imp (pr_become I _ _) n0)
    · refine lw_ts (pc' := 361) (off := 328) d_Law_law_33 (by decide) rfl (by decide) ?_
      exact lw_c5 hL hi (lP_imp (pr_as I _ _) n0)
    · refine lw_ts (pc' := 394) (off := 361) d_Law_law_33 (by decide) rfl (by decide) ?_
      exact lw_c6 hL hi (lP_imp (pr_set I _ _ _) n0)
    · refine lw_ts (pc' := 437) (off := 404) d_Law_law_33 (by decide) rfl (by decide) ?_
      exact lw_c7 hL hi (lP_imp (pr_fear I _ _) n0)
    · refine lw_ts (pc' := 470) (off := 437) d_Law_law_33 (by decide) rfl (by decide) ?_
      exact lw_c8 hL hi (lP_imp (pr_pace I _) n0)
    · refine lw_ts (pc' := 493) (off := 460) d_Law_law_33 (by decide) rfl (by decide) ?_
      exact lw_c9 hL hi (lP_imp (pr_forgets I _) n0)
    · refine lw_ts (pc' := 516) (off := 483) d_Law_law_33 (by decide) rfl (by decide) ?_
      exact lw_c10 hL hi (lP_imp (pr_tells I _ _) n0)
    · refine lw_ts (pc' := 549) (off := 516) d_Law_law_33 (by decide) rfl (by decide) ?_
      exact lw_c11 hL hi (lP_imp (pr_loose I _) n0)
    · refine lw_ts (pc' := 572) (off := 539) d_Law_law_33 (by decide) rfl (by decide) ?_
      exact lw_c12 hL hi (fun w => lP_imp (pr_feed I w _) n0)
    · refine lw_ts (pc' := 635) (off := 602) d_Law_law_33 (by decide) rfl (by decide) ?_
      exact lw_c13 hL hi (lP_imp (pr_text I _) n0)
    · refine lw_ts (pc' := 658) (off := 625) d_Law_law_33 (by decide) rfl (by decide) ?_
      exact lw_c14 hL hi (lP_imp (pr_law I _ _ _ _) n0)
    · refine lw_ts (pc' := 711) (off := 678) d_Law_law_33 (by decide) rfl (by decide) ?_
      exact lw_c15 hL hi (lP_imp (pr_needed I _ _) n0)
    · refine lw_ts (pc' := 744) (off := 711) d_Law_law_33 (by decide) rfl (by decide) ?_
      exact lw_c16 hL hi (lP_imp (pr_coach I _) n0)
    · refine lw_ts (pc' := 767) (off := 734) d_Law_law_33 (by decide) rfl (by decide) ?_
      exact lw_c17 hL hi (lP_imp (pr_gain I _ _) n0)
    · refine lw_ts (pc' := 800) (off := 767) d_Law_law_33 (by decide) rfl (by decide) ?_
      exact lw_c18 hL hi (lP_imp (pr_turns I _ _ _) n0)
    · refine lw_ts (pc' := 843) (off := 810) d_Law_law_33 (by decide) rfl (by decide) ?_
      exact lw_c19 hL hi (lP_imp (pr_one I _ _) n0)
    · refine lw_ts (pc' := 876) (off := 843) d_Law_law_33 (by decide) rfl (by decide) ?_
      exact lw_c20 hL hi (lP_imp (pr_fears I _ _) n0)
    · refine lw_ts (pc' := 909) (off := 876) d_Law_law_33 (by decide) rfl (by decide) ?_
      exact lw_c21 hL hi (lP_imp (pr_silence I _ _) n0)
    · refine lw_ts (pc' := 942) (off := 909) d_Law_law_33 (by decide) rfl (by decide) ?_
      exact lw_c22 hL hi (cl_imp (pr_odds I _ _) (fun _ _ z => by
        obtain ⟨v, e, z2⟩ := z
        exact ⟨v, e, cl_imp z2 (fun _ _ y => ⟨y.1, n0 _ y.2⟩)⟩))
    · refine lw_ts (pc' := 976) (off := 943) d_Law_law_33 (by decide) rfl (by decide) ?_
      exact lw_c23 hL hi (lP_imp (pr_seed I _) n0)
    · refine lw_ts (pc' := 999) (off := 966) d_Law_law_33 (by decide) rfl (by decide) ?_
      exact lw_c24 hL hi (lP_imp (pr_voice I _ _ _) n0)
    · refine lw_ts (pc' := 1042) (off := 1009) d_Law_law_33 (by decide) rfl (by decide) ?_
      exact lw_c25 hL hi (lP_imp (pr_trace I _) n0)
    · refine lw_ts (pc' := 1065) (off := 1032) d_Law_law_33 (by decide) rfl (by decide) ?_
      exact lw_c26 hL hi (lP_imp (pr_sheet I _ _ _) n0)
    · refine lw_ts (pc' := 1108) (off := 1075) d_Law_law_33 (by decide) rfl (by decide) ?_
      exact lw_c27 hL hi (lP_imp (pr_put I _ _ _) n0)
    · refine lw_ts (pc' := 1151) (off := 1118) d_Law_law_33 (by decide) rfl (by decide) ?_
      exact lw_c28 hL hi (lP_imp (pr_move I _ _ _ _ _) n0)
    · refine lw_ts (pc' := 1214) (off := 1181) d_Law_law_33 (by decide) rfl (by decide) ?_
      exact lw_c29 hL hi (lP_imp (pr_acres I _) n0)
    · refine lw_ts (pc' := 1237) (off := 1204) d_Law_law_33 (by decide) rfl (by decide) ?_
      exact lw_c30 hL hi (lP_imp (pr_judge I _) n0)
    · refine lw_ts (pc' := 1260) (off := 1227) d_Law_law_33 (by decide) rfl (by decide) ?_
      exact lw_c31 hL hi (lP_imp (pr_image I) n1)
    · refine lw_ts (pc' := 1273) (off := 1240) d_Law_law_33 (by decide) rfl (by decide) ?_
      exact lw_c32 hL hi (lP_imp (pr_restore (by omega) I) n0)
    · refine lw_ts (pc' := 1286) (off := 1253) d_Law_law_33 (by decide) rfl (by decide) ?_
      exact lw_c33 hL hi (lP_imp (pr_tell I _) n0)
    · refine lw_ts (pc' := 1309) (off := 1276) d_Law_law_33 (by decide) rfl (by decide) ?_
      exact lw_c34 hL hi (lP_imp (pr_check I) n0)
    · refine lw_ts (pc' := 1322) (off := 1289) d_Law_law_33 (by decide) rfl (by decide) ?_
      exact lw_c35 hL hi (lP_imp (pr_count I _) n0)
    · refine lw_ts (pc' := 1345) (off := 1312) d_Law_law_33 (by decide) rfl (by decide) ?_
      exact lw_c36 hL hi (lP_imp (pr_told I _) n0)
  · refine lw_td (pc' := 1368) d_Law_law_33 (Or.inr ?_) (by decide) (lw_nx (n0 S ⟨q, I⟩))
    rcases (show c = 37 ∨ c = 38 ∨ c = 39 ∨ c = 40 ∨ c = 41 ∨ c = 42 ∨ c = 43 ∨ c = 44 ∨ c = 45 ∨ c = 46 ∨ c = 47 ∨ c = 48 ∨ c = 49 ∨ c = 50 ∨ c = 51 ∨ c = 52 ∨ c = 53 ∨ c = 54 ∨ c = 55 ∨ c = 56 ∨ c = 57 ∨ c = 58 ∨ c = 59 ∨ c = 60 ∨ c = 61 ∨ c = 62 ∨ c = 63 by omega) with rfl | rfl | rfl | rfl | rfl | rfl | rfl | rfl | rfl | rfl | rfl | rfl | rfl | rfl | rfl | rfl | rfl | rfl | rfl | rfl | rfl | rfl | rfl | rfl | rfl | rfl | rfl <;> decide
theorem lw_loop (hL : L ≤ 3072) : ∀ m i k (S : wp_S) (q : sp_R), L < i + 6 * m + 6 → i = 6 * k → k ≤ 9999 → i ≤ L + 6 → Iv k S q → lw (some (L, xs)) 200 y_Law_law 18 (lL i) [] S := by
  intro m
  induction m with
  | zero =>
    intro i k S q hm hik hk h6 I
    refine lw_iload_n d_Law_law_18 rfl rfl ?_
    refine lw_aload_n d_Law_law_19 rfl rfl ?_
    refine lw_alX d_Law_law_20 ?_
    refine lw_bipush (x := nI 6) d_Law_law_21 (by decide) ?_
    refine lw_isub d_Law_law_23 rfl ?_
    refine lw_ic_gt (pc' := 1374) d_Law_law_24 (by decide) (fun _ => ?_) (fun z => absurd ((lw_end hL (by omega)).mpr (by omega)) z)
    refine lw_iconst (x := 1) d_Law_law_1374 rfl ?_
    exact lw_one d_Law_law_1375 rt_Law
  | succ m ih =>
    intro i k S q hm hik hk h6 I
    refine lw_iload_n d_Law_law_18 rfl rfl ?_
    refine lw_aload_n d_Law_law_19 rfl rfl ?_
    refine lw_alX d_Law_law_20 ?_
    refine lw_bipush (x := nI 6) d_Law_law_21 (by decide) ?_
    refine lw_isub d_Law_law_23 rfl ?_
    refine lw_ic_gt (pc' := 1374) d_Law_law_24 (by decide) (fun _ => ?_) (fun z => ?_)
    · refine lw_iconst (x := 1) d_Law_law_1374 rfl ?_
      exact lw_one d_Law_law_1375 rt_Law
    · have hi : i + 6 ≤ L := by
        rcases Nat.lt_or_ge L (i + 6) with y | y
        · exact absurd ((lw_end hL (by omega)).mpr y) z
        · exact y
      refine lw_aload_n d_Law_law_27 rfl rfl ?_
      refine lw_iload_n d_Law_law_28 rfl rfl ?_
      refine lw_iaX d_Law_law_29 (by omega) (by omega) ?_
      refine lw_bipush (x := nI 63) d_Law_law_30 (by decide) ?_
      obtain ⟨c, hc, e⟩ := and63 (xs i)
      refine lw_iand d_Law_law_32 e ?_
      exact lw_case hL hk hi I (fun S2 h => by
        obtain ⟨q1, h⟩ := h
        exact ih (i + 6) (k + 1) S2 q1 (by omega) (by omega) (by omega) (by omega) h) hc
end LL
