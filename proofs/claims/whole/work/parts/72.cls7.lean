/-! the class: feed, loose, set -/
theorem by8_0 (x : BitVec 64) {s : Nat} (hs : s ≤ 56) : ((x >>> s).setWidth 32) &&& 255#32 = ((x.sshiftRight s) &&& 255#64).setWidth 32 := by
  apply BitVec.eq_of_getLsbD_eq
  intro i hi
  rw [BitVec.getLsbD_and, BitVec.getLsbD_setWidth, BitVec.getLsbD_setWidth, BitVec.getLsbD_and, BitVec.getLsbD_ushiftRight, BitVec.getLsbD_sshiftRight]
  by_cases h8 : i < 8
  · rw [if_pos (show s + i < 64 by omega)]
    rcases (show i = 0 ∨ i = 1 ∨ i = 2 ∨ i = 3 ∨ i = 4 ∨ i = 5 ∨ i = 6 ∨ i = 7 by omega) with rfl | rfl | rfl | rfl | rfl | rfl | rfl | rfl <;> simp
  · have e1 : (255#32).getLsbD i = false := by
      rw [BitVec.getLsbD_ofNat]
      have : Nat.testBit 255 i = false := Nat.testBit_lt_two_pow (Nat.lt_of_lt_of_le (show 255 < 2 ^ 8 by decide) (Nat.pow_le_pow_right (by decide) (by omega)))
      rw [this, Bool.and_false]
    have e2 : (255#64).getLsbD i = false := by
      rw [BitVec.getLsbD_ofNat]
      have : Nat.testBit 255 i = false := Nat.testBit_lt_two_pow (Nat.lt_of_lt_of_le (show 255 < 2 ^ 8 by decide) (Nat.pow_le_pow_right (by decide) (by omega)))
      rw [this, Bool.and_false]
    rw [e1, e2, Bool.and_false, Bool.and_false, Bool.and_false]
theorem by8_1 (x : BitVec 64) : x.signExtend 32 = x.setWidth 32 := BitVec.signExtend_eq_setWidth_of_le x (by decide)
theorem by8_e (w : Int64) {k : Nat} (hk : k < 8) : ((w.toUInt64 >>> ((nI (8 * k)).toInt64.toUInt64 &&& Int64.toUInt64 63)).toInt64).toInt32 &&& nI 255 = sp_by8 w k := by
  have h := by8_0 w.toBitVec (s := 8 * k) (by omega)
  rw [← by8_1, ← by8_1] at h
  unfold sp_by8
  apply Int32.toBitVec_inj.mp
  rcases (show k = 0 ∨ k = 1 ∨ k = 2 ∨ k = 3 ∨ k = 4 ∨ k = 5 ∨ k = 6 ∨ k = 7 by omega) with rfl | rfl | rfl | rfl | rfl | rfl | rfl | rfl
  · rw [show (nI (8 * 0)).toInt64.toUInt64 &&& Int64.toUInt64 63 = 0 from by decide, show (nI (8 * 0)).toInt64 &&& 63 = 0 from by decide]
    exact h
  · rw [show (nI (8 * 1)).toInt64.toUInt64 &&& Int64.toUInt64 63 = 8 from by decide, show (nI (8 * 1)).toInt64 &&& 63 = 8 from by decide]
    exact h
  · rw [show (nI (8 * 2)).toInt64.toUInt64 &&& Int64.toUInt64 63 = 16 from by decide, show (nI (8 * 2)).toInt64 &&& 63 = 16 from by decide]
    exact h
  · rw [show (nI (8 * 3)).toInt64.toUInt64 &&& Int64.toUInt64 63 = 24 from by decide, show (nI (8 * 3)).toInt64 &&& 63 = 24 from by decide]
    exact h
  · rw [show (nI (8 * 4)).toInt64.toUInt64 &&& Int64.toUInt64 63 = 32 from by decide, show (nI (8 * 4)).toInt64 &&& 63 = 32 from by decide]
    exact h
  · rw [show (nI (8 * 5)).toInt64.toUInt64 &&& Int64.toUInt64 63 = 40 from by decide, show (nI (8 * 5)).toInt64 &&& 63 = 40 from by decide]
    exact h
  · rw [show (nI (8 * 6)).toInt64.toUInt64 &&& Int64.toUInt64 63 = 48 from by decide, show (nI (8 * 6)).toInt64 &&& 63 = 48 from by decide]
    exact h
  · rw [show (nI (8 * 7)).toInt64.toUInt64 &&& Int64.toUInt64 63 = 56 from by decide, show (nI (8 * 7)).toInt64 &&& 63 = 56 from by decide]
    exact h
section CH
variable {S : wp_S} {q : sp_R} {mu : Int32} {Q : Option Value → wp_S → Prop}
theorem c_set (C : CL S q) (hw : sp_wf q) (v w x : Int32) (K : cQ S (op_set q v w x) Q) : cl h_Fo_set y_Fo_set [.ref 0, .int v, .int w, .int x] S Q := by
  have hn := hw.n
  unfold op_set at K
  by_cases h : sp_isF q v ∧ ((w = 0 ∧ nI 1 ≤ x ∧ x ≤ nI 99) ∨ (w = 1 ∧ sp_isW x 9))
  · rw [sp_if_t h] at K
    obtain ⟨hF, h⟩ := h
    have hF' := hF
    obtain ⟨i, hi, rfl⟩ := sp_isF_of hw hF
    rcases h with ⟨ew, hx⟩ | ⟨ew, hx⟩
    · obtain rfl : w = nI 0 := ew
      rw [nI_clamp (by omega), show (nI 0).toNatClampNeg = 0 from rfl] at K
      have C2 := C.wf (i := i) (by omega) (w := 2) (by decide) x
      refine cl_in ml_Fo_set rfl rfl ?_
      refine wp_iload_n d_Fo_set_0 rfl rfl ?_
      refine wp_ifN_ne (pc' := 14) d_Fo_set_1 (by decide) (by omega) (fun q => absurd q (by decide)) (fun _ => ?_)
      refine wp_iload_n d_Fo_set_4 rfl rfl ?_
      refine wp_iconst (x := nI 1) d_Fo_set_5 rfl ?_
      refine wp_bipush (x := nI 99) d_Fo_set_6 (by decide) ?_
      refine wp_invS d_Fo_set_8 ow_Fo_set lk_7_66 (by decide) mi_Fo_isWithin rfl rfl (Nat.le_of_ble_eq_true rfl) rfl (show h_Fo_isWithin ≤ _ from by decide) (c_isWithin _ _ _ ?_)
      refine wp_Ki ?_
      refine wp_goto (pc' := 34) d_Fo_set_11 (by decide) ?_
      refine wp_isto4 d_Fo_set_34 rfl ?_
      refine wp_aload_n d_Fo_set_36 rfl rfl ?_
      refine wp_getR d_Fo_set_37 ow_Fo_set fl_7_10 (O_0 _) rfl ?_
      refine wp_iload_n d_Fo_set_40 rfl rfl ?_
      refine wp_invV d_Fo_set_41 ow_Fo_set lk_7_90 (by decide) mi_La_has rfl rfl (Nat.le_of_ble_eq_true rfl) rfl (wp_isC (O_1 _)) (show h_La_has ≤ _ from by decide) (c_has C _ ?_)
      refine wp_Ki ?_
      refine wp_ifB_eq (pc' := 52) d_Fo_set_44 (by decide) (fun h44 => absurd hF' h44) (fun h44 => ?_)
      refine wp_iload d_Fo_set_47 rfl ?_
      refine wp_ifB_ne (pc' := 58) d_Fo_set_49 (by decide) (fun h49 => ?_) (fun h49 => absurd hx h49)
      refine wp_aload_n d_Fo_set_58 rfl rfl ?_
      refine wp_getR d_Fo_set_59 ow_Fo_set fl_7_10 (O_0 _) rfl ?_
      refine wp_getR d_Fo_set_62 ow_Fo_set fl_7_77 (O_1 _) rfl ?_
      refine wp_iload_n d_Fo_set_65 rfl rfl ?_
      refine wp_aaload d_Fo_set_66 rfl (f_F (by omega)) (by decide) ?_
      refine wp_asto5 d_Fo_set_67 rfl ?_
      refine wp_iload_n d_Fo_set_69 rfl rfl ?_
      refine wp_ifN_ne (pc' := 81) d_Fo_set_70 (by decide) (by omega) (fun q => absurd q (by decide)) (fun _ => ?_)
      refine wp_aload d_Fo_set_73 rfl ?_
      refine wp_getI d_Fo_set_75 ow_Fo_set fl_7_99 (O_F _ (by omega)) rfl (C.f (by omega) (w := 2) (by decide)) ?_
      refine wp_goto (pc' := 86) d_Fo_set_78 (by decide) ?_
      refine wp_isto6 d_Fo_set_86 rfl ?_
      refine wp_iload_n d_Fo_set_88 rfl rfl ?_
      refine wp_ifN_ne (pc' := 101) d_Fo_set_89 (by decide) (by omega) (fun q => absurd q (by decide)) (fun _ => ?_)
      refine wp_aload d_Fo_set_92 rfl ?_
      refine wp_iload_n d_Fo_set_94 rfl rfl ?_
      refine wp_put (ty := .int) d_Fo_set_95 ow_Fo_set fl_7_99 (by decide +kernel) (by decide +kernel) (O_F _ (by omega)) rfl ⟨rfl, rfl⟩ ?_
      refine wp_goto (pc' := 107) d_Fo_set_98 (by decide) ?_
      refine wp_iload d_Fo_set_107 rfl ?_
      refine wp_reti d_Fo_set_109 rt_Fo_set ?_
      exact cQ_ok K C2 (fr_YL (fr.rf.up (by unfold cLd; omega)))
    · obtain rfl : w = nI 1 := ew
      rw [nI_clamp (by omega), show (nI 1).toNatClampNeg = 1 from rfl] at K
      have C2 := C.wf (i := i) (by omega) (w := 3) (by decide) x
      refine cl_in ml_Fo_set rfl rfl ?_
      refine wp_iload_n d_Fo_set_0 rfl rfl ?_
      refine wp_ifN_ne (pc' := 14) d_Fo_set_1 (by decide) (by omega) (fun _ => ?_) (fun q => absurd q (by decide))
      refine wp_iload_n d_Fo_set_14 rfl rfl ?_
      refine wp_iconst (x := nI 1) d_Fo_set_15 rfl ?_
      refine wp_icN_ne (pc' := 33) d_Fo_set_16 (by decide) (by omega) (by omega) (fun q => absurd q (by decide)) (fun _ => ?_)
      refine wp_iload_n d_Fo_set_19 rfl rfl ?_
      refine wp_iconst (x := nI 0) d_Fo_set_20 rfl ?_
      refine wp_bipush (x := nI 9) d_Fo_set_21 (by decide) ?_
      refine wp_invS d_Fo_set_23 ow_Fo_set lk_7_66 (by decide) mi_Fo_isWithin rfl rfl (Nat.le_of_ble_eq_true rfl) rfl (show h_Fo_isWithin ≤ _ from by decide) (c_isWithin _ _ _ ?_)
      refine wp_Ki ?_
      refine wp_ifB_eq (pc' := 33) d_Fo_set_26 (by decide) (fun h26 => absurd hx h26) (fun h26 => ?_)
      refine wp_iconst (x := nI 1) d_Fo_set_29 rfl ?_
      refine wp_goto (pc' := 34) d_Fo_set_30 (by decide) ?_
      refine wp_isto4 d_Fo_set_34 rfl ?_
      refine wp_aload_n d_Fo_set_36 rfl rfl ?_
      refine wp_getR d_Fo_set_37 ow_Fo_set fl_7_10 (O_0 _) rfl ?_
      refine wp_iload_n d_Fo_set_40 rfl rfl ?_
      refine wp_invV d_Fo_set_41 ow_Fo_set lk_7_90 (by decide) mi_La_has rfl rfl (Nat.le_of_ble_eq_true rfl) rfl (wp_isC (O_1 _)) (show h_La_has ≤ _ from by decide) (c_has C _ ?_)
      refine wp_Ki ?_
      refine wp_ifB_eq (pc' := 52) d_Fo_set_44 (by decide) (fun h44 => absurd hF' h44) (fun h44 => ?_)
      refine wp_iload d_Fo_set_47 rfl ?_
      refine wp_ifN_ne (pc' := 58) d_Fo_set_49 (by decide) (by omega) (fun _ => ?_) (fun q => absurd q (by decide))
      refine wp_aload_n d_Fo_set_58 rfl rfl ?_
      refine wp_getR d_Fo_set_59 ow_Fo_set fl_7_10 (O_0 _) rfl ?_
      refine wp_getR d_Fo_set_62 ow_Fo_set fl_7_77 (O_1 _) rfl ?_
      refine wp_iload_n d_Fo_set_65 rfl rfl ?_
      refine wp_aaload d_Fo_set_66 rfl (f_F (by omega)) (by decide) ?_
      refine wp_asto5 d_Fo_set_67 rfl ?_
      refine wp_iload_n d_Fo_set_69 rfl rfl ?_
      refine wp_ifN_ne (pc' := 81) d_Fo_set_70 (by decide) (by omega) (fun _ => ?_) (fun q => absurd q (by decide))
      refine wp_aload d_Fo_set_81 rfl ?_
      refine wp_getI d_Fo_set_83 ow_Fo_set fl_7_102 (O_F _ (by omega)) rfl (C.f (by omega) (w := 3) (by decide)) ?_
      refine wp_isto6 d_Fo_set_86 rfl ?_
      refine wp_iload_n d_Fo_set_88 rfl rfl ?_
      refine wp_ifN_ne (pc' := 101) d_Fo_set_89 (by decide) (by omega) (fun _ => ?_) (fun q => absurd q (by decide))
      refine wp_aload d_Fo_set_101 rfl ?_
      refine wp_iload_n d_Fo_set_103 rfl rfl ?_
      refine wp_put (ty := .int) d_Fo_set_104 ow_Fo_set fl_7_102 (by decide +kernel) (by decide +kernel) (O_F _ (by omega)) rfl ⟨rfl, rfl⟩ ?_
      refine wp_iload d_Fo_set_107 rfl ?_
      refine wp_reti d_Fo_set_109 rt_Fo_set ?_
      exact cQ_ok K C2 (fr_YL (fr.rf.up (by unfold cLd; omega)))
  · rw [sp_if_f h] at K
    refine cl_in ml_Fo_set rfl rfl ?_
    refine wp_iload_n d_Fo_set_0 rfl rfl ?_
    refine wp_if_ne (pc' := 14) d_Fo_set_1 (by decide) (fun h1 => ?_) (fun h1 => ?_)
    · refine wp_iload_n d_Fo_set_14 rfl rfl ?_
      refine wp_iconst (x := nI 1) d_Fo_set_15 rfl ?_
      refine wp_ic_ne (pc' := 33) d_Fo_set_16 (by decide) (fun h16 => ?_) (fun h16 => ?_)
      · refine wp_iconst (x := nI 0) d_Fo_set_33 rfl ?_
        refine wp_isto4 d_Fo_set_34 rfl ?_
        refine wp_aload_n d_Fo_set_36 rfl rfl ?_
        refine wp_getR d_Fo_set_37 ow_Fo_set fl_7_10 (O_0 _) rfl ?_
        refine wp_iload_n d_Fo_set_40 rfl rfl ?_
        refine wp_invV d_Fo_set_41 ow_Fo_set lk_7_90 (by decide) mi_La_has rfl rfl (Nat.le_of_ble_eq_true rfl) rfl (wp_isC (O_1 _)) (show h_La_has ≤ _ from by decide) (c_has C _ ?_)
        refine wp_Ki ?_
        refine wp_ifB_eq (pc' := 52) d_Fo_set_44 (by decide) (fun h44 => ?_) (fun h44 => ?_)
        · refine wp_aload_n d_Fo_set_52 rfl rfl ?_
          refine wp_iconst (x := nI 1) d_Fo_set_53 rfl ?_
          refine wp_invV d_Fo_set_54 ow_Fo_set lk_7_70 (by decide) mi_Fo_error rfl rfl (Nat.le_of_ble_eq_true rfl) rfl (wp_isC (O_0 _)) (show h_Fo_error ≤ _ from by decide) (c_error 1 (by decide) (by decide) ?_)
          refine wp_Ki ?_
          refine wp_reti d_Fo_set_57 rt_Fo_set ?_
          exact cQ_er (e := 1) K (by decide) C fr.rf
        · refine wp_iload d_Fo_set_47 rfl ?_
          refine wp_ifN_ne (pc' := 58) d_Fo_set_49 (by decide) (by omega) (fun q => absurd q (by decide)) (fun _ => ?_)
          refine wp_aload_n d_Fo_set_52 rfl rfl ?_
          refine wp_iconst (x := nI 1) d_Fo_set_53 rfl ?_
          refine wp_invV d_Fo_set_54 ow_Fo_set lk_7_70 (by decide) mi_Fo_error rfl rfl (Nat.le_of_ble_eq_true rfl) rfl (wp_isC (O_0 _)) (show h_Fo_error ≤ _ from by decide) (c_error 1 (by decide) (by decide) ?_)
          refine wp_Ki ?_
          refine wp_reti d_Fo_set_57 rt_Fo_set ?_
          exact cQ_er (e := 1) K (by decide) C fr.rf
      · refine wp_iload_n d_Fo_set_19 rfl rfl ?_
        refine wp_iconst (x := nI 0) d_Fo_set_20 rfl ?_
        refine wp_bipush (x := nI 9) d_Fo_set_21 (by decide) ?_
        refine wp_invS d_Fo_set_23 ow_Fo_set lk_7_66 (by decide) mi_Fo_isWithin rfl rfl (Nat.le_of_ble_eq_true rfl) rfl (show h_Fo_isWithin ≤ _ from by decide) (c_isWithin _ _ _ ?_)
        refine wp_Ki ?_
        refine wp_ifB_eq (pc' := 33) d_Fo_set_26 (by decide) (fun h26 => ?_) (fun h26 => ?_)
        · refine wp_iconst (x := nI 0) d_Fo_set_33 rfl ?_
          refine wp_isto4 d_Fo_set_34 rfl ?_
          refine wp_aload_n d_Fo_set_36 rfl rfl ?_
          refine wp_getR d_Fo_set_37 ow_Fo_set fl_7_10 (O_0 _) rfl ?_
          refine wp_iload_n d_Fo_set_40 rfl rfl ?_
          refine wp_invV d_Fo_set_41 ow_Fo_set lk_7_90 (by decide) mi_La_has rfl rfl (Nat.le_of_ble_eq_true rfl) rfl (wp_isC (O_1 _)) (show h_La_has ≤ _ from by decide) (c_has C _ ?_)
          refine wp_Ki ?_
          refine wp_ifB_eq (pc' := 52) d_Fo_set_44 (by decide) (fun h44 => ?_) (fun h44 => ?_)
          · refine wp_aload_n d_Fo_set_52 rfl rfl ?_
            refine wp_iconst (x := nI 1) d_Fo_set_53 rfl ?_
            refine wp_invV d_Fo_set_54 ow_Fo_set lk_7_70 (by decide) mi_Fo_error rfl rfl (Nat.le_of_ble_eq_true rfl) rfl (wp_isC (O_0 _)) (show h_Fo_error ≤ _ from by decide) (c_error 1 (by decide) (by decide) ?_)
            refine wp_Ki ?_
            refine wp_reti d_Fo_set_57 rt_Fo_set ?_
            exact cQ_er (e := 1) K (by decide) C fr.rf
          · refine wp_iload d_Fo_set_47 rfl ?_
            refine wp_ifN_ne (pc' := 58) d_Fo_set_49 (by decide) (by omega) (fun q => absurd q (by decide)) (fun _ => ?_)
            refine wp_aload_n d_Fo_set_52 rfl rfl ?_
            refine wp_iconst (x := nI 1) d_Fo_set_53 rfl ?_
            refine wp_invV d_Fo_set_54 ow_Fo_set lk_7_70 (by decide) mi_Fo_error rfl rfl (Nat.le_of_ble_eq_true rfl) rfl (wp_isC (O_0 _)) (show h_Fo_error ≤ _ from by decide) (c_error 1 (by decide) (by decide) ?_)
            refine wp_Ki ?_
            refine wp_reti d_Fo_set_57 rt_Fo_set ?_
            exact cQ_er (e := 1) K (by decide) C fr.rf
        · refine wp_iconst (x := nI 1) d_Fo_set_29 rfl ?_
          refine wp_goto (pc' := 34) d_Fo_set_30 (by decide) ?_
          refine wp_isto4 d_Fo_set_34 rfl ?_
          refine wp_aload_n d_Fo_set_36 rfl rfl ?_
          refine wp_getR d_Fo_set_37 ow_Fo_set fl_7_10 (O_0 _) rfl ?_
          refine wp_iload_n d_Fo_set_40 rfl rfl ?_
          refine wp_invV d_Fo_set_41 ow_Fo_set lk_7_90 (by decide) mi_La_has rfl rfl (Nat.le_of_ble_eq_true rfl) rfl (wp_isC (O_1 _)) (show h_La_has ≤ _ from by decide) (c_has C _ ?_)
          refine wp_Ki ?_
          refine wp_ifB_eq (pc' := 52) d_Fo_set_44 (by decide) (fun h44 => ?_) (fun h44 => ?_)
          · refine wp_aload_n d_Fo_set_52 rfl rfl ?_
            refine wp_iconst (x := nI 1) d_Fo_set_53 rfl ?_
            refine wp_invV d_Fo_set_54 ow_Fo_set lk_7_70 (by decide) mi_Fo_error rfl rfl (Nat.le_of_ble_eq_true rfl) rfl (wp_isC (O_0 _)) (show h_Fo_error ≤ _ from by decide) (c_error 1 (by decide) (by decide) ?_)
            refine wp_Ki ?_
            refine wp_reti d_Fo_set_57 rt_Fo_set ?_
            exact cQ_er (e := 1) K (by decide) C fr.rf
          · refine wp_iload d_Fo_set_47 rfl ?_
            refine wp_ifN_ne (pc' := 58) d_Fo_set_49 (by decide) (by omega) (fun _ => ?_) (fun q => absurd q (by decide))
            refine h.elim ?_
            first
            | exact ⟨h44, Or.inl ⟨h1, h49⟩⟩
            | exact ⟨h44, Or.inr ⟨h16, h26⟩⟩
    · refine wp_iload_n d_Fo_set_4 rfl rfl ?_
      refine wp_iconst (x := nI 1) d_Fo_set_5 rfl ?_
      refine wp_bipush (x := nI 99) d_Fo_set_6 (by decide) ?_
      refine wp_invS d_Fo_set_8 ow_Fo_set lk_7_66 (by decide) mi_Fo_isWithin rfl rfl (Nat.le_of_ble_eq_true rfl) rfl (show h_Fo_isWithin ≤ _ from by decide) (c_isWithin _ _ _ ?_)
      refine wp_Ki ?_
      refine wp_goto (pc' := 34) d_Fo_set_11 (by decide) ?_
      refine wp_isto4 d_Fo_set_34 rfl ?_
      refine wp_aload_n d_Fo_set_36 rfl rfl ?_
      refine wp_getR d_Fo_set_37 ow_Fo_set fl_7_10 (O_0 _) rfl ?_
      refine wp_iload_n d_Fo_set_40 rfl rfl ?_
      refine wp_invV d_Fo_set_41 ow_Fo_set lk_7_90 (by decide) mi_La_has rfl rfl (Nat.le_of_ble_eq_true rfl) rfl (wp_isC (O_1 _)) (show h_La_has ≤ _ from by decide) (c_has C _ ?_)
      refine wp_Ki ?_
      refine wp_ifB_eq (pc' := 52) d_Fo_set_44 (by decide) (fun h44 => ?_) (fun h44 => ?_)
      · refine wp_aload_n d_Fo_set_52 rfl rfl ?_
        refine wp_iconst (x := nI 1) d_Fo_set_53 rfl ?_
        refine wp_invV d_Fo_set_54 ow_Fo_set lk_7_70 (by decide) mi_Fo_error rfl rfl (Nat.le_of_ble_eq_true rfl) rfl (wp_isC (O_0 _)) (show h_Fo_error ≤ _ from by decide) (c_error 1 (by decide) (by decide) ?_)
        refine wp_Ki ?_
        refine wp_reti d_Fo_set_57 rt_Fo_set ?_
        exact cQ_er (e := 1) K (by decide) C fr.rf
      · refine wp_iload d_Fo_set_47 rfl ?_
        refine wp_ifB_ne (pc' := 58) d_Fo_set_49 (by decide) (fun h49 => ?_) (fun h49 => ?_)
        · refine h.elim ?_
          first
          | exact ⟨h44, Or.inl ⟨h1, h49⟩⟩
          | exact ⟨h44, Or.inr ⟨h16, h26⟩⟩
        · refine wp_aload_n d_Fo_set_52 rfl rfl ?_
          refine wp_iconst (x := nI 1) d_Fo_set_53 rfl ?_
          refine wp_invV d_Fo_set_54 ow_Fo_set lk_7_70 (by decide) mi_Fo_error rfl rfl (Nat.le_of_ble_eq_true rfl) rfl (wp_isC (O_0 _)) (show h_Fo_error ≤ _ from by decide) (c_error 1 (by decide) (by decide) ?_)
          refine wp_Ki ?_
          refine wp_reti d_Fo_set_57 rt_Fo_set ?_
          exact cQ_er (e := 1) K (by decide) C fr.rf
theorem c_lo_loop (q : sp_R) (hw : sp_wf q) (h0 : 0 < sp_n q) (N : Nat) (hN : N ≤ 100) (K : ∀ S', CL S' (sp_lo q (-1) N).1 → fr cLd S S' → Q (some (.int (nI (sp_lo q (-1) N).2))) S') : ∀ m k (S' : wp_S) (l4 l5 : Option Value), k + m = N → CL S' (sp_lo q (-1) k).1 → fr cLd S S' → wp (h_Fo_loose - 1) y_Fo_loose 36 [some (.ref 0), some (.int (nI N)), some (.int (nI (sp_lo q (-1) k).2)), some (.int (nI k)), l4, l5] [] S' Q := by
  intro m
  induction m with
  | zero =>
    intro k S' l4 l5 hk C f
    obtain rfl : k = N := by omega
    refine wp_iload_n d_Fo_loose_36 rfl rfl ?_
    refine wp_iload_n d_Fo_loose_37 rfl rfl ?_
    refine wp_icN_ge (pc' := 103) d_Fo_loose_38 (by decide) (by omega) (by omega) (fun h38 => ?_) (fun h38 => absurd h38 (by omega))
    refine wp_iload_n d_Fo_loose_103 rfl rfl ?_
    refine wp_reti d_Fo_loose_104 rt_Fo_loose ?_
    exact K _ C f
  | succ m ih =>
    intro k S' l4 l5 hk C f
    obtain ⟨w1, w2, w3⟩ := sp_lo_wf hw (-1) h0 k
    have ih1 := ih (k + 1)
    rw [sp_lo_s, sp_ln_1, sp_ln_2] at ih1
    generalize sp_lo q (-1) k = pp at *
    obtain ⟨p, cn⟩ := pp
    dsimp only at *
    have a : sp_wf (sp_up (sp_up p 3 (sp_z (p 3))) 3 (sp_z (sp_z (p 3)))) := sp_wf_h (sp_wf_h w1 (by omega) (fun z => by omega) (fun z => by omega) (fun z => by omega) (fun z => by omega) (fun z => by omega)) (by omega) (fun z => by omega) (fun z => by omega) (fun z => by omega) (fun z => by omega) (fun z => by omega)
    have b : sp_n (sp_up (sp_up p 3 (sp_z (p 3))) 3 (sp_z (sp_z (p 3)))) = sp_n p := by
      unfold sp_n
      rw [sp_up_ne _ _ (by decide), sp_up_ne _ _ (by decide)]
    have hn := w1.n
    have hm := Nat.mod_lt (sp_dn (sp_z (sp_z (p 3)))) (show 0 < sp_n p by omega)
    have hm4 := Nat.mod_lt (sp_dn (sp_z (p 3))) (show 0 < 4 by omega)
    have hd1 := sp_dn_lt (sp_z (p 3))
    have hd2 := sp_dn_lt (sp_z (sp_z (p 3)))
    have e3 : sp_up p 3 (sp_z (p 3)) 3 = sp_z (p 3) := sp_up_eq _ _ _
    have e1 : sp_up (sp_up p 3 (sp_z (p 3))) 3 (sp_z (sp_z (p 3))) 1 = p 1 := by rw [sp_up_ne _ _ (by decide), sp_up_ne _ _ (by decide)]
    have C1 : CL (wp_u S' 1 11 (sp_z (p 3))) (sp_up p 3 (sp_z (p 3))) := C.w (j := 3) (by decide) (by decide) (by decide) _
    have C2 : CL (wp_u (wp_u S' 1 11 (sp_z (p 3))) 1 11 (sp_z (sp_z (p 3)))) (sp_up (sp_up p 3 (sp_z (p 3))) 3 (sp_z (sp_z (p 3)))) := C1.w (j := 3) (by decide) (by decide) (by decide) _
    have e0 : sp_up (sp_up p 3 (sp_z (p 3))) 3 (sp_z (sp_z (p 3))) 0 = nI (sp_n p) := ((sp_up_ne _ _ (by decide)).trans (sp_up_ne _ _ (by decide))).trans hn.2
    have f2 : fr cLd S (wp_u (wp_u S' 1 11 (sp_z (p 3))) 1 11 (sp_z (sp_z (p 3)))) := (f.up ⟨by decide, by decide⟩).up ⟨by decide, by decide⟩
    have key : ∀ r c', (sp_l1 p (-1)) = r → (if r.2 = true then cn + 1 else cn) = c' → ∀ S2 l4 l5, CL S2 r.1 → fr cLd S S2 → wp (h_Fo_loose - 1) y_Fo_loose 36 [some (.ref 0), some (.int (nI N)), some (.int (nI c')), some (.int (nI (k + 1))), l4, l5] [] S2 Q := by
      intro r c' hr hc S2 l4 l5 C2 f2
      subst hr
      subst hc
      exact ih1 S2 l4 l5 (by omega) C2 f2
    refine wp_iload_n d_Fo_loose_36 rfl rfl ?_
    refine wp_iload_n d_Fo_loose_37 rfl rfl ?_
    refine wp_icN_ge (pc' := 103) d_Fo_loose_38 (by decide) (by omega) (by omega) (fun h38 => absurd h38 (by omega)) (fun h38 => ?_)
    refine wp_aload_n d_Fo_loose_41 rfl rfl ?_
    refine wp_getR d_Fo_loose_42 ow_Fo_loose fl_7_10 (O_0 _) rfl ?_
    refine wp_invV d_Fo_loose_45 ow_Fo_loose lk_7_159 (by decide) mi_La_draw rfl rfl (Nat.le_of_ble_eq_true rfl) rfl (wp_isC (O_1 _)) (show h_La_draw ≤ _ from by decide) (c_draw C ?_)
    refine wp_Ki ?_
    refine wp_iconst (x := nI 4) d_Fo_loose_48 rfl ?_
    refine wp_iremN d_Fo_loose_49 (by omega) (by omega) (by omega) ?_
    refine wp_isto4 d_Fo_loose_50 rfl ?_
    refine wp_aload_n d_Fo_loose_52 rfl rfl ?_
    refine wp_getR d_Fo_loose_53 ow_Fo_loose fl_7_10 (O_0 _) rfl ?_
    refine wp_invV d_Fo_loose_56 ow_Fo_loose lk_7_159 (by decide) mi_La_draw rfl rfl (Nat.le_of_ble_eq_true rfl) rfl (wp_isC (O_1 _)) (show h_La_draw ≤ _ from by decide) (c_draw C1 ?_)
    refine wp_Ki ?_
    rw [e3]
    refine wp_aload_n d_Fo_loose_59 rfl rfl ?_
    refine wp_getR d_Fo_loose_60 ow_Fo_loose fl_7_10 (O_0 _) rfl ?_
    refine wp_getI d_Fo_loose_63 ow_Fo_loose fl_7_74 (O_1 _) rfl (C2.n.trans e0) ?_
    refine wp_iremN d_Fo_loose_66 (by omega) (by omega) (by omega) ?_
    refine wp_isto5 d_Fo_loose_67 rfl ?_
    refine wp_aload_n d_Fo_loose_69 rfl rfl ?_
    refine wp_getR d_Fo_loose_70 ow_Fo_loose fl_7_10 (O_0 _) rfl ?_
    refine wp_iload d_Fo_loose_73 rfl ?_
    refine wp_iload d_Fo_loose_75 rfl ?_
    refine wp_invV d_Fo_loose_77 ow_Fo_loose lk_7_153 (by decide) mi_La_refuses rfl rfl (Nat.le_of_ble_eq_true rfl) rfl (wp_isC (O_1 _)) (show h_La_refuses ≤ _ from by decide) (c_refuses C2 hm4 (by omega) ?_)
    refine wp_Ki ?_
    refine wp_ifB_ne (pc' := 97) d_Fo_loose_80 (by decide) (fun h80 => ?_) (fun h80 => ?_)
    · refine wp_iinc3 d_Fo_loose_97 rfl (nI_add _ 1) ?_
      refine wp_goto (pc' := 36) d_Fo_loose_100 (by decide) ?_
      first
      | exact key (sp_up (sp_up p 3 (sp_z (p 3))) 3 (sp_z (sp_z (p 3))), false) cn (by unfold sp_l1; rw [sp_if_f (fun z => h80 (by rw [e1]; exact z))]) rfl _ _ _ C2 f2
      | exact key (sp_tl (sp_up (sp_up p 3 (sp_z (p 3))) 3 (sp_z (sp_z (p 3)))) (-1) (sp_dn (sp_z (p 3)) % 4) (sp_dn (sp_z (sp_z (p 3))) % sp_n p), true) (cn + 1) (by unfold sp_l1; rw [sp_if_t (by have g := Classical.not_not.mp h80; rw [e1] at g; exact g)]) rfl _ _ _ zC4 (f2.tr zf4)
    · refine wp_aload_n d_Fo_loose_83 rfl rfl ?_
      refine wp_getR d_Fo_loose_84 ow_Fo_loose fl_7_10 (O_0 _) rfl ?_
      refine wp_iload d_Fo_loose_87 rfl ?_
      refine wp_iload d_Fo_loose_89 rfl ?_
      refine wp_invV d_Fo_loose_91 ow_Fo_loose lk_7_156 (by decide) mi_La_hearOut rfl rfl (Nat.le_of_ble_eq_true rfl) rfl (wp_isC (O_1 _)) (show h_La_hearOut ≤ _ from by decide) (c_hearOut C2 a (by rw [e1]; exact (Classical.not_not.mp h80).2) hm4 (by rw [b]; exact hm) (fun S4 zC4 zf4 => ?_))
      refine wp_Kv ?_
      refine wp_iinc2 d_Fo_loose_94 rfl (nI_add _ 1) ?_
      refine wp_iinc3 d_Fo_loose_97 rfl (nI_add _ 1) ?_
      refine wp_goto (pc' := 36) d_Fo_loose_100 (by decide) ?_
      first
      | exact key (sp_up (sp_up p 3 (sp_z (p 3))) 3 (sp_z (sp_z (p 3))), false) cn (by unfold sp_l1; rw [sp_if_f (fun z => h80 (by rw [e1]; exact z))]) rfl _ _ _ C2 f2
      | exact key (sp_tl (sp_up (sp_up p 3 (sp_z (p 3))) 3 (sp_z (sp_z (p 3)))) (-1) (sp_dn (sp_z (p 3)) % 4) (sp_dn (sp_z (sp_z (p 3))) % sp_n p), true) (cn + 1) (by unfold sp_l1; rw [sp_if_t (by have g := Classical.not_not.mp h80; rw [e1] at g; exact g)]) rfl _ _ _ zC4 (f2.tr zf4)
theorem c_loose (C : CL S q) (hw : sp_wf q) (v : Int32) (K : cQ S (op_loose q v) Q) : cl h_Fo_loose y_Fo_loose [.ref 0, .int v] S Q := by
  have hn := hw.n
  unfold op_loose at K
  by_cases h : nI 1 ≤ v ∧ v ≤ nI 100
  · rw [sp_if_t h] at K
    obtain ⟨N, hN, rfl⟩ := (i_in (v := v) (n := 100) (by decide)).mp ⟨Int32.le_trans (by decide) h.1, h.2⟩
    rw [nI_clamp (by omega)] at K
    by_cases h0 : sp_n q = 0
    · rw [sp_if_t h0] at K
      refine cl_in ml_Fo_loose rfl rfl ?_
      refine wp_iload_n d_Fo_loose_0 rfl rfl ?_
      refine wp_iconst (x := nI 1) d_Fo_loose_1 rfl ?_
      refine wp_bipush (x := nI 100) d_Fo_loose_2 (by decide) ?_
      refine wp_invS d_Fo_loose_4 ow_Fo_loose lk_7_66 (by decide) mi_Fo_isWithin rfl rfl (Nat.le_of_ble_eq_true rfl) rfl (show h_Fo_isWithin ≤ _ from by decide) (c_isWithin _ _ _ ?_)
      refine wp_Ki ?_
      refine wp_ifB_ne (pc' := 16) d_Fo_loose_7 (by decide) (fun h7 => ?_) (fun h7 => absurd h h7)
      refine wp_aload_n d_Fo_loose_16 rfl rfl ?_
      refine wp_getR d_Fo_loose_17 ow_Fo_loose fl_7_10 (O_0 _) rfl ?_
      refine wp_getI d_Fo_loose_20 ow_Fo_loose fl_7_74 (O_1 _) rfl (C.n.trans hn.2) ?_
      refine wp_ifN_ne (pc' := 32) d_Fo_loose_23 (by decide) (by omega) (fun h23 => absurd h0 h23) (fun h23 => ?_)
      refine wp_aload_n d_Fo_loose_26 rfl rfl ?_
      refine wp_iconst (x := nI 3) d_Fo_loose_27 rfl ?_
      refine wp_invV d_Fo_loose_28 ow_Fo_loose lk_7_70 (by decide) mi_Fo_error rfl rfl (Nat.le_of_ble_eq_true rfl) rfl (wp_isC (O_0 _)) (show h_Fo_error ≤ _ from by decide) (c_error 3 (by decide) (by decide) ?_)
      refine wp_Ki ?_
      refine wp_reti d_Fo_loose_31 rt_Fo_loose ?_
      exact cQ_er (e := 3) K (by decide) C fr.rf
    · rw [sp_if_f h0] at K
      refine cl_in ml_Fo_loose rfl rfl ?_
      refine wp_iload_n d_Fo_loose_0 rfl rfl ?_
      refine wp_iconst (x := nI 1) d_Fo_loose_1 rfl ?_
      refine wp_bipush (x := nI 100) d_Fo_loose_2 (by decide) ?_
      refine wp_invS d_Fo_loose_4 ow_Fo_loose lk_7_66 (by decide) mi_Fo_isWithin rfl rfl (Nat.le_of_ble_eq_true rfl) rfl (show h_Fo_isWithin ≤ _ from by decide) (c_isWithin _ _ _ ?_)
      refine wp_Ki ?_
      refine wp_ifB_ne (pc' := 16) d_Fo_loose_7 (by decide) (fun h7 => ?_) (fun h7 => absurd h h7)
      refine wp_aload_n d_Fo_loose_16 rfl rfl ?_
      refine wp_getR d_Fo_loose_17 ow_Fo_loose fl_7_10 (O_0 _) rfl ?_
      refine wp_getI d_Fo_loose_20 ow_Fo_loose fl_7_74 (O_1 _) rfl (C.n.trans hn.2) ?_
      refine wp_ifN_ne (pc' := 32) d_Fo_loose_23 (by decide) (by omega) (fun h23 => ?_) (fun h23 => absurd h23 h0)
      refine wp_iconst (x := nI 0) d_Fo_loose_32 rfl ?_
      refine wp_iston2 d_Fo_loose_33 rfl ?_
      refine wp_iconst (x := nI 0) d_Fo_loose_34 rfl ?_
      refine wp_iston3 d_Fo_loose_35 rfl ?_
      exact c_lo_loop q hw (by omega) N hN (fun S' C' f' => cQ_ok K C' (fr_YL f')) N 0 S none none (Nat.zero_add _) C fr.rf
  · rw [sp_if_f h] at K
    refine cl_in ml_Fo_loose rfl rfl ?_
    refine wp_iload_n d_Fo_loose_0 rfl rfl ?_
    refine wp_iconst (x := nI 1) d_Fo_loose_1 rfl ?_
    refine wp_bipush (x := nI 100) d_Fo_loose_2 (by decide) ?_
    refine wp_invS d_Fo_loose_4 ow_Fo_loose lk_7_66 (by decide) mi_Fo_isWithin rfl rfl (Nat.le_of_ble_eq_true rfl) rfl (show h_Fo_isWithin ≤ _ from by decide) (c_isWithin _ _ _ ?_)
    refine wp_Ki ?_
    refine wp_ifB_ne (pc' := 16) d_Fo_loose_7 (by decide) (fun h7 => absurd h7 h) (fun h7 => ?_)
    refine wp_aload_n d_Fo_loose_10 rfl rfl ?_
    refine wp_iconst (x := nI 1) d_Fo_loose_11 rfl ?_
    refine wp_invV d_Fo_loose_12 ow_Fo_loose lk_7_70 (by decide) mi_Fo_error rfl rfl (Nat.le_of_ble_eq_true rfl) rfl (wp_isC (O_0 _)) (show h_Fo_error ≤ _ from by decide) (c_error 1 (by decide) (by decide) ?_)
    refine wp_Ki ?_
    refine wp_reti d_Fo_loose_15 rt_Fo_loose ?_
    exact cQ_er (e := 1) K (by decide) C fr.rf
theorem c_fd_loop {t : Nat} (ht : q 4 = nI t) (w : Int64) (n : Nat) (hn8 : n ≤ 8) (hn : t + n ≤ 50) (K : ∀ S', CL S' (sp_fd w q t n) → fr cLd S S' → Q (some (.int (nI (t + n)))) S') : ∀ m k (S' : wp_S), k + m = n → CL S' (sp_fd w q t k) → fr cLd S S' → wp (h_Fo_feed - 1) y_Fo_feed 39 [some (.ref 0), some (.long w), none, some (.int (nI n)), some (.int (nI k))] [] S' Q := by
  intro m
  induction m with
  | zero =>
    intro k S' hk C f
    obtain rfl : k = n := by omega
    refine wp_iload d_Fo_feed_39 rfl ?_
    refine wp_iload_n d_Fo_feed_41 rfl rfl ?_
    refine wp_icN_ge (pc' := 91) d_Fo_feed_42 (by decide) (by omega) (by omega) (fun h42 => ?_) (fun h42 => absurd h42 (by omega))
    refine wp_aload_n d_Fo_feed_91 rfl rfl ?_
    refine wp_getR d_Fo_feed_92 ow_Fo_feed fl_7_10 (O_0 _) rfl ?_
    refine wp_getI d_Fo_feed_95 ow_Fo_feed fl_7_162 (O_1 _) rfl ((C.sc 4 (by decide) (by decide) (by decide)).trans (sp_fd_4 w ht k)) ?_
    refine wp_reti d_Fo_feed_98 rt_Fo_feed ?_
    exact K _ C f
  | succ m ih =>
    intro k S' hk C f
    have e4 := sp_fd_4 w ht k
    have e5 : sp_up (sp_fd w q t k) (113 + (t + k)) (sp_by8 w k) 4 = nI (t + k) := (sp_up_ne _ _ (by omega)).trans e4
    have C2 := C.w (j := 113 + (t + k)) (by omega) (by omega) (by omega) (sp_by8 w k)
    rw [cc_b (by omega)] at C2
    have C3 : CL (wp_u (wp_u S' 10 (t + k) (sp_by8 w k)) 1 12 (nI (t + k + 1))) (sp_up (sp_up (sp_fd w q t k) (113 + (t + k)) (sp_by8 w k)) 4 (nI (t + k + 1))) := C2.w (j := 4) (by decide) (by decide) (by decide) _
    rw [← sp_fd_s] at C3
    refine wp_iload d_Fo_feed_39 rfl ?_
    refine wp_iload_n d_Fo_feed_41 rfl rfl ?_
    refine wp_icN_ge (pc' := 91) d_Fo_feed_42 (by decide) (by omega) (by omega) (fun h42 => absurd h42 (by omega)) (fun h42 => ?_)
    refine wp_aload_n d_Fo_feed_45 rfl rfl ?_
    refine wp_getR d_Fo_feed_46 ow_Fo_feed fl_7_10 (O_0 _) rfl ?_
    refine wp_getR d_Fo_feed_49 ow_Fo_feed fl_7_21 (O_1 _) rfl ?_
    refine wp_aload_n d_Fo_feed_52 rfl rfl ?_
    refine wp_getR d_Fo_feed_53 ow_Fo_feed fl_7_10 (O_0 _) rfl ?_
    refine wp_getI d_Fo_feed_56 ow_Fo_feed fl_7_162 (O_1 _) rfl ((C.sc 4 (by decide) (by decide) (by decide)).trans e4) ?_
    refine wp_lload_n d_Fo_feed_59 rfl rfl ?_
    refine wp_bipush (x := nI 8) d_Fo_feed_60 (by decide) ?_
    refine wp_iload d_Fo_feed_62 rfl ?_
    refine wp_imul d_Fo_feed_64 (pk_mul _ _) ?_
    refine wp_lushr d_Fo_feed_65 (rfl) ?_
    refine wp_l2i d_Fo_feed_66 (rfl) ?_
    refine wp_sipush (x := nI 255) d_Fo_feed_67 (by decide) ?_
    refine wp_iand d_Fo_feed_70 (by8_e w (by omega)) ?_
    refine wp_iastore d_Fo_feed_71 (A_10 _) (by omega) (by decide) ?_
    refine wp_aload_n d_Fo_feed_72 rfl rfl ?_
    refine wp_getR d_Fo_feed_73 ow_Fo_feed fl_7_10 (O_0 _) rfl ?_
    refine wp_dup d_Fo_feed_76 rfl ?_
    refine wp_getI d_Fo_feed_77 ow_Fo_feed fl_7_162 (O_1 _) rfl ((C2.sc 4 (by decide) (by decide) (by decide)).trans e5) ?_
    refine wp_iconst (x := nI 1) d_Fo_feed_80 rfl ?_
    refine wp_iadd d_Fo_feed_81 (nI_add _ _) ?_
    refine wp_put (ty := .int) d_Fo_feed_82 ow_Fo_feed fl_7_162 (by decide +kernel) (by decide +kernel) (O_1 _) rfl ⟨rfl, rfl⟩ ?_
    refine wp_iinc4 d_Fo_feed_85 rfl (nI_add _ 1) ?_
    refine wp_goto (pc' := 39) d_Fo_feed_88 (by decide) ?_
    exact ih (k + 1) _ (by omega) C3 ((f.up ⟨by decide, by decide⟩).up ⟨by decide, by decide⟩)
theorem c_feed (C : CL S q) (hw : sp_wf q) (w : Int64) (v : Int32) (K : cQ S (op_feed q w v) Q) : cl h_Fo_feed y_Fo_feed [.ref 0, .long w, .int v] S Q := by
  obtain ⟨t, ht, e⟩ := hw.2.2.2.2.2.1
  unfold op_feed at K
  by_cases h : nI 1 ≤ v ∧ v ≤ nI 8
  · rw [sp_if_t h] at K
    obtain ⟨n, hn, rfl⟩ := (i_in (v := v) (n := 8) (by decide)).mp ⟨Int32.le_trans (by decide) h.1, h.2⟩
    rw [e, nI_clamp (by omega), nI_clamp (by omega)] at K
    by_cases h50 : 50 < t + n
    · rw [sp_if_t h50] at K
      refine cl_in ml_Fo_feed rfl rfl ?_
      refine wp_iload_n d_Fo_feed_0 rfl rfl ?_
      refine wp_iconst (x := nI 1) d_Fo_feed_1 rfl ?_
      refine wp_bipush (x := nI 8) d_Fo_feed_2 (by decide) ?_
      refine wp_invS d_Fo_feed_4 ow_Fo_feed lk_7_66 (by decide) mi_Fo_isWithin rfl rfl (Nat.le_of_ble_eq_true rfl) rfl (show h_Fo_isWithin ≤ _ from by decide) (c_isWithin _ _ _ ?_)
      refine wp_Ki ?_
      refine wp_ifB_ne (pc' := 16) d_Fo_feed_7 (by decide) (fun h7 => ?_) (fun h7 => absurd h h7)
      refine wp_aload_n d_Fo_feed_16 rfl rfl ?_
      refine wp_getR d_Fo_feed_17 ow_Fo_feed fl_7_10 (O_0 _) rfl ?_
      refine wp_getI d_Fo_feed_20 ow_Fo_feed fl_7_162 (O_1 _) rfl ((C.sc 4 (by decide) (by decide) (by decide)).trans e) ?_
      refine wp_bipush (x := nI 50) d_Fo_feed_23 (by decide) ?_
      refine wp_iload_n d_Fo_feed_25 rfl rfl ?_
      refine wp_isub d_Fo_feed_26 (pk_sub (show n ≤ 50 by omega)) ?_
      refine wp_icN_le (pc' := 36) d_Fo_feed_27 (by decide) (by omega) (by omega) (fun h27 => absurd h27 (by omega)) (fun h27 => ?_)
      refine wp_aload_n d_Fo_feed_30 rfl rfl ?_
      refine wp_iconst (x := nI 4) d_Fo_feed_31 rfl ?_
      refine wp_invV d_Fo_feed_32 ow_Fo_feed lk_7_70 (by decide) mi_Fo_error rfl rfl (Nat.le_of_ble_eq_true rfl) rfl (wp_isC (O_0 _)) (show h_Fo_error ≤ _ from by decide) (c_error 4 (by decide) (by decide) ?_)
      refine wp_Ki ?_
      refine wp_reti d_Fo_feed_35 rt_Fo_feed ?_
      exact cQ_er (e := 4) K (by decide) C fr.rf
    · rw [sp_if_f h50] at K
      refine cl_in ml_Fo_feed rfl rfl ?_
      refine wp_iload_n d_Fo_feed_0 rfl rfl ?_
      refine wp_iconst (x := nI 1) d_Fo_feed_1 rfl ?_
      refine wp_bipush (x := nI 8) d_Fo_feed_2 (by decide) ?_
      refine wp_invS d_Fo_feed_4 ow_Fo_feed lk_7_66 (by decide) mi_Fo_isWithin rfl rfl (Nat.le_of_ble_eq_true rfl) rfl (show h_Fo_isWithin ≤ _ from by decide) (c_isWithin _ _ _ ?_)
      refine wp_Ki ?_
      refine wp_ifB_ne (pc' := 16) d_Fo_feed_7 (by decide) (fun h7 => ?_) (fun h7 => absurd h h7)
      refine wp_aload_n d_Fo_feed_16 rfl rfl ?_
      refine wp_getR d_Fo_feed_17 ow_Fo_feed fl_7_10 (O_0 _) rfl ?_
      refine wp_getI d_Fo_feed_20 ow_Fo_feed fl_7_162 (O_1 _) rfl ((C.sc 4 (by decide) (by decide) (by decide)).trans e) ?_
      refine wp_bipush (x := nI 50) d_Fo_feed_23 (by decide) ?_
      refine wp_iload_n d_Fo_feed_25 rfl rfl ?_
      refine wp_isub d_Fo_feed_26 (pk_sub (show n ≤ 50 by omega)) ?_
      refine wp_icN_le (pc' := 36) d_Fo_feed_27 (by decide) (by omega) (by omega) (fun h27 => ?_) (fun h27 => absurd h27 (by omega))
      refine wp_iconst (x := nI 0) d_Fo_feed_36 rfl ?_
      refine wp_isto4 d_Fo_feed_37 rfl ?_
      exact c_fd_loop (S := S) e w n hn (by omega) (fun S' C' f' => cQ_ok K C' (fr_YL f')) n 0 S (Nat.zero_add _) C fr.rf
  · rw [sp_if_f h] at K
    refine cl_in ml_Fo_feed rfl rfl ?_
    refine wp_iload_n d_Fo_feed_0 rfl rfl ?_
    refine wp_iconst (x := nI 1) d_Fo_feed_1 rfl ?_
    refine wp_bipush (x := nI 8) d_Fo_feed_2 (by decide) ?_
    refine wp_invS d_Fo_feed_4 ow_Fo_feed lk_7_66 (by decide) mi_Fo_isWithin rfl rfl (Nat.le_of_ble_eq_true rfl) rfl (show h_Fo_isWithin ≤ _ from by decide) (c_isWithin _ _ _ ?_)
    refine wp_Ki ?_
    refine wp_ifB_ne (pc' := 16) d_Fo_feed_7 (by decide) (fun h7 => absurd h7 h) (fun h7 => ?_)
    refine wp_aload_n d_Fo_feed_10 rfl rfl ?_
    refine wp_iconst (x := nI 1) d_Fo_feed_11 rfl ?_
    refine wp_invV d_Fo_feed_12 ow_Fo_feed lk_7_70 (by decide) mi_Fo_error rfl rfl (Nat.le_of_ble_eq_true rfl) rfl (wp_isC (O_0 _)) (show h_Fo_error ≤ _ from by decide) (c_error 1 (by decide) (by decide) ?_)
    refine wp_Ki ?_
    refine wp_reti d_Fo_feed_15 rt_Fo_feed ?_
    exact cQ_er (e := 1) K (by decide) C fr.rf
end CH
