section SM
variable {dC : Nat → ClassId} {dI : Nat → Nat → Nat} {tA : Nat → ClassId} {B : Nat} {kd : Nat → Nat} {X : ab_X}
/-- EVERY METHOD: what the abstract machine does is a contract over the machine -/
theorem sd_cal (l : Launch) : ∀ (d y : Nat) (as : List Value) (h : ab_H) (r : Option Value) (h' : ab_H), ab_cal X d y as h r h' → sd_Met l dC dI tA B kd X d y as h r h'
  | 0, _, _, _, _, _, q => q.elim
  | d + 1, y, as, h, r, h', q0 => by
    intro e0 he0
    have hlen := ab_cal_len (d + 1) y as h r h' q0
    obtain ⟨hel, n, q⟩ := q0
    have hmem := List.mem_of_getElem? he0
    obtain ⟨w1, w2, w3, w4, w5, w6, w7, w8, w9, w10, w11⟩ := wd_MT hmem
    have hME := ab_ME_of he0
    have hown0 : ab_own y = e0.2.2.2.2.1 := by unfold ab_own; rw [hME]
    have hml0 : ab_ml y = e0.2.2.1 := by unfold ab_ml; rw [hME]
    have hrt0 : ab_ret y = e0.2.2.2.1 := by unfold ab_ret; rw [hME]
    refine ⟨hlen.1, hlen.2, ?_⟩
    refine Met.ofW (cc := e0.2.1) (maxL := e0.2.2.1) (ret := e0.2.2.2.1) w7 rfl ?_
    intro p e s m args below meth c s₁ Bd hml hv
    obtain ⟨rfl, hK, hW⟩ := hv
    have hts := atoms_spec (ws := sd_wsM e0) Bd.pre
    have hown : s.vm.findClass e0.1.cls = some m.cls := findClass_of_methodNamed Bd.named
    have A : sd_At p s m (as.map (sd_v B kd)).toArray meth c y e0.2.2.1 e0.2.1 e0.1.cls dC dI tA B kd X := by
      refine ⟨Bd.exec, Bd.bytes, hml, hown, by rw [hown0]; exact w8, fun w hw => hts w (List.mem_cons_of_mem _ hw), fun hi => ?_, fun pc r hr => ?_, hK⟩
      · rw [ab_ini_of he0] at hi
        rw [(name_of_methodNamed Bd.named Bd.method).1]
        exact of_decide_eq_true hi
      · unfold ab_ins at hr
        rw [hME] at hr
        dsimp only at hr
        cases hdc : decode e0.2.1 pc with
        | ok z => rw [hdc] at hr; cases hr; rfl
        | error z => rw [hdc] at hr; cases hr
    rw [lg_entry_eq]
    rw [hml0] at hel q
    have hl := sd_entry (B := B) (kd := kd) hel
    refine sd_run A (d := d) (Q := MQ below (sd_Qc dC dI tA B kd r h') (as.map (sd_v B kd)).toArray s (h'.1.length - h.1.length) (ab_sl h' - ab_sl h) (fun q => B ≤ q)) (c0 := h.1.length) (z0 := ab_sl h) (Nat.le_refl _) (show 60 * d + 60 ≤ 60 * (d + 1) by omega) (fun k as h r h' q => sd_cal l d k as h r h' q) (fun k as h r h' q => ab_cal_len d k as h r h' q) (r := r) (h' := h') ⟨?_, ?_⟩ ?_ n _ q _ s.heap [] 0 0 ⟨hW, va_S.rf, Nat.zero_add _, Nat.zero_add _⟩ hl
    · show h'.1.length ≤ h.1.length + (h'.1.length - h.1.length)
      omega
    · show ab_sl h' ≤ ab_sl h + (ab_sl h' - ab_sl h)
      omega
    · intro i nn pc ls st L H locs cells slots hd hx I
      have i3 : cells + h.1.length = h'.1.length := I.2.2.1
      have i4 : slots + ab_sl h = ab_sl h' := I.2.2.2
      obtain rfl : cells = h'.1.length - h.1.length := by omega
      obtain rfl : slots = ab_sl h' - ab_sl h := by omega
      refine sd_return A (Bd.returns.trans hrt0.symm) Bd.notSynchronized hd hx (fun t ht _ => ⟨rfl, by rw [ht]; exact I.1, fun q hq => ?_⟩) I.2.1.2.2
      rw [ht]
      exact I.2.1.2.1 q (by have := hW.1; omega) (by omega)
end SM
/-! the law's start: what is constant there -/
def wd_tm (i : Nat) : Term := match ab_LS[i]? with
  | some (o, k, _) => .string ((ab_cn[o]?).getD "") k
  | none => .string "" 0
def wd_fl : List Jvm.Cond := flatC (Jvm.Cond.and given_1 narrow_1)
theorem wd_flat {args : Array Value} {s : State} (h : (Jvm.Cond.and given_1 narrow_1).before args s = true) : ∀ c ∈ wd_fl, c.before args s = true := flat_of_before _ h
theorem wd_ka : Jvm.Cond.arrayOf (.static RX7 "KIND_ABOVE" "[I") .int ∈ wd_fl ∧ Jvm.Cond.eq (.length (.static RX7 "KIND_ABOVE" "[I")) (.int (Int32.ofNat 7)) ∈ wd_fl ∧ ∀ j, j < 7 → Jvm.Cond.eq (.elem (.static RX7 "KIND_ABOVE" "[I") (.int (Int32.ofNat j))) (.int (ab_KA.getD j 0)) ∈ wd_fl := by decide +kernel
theorem wd_bo : Jvm.Cond.arrayOf (.static RX6 "BODIES" "[I") .int ∈ wd_fl ∧ Jvm.Cond.eq (.length (.static RX6 "BODIES" "[I")) (.int (Int32.ofNat 28)) ∈ wd_fl ∧ ∀ j, j < 28 → Jvm.Cond.eq (.elem (.static RX6 "BODIES" "[I") (.int (Int32.ofNat j))) (.int (ab_BO.getD j 0)) ∈ wd_fl := by decide +kernel
theorem wd_cs : Jvm.Cond.eq (.static RJ0 "COMPACT_STRINGS" "Z") (.int 1) ∈ wd_fl := by decide +kernel
theorem wd_st : ∀ i, i < 11 → Jvm.Cond.exactly (wd_tm i) "java/lang/String" ∈ wd_fl ∧ Jvm.Cond.eq (.field (wd_tm i) "java/lang/String" "coder" "B") (.int 0) ∈ wd_fl ∧ Jvm.Cond.arrayOf (.field (wd_tm i) "java/lang/String" "value" "[B") .byte ∈ wd_fl ∧ Jvm.Cond.eq (.length (.field (wd_tm i) "java/lang/String" "value" "[B")) (.int (Int32.ofNat (sd_lens.getD i 0))) ∈ wd_fl := by decide +kernel
theorem wd_sb : ∀ i, i < 11 → ∀ j, j < sd_lens.getD i 0 → Jvm.Cond.eq (.elem (.field (wd_tm i) "java/lang/String" "value" "[B") (.int (Int32.ofNat j))) (.int ((ab_TB.getD i []).getD j 0)) ∈ wd_fl := by decide +kernel
theorem wd_sn : ∀ i, i < 11 → ∀ j, j < 11 → i ≠ j → Jvm.Cond.not (.eq (wd_tm i) (wd_tm j)) ∈ wd_fl ∨ Jvm.Cond.not (.eq (wd_tm j) (wd_tm i)) ∈ wd_fl := by decide +kernel
theorem wd_LSi : ∀ i, i < 11 → ∃ o k cn tx, ab_LS[i]? = some (o, k, i) ∧ ab_cn[o]? = some cn ∧ ab_TX[i]? = some tx ∧ wd_tm i = .string cn k ∧ Cond.stringRef cn k tx ∈ lw_tbl := by
  intro i hi
  have h0 : ∀ i, i < 11 → (match ab_LS[i]?, ab_TX[i]? with | some (o, k, j), some tx => (match ab_cn[o]? with | some cn => decide (j = i ∧ wd_tm i = .string cn k ∧ lw_tbl[(wd_LSp[i]?).getD 0]? = some (.stringRef cn k tx)) | none => false) | _, _ => false) = true := by decide +kernel
  have h1 := h0 i hi
  split at h1
  · rename_i o k j tx e1 e2
    split at h1
    · rename_i cn e3
      obtain ⟨rfl, g1, g2⟩ := of_decide_eq_true h1
      exact ⟨o, k, cn, tx, e1, e3, e2, g1, List.mem_of_getElem? g2⟩
    · cases h1
  · cases h1
theorem sd_start {b L : Nat} {xs : Nat → Int32} {s : State} (hts : ∀ w ∈ lw_tbl, w.before #[Value.ref b] s = true) (hX : va_X b L xs s s.heap) (hb : b < s.heap.size) (hL : L < 2 ^ 31) (hgv : (Jvm.Cond.and given_1 narrow_1).before #[Value.ref b] s = true) : ∃ dC dI tA kd, kd 13000 = b ∧ sd_K dC dI tA s.heap.size kd (some (L, xs)) s s.heap := by
  have hfl := wd_flat hgv
  have hA : ∀ a : Nat, a < s.heap.size → ¬ s.heap.size ≤ a := fun a h => Nat.not_le.mpr h
  obtain ⟨tK, eK, hK⟩ := va_Tof (A := fun q => s.heap.size ≤ q) (f := fun j => .int (ab_KA.getD j 0)) (N := 7) (by decide) (hfl _ wd_ka.1) (va_eqt (hfl _ wd_ka.2.1)) (fun j hj => va_eqt (hfl _ (wd_ka.2.2 j hj))) hA
  obtain ⟨tB, eB, hB⟩ := va_Tof (A := fun q => s.heap.size ≤ q) (f := fun j => .int (ab_BO.getD j 0)) (N := 28) (by decide) (hfl _ wd_bo.1) (va_eqt (hfl _ wd_bo.2.1)) (fun j hj => va_eqt (hfl _ (wd_bo.2.2 j hj))) hA
  have zK := va_Zof (A := fun q => s.heap.size ≤ q) (hts _ wd_lsK) (hts _ wd_inK) eK hA
  have zB := va_Zof (A := fun q => s.heap.size ≤ q) (hts _ wd_lsB) (hts _ wd_inB) eB hA
  have zC := va_Zof (A := fun q => s.heap.size ≤ q) (hts _ wd_lsC) (hts _ wd_inC) (va_eqt (hfl _ wd_cs)) hA
  obtain ⟨adK, adV, hS, hev⟩ := vk_Sof (A := fun q => s.heap.size ≤ q) (N := 11) (tm := wd_tm) (len := sd_lens) (byt := ab_TB) (args := #[Value.ref b]) (s := s) (by decide +kernel) (fun i hi => hfl _ (wd_st i hi).1) (fun i hi => hfl _ (wd_st i hi).2.1) (fun i hi => hfl _ (wd_st i hi).2.2.1) (fun i hi => hfl _ (wd_st i hi).2.2.2) (fun i hi j hj => hfl _ (wd_sb i hi j hj)) (fun i j hi hj hij => (wd_sn i hi j hj hij).imp (hfl _) (hfl _)) hA
  have hKn : ∀ k : Nat, ∃ q : ClassId × (Nat → Nat), ∀ r : vw_C, vwCl[k]? = some r → u_Kn s r.1 r.2.1 r.2.2 q.1 q.2 := by
    intro k
    cases hk : vwCl[k]? with
    | none => exact ⟨(0, fun _ => 0), fun r h => by cases h⟩
    | some r =>
      have hins : ∀ r ∈ vwCl, ∃ n, Cond.instantiable r.1 n ∈ lw_tbl := by
        intro r hr
        have : ∀ r ∈ vwCl, Cond.instantiable r.1 r.2.2 ∈ lw_tbl := by decide +kernel
        exact ⟨_, this r hr⟩
      obtain ⟨n, hn⟩ := hins r (List.mem_of_getElem? hk)
      obtain ⟨c, iS, h⟩ := u_known (C := r.1) (T := r.2.1) (N := r.2.2) hts (fun w hw => (wd_good w (wd_cls r (List.mem_of_getElem? hk) w hw)).1) (hts _ hn)
      exact ⟨(c, iS), fun r' h' => by cases h'; exact h⟩
  obtain ⟨dq, hdq⟩ := Classical.axiomOfChoice hKn
  obtain ⟨cI, hI1, hI2⟩ : ∃ cI : ClassId, ArrOfT s cI .int ∧ va_RA s cI .int := by
    obtain ⟨c, k, comp, h1, h2, h3⟩ := Cond.arrayClass_spec (hts _ (wd_good _ wd_arrI).1)
    exact ⟨c, fun N z => ⟨(fun k h => by cases h), k, h2, comp, h3⟩, h1⟩
  obtain ⟨cF, hF1, hF2⟩ : ∃ cF : ClassId, ArrOfT s cF (.object RX0) ∧ va_RA s cF (.object RX0) := by
    obtain ⟨comp, c, k, h1, -, h2, h3, h4⟩ := Cond.arrayOver_spec (hts _ wd_ovF)
    exact ⟨c, fun N z => ⟨(fun k h => by cases h), k, h2, comp, h3⟩, ⟨k, comp, h2, h3, h1, h4⟩⟩
  obtain ⟨cS, hS1, hS2⟩ : ∃ cS : ClassId, ArrOfT s cS (.object RX4) ∧ va_RA s cS (.object RX4) := by
    obtain ⟨comp, c, k, h1, -, h2, h3, h4⟩ := Cond.arrayOver_spec (hts _ wd_ovS)
    exact ⟨c, fun N z => ⟨(fun k h => by cases h), k, h2, comp, h3⟩, ⟨k, comp, h2, h3, h1, h4⟩⟩
  have hTs : va_T .int b L (fun j => .int (xs j)) (fun q => s.heap.size ≤ q) s s.heap := by
    obtain ⟨scr, g1, g2, g3, g4, g5⟩ := hX
    exact ⟨scr, g1, g2, g3, by rw [g4]; exact Nat.le_refl _, by rw [g4], g5, hA b hb⟩
  refine ⟨fun k => (dq k).1, fun k => (dq k).2, fun k => if k = 0 then cI else if k = 1 then cF else cS, fun k => if k = 12000 then tK else if k = 12001 then tB else if k = 13000 then b else if k < 11000 then adK (k - 10000) else adV (k - 11000), rfl, ⟨⟨fun k r hr => hdq k r hr, fun k q hq => ?_⟩, zK, zB, zC, hK, hB, fun a ha => ?_, ?_, fun a i x h hw => va_Nw.of rfl (hts _ hw), fun a i b n d h hw => va_Nw.of rfl (hts _ hw), va_AO.of (hts _ wd_ovF), va_AO.of (hts _ wd_ovS), ?_⟩⟩
  · match k, hq with
    | 0, hq => cases hq; exact ⟨hI1, hI2⟩
    | 1, hq => cases hq; exact ⟨hF1, hF2⟩
    | 2, hq => cases hq; exact ⟨hS1, hS2⟩
    | k + 3, hq => cases hq
  · cases ha
    exact hTs
  · have e1 : ∀ i, i < 11 → (if 10000 + i = 12000 then tK else if 10000 + i = 12001 then tB else if 10000 + i = 13000 then b else if 10000 + i < 11000 then adK (10000 + i - 10000) else adV (10000 + i - 11000)) = adK i := by
      intro i hi
      rw [if_neg (by omega), if_neg (by omega), if_neg (by omega), if_pos (by omega), Nat.add_sub_cancel_left]
    have e2 : ∀ i, i < 11 → (if 11000 + i = 12000 then tK else if 11000 + i = 12001 then tB else if 11000 + i = 13000 then b else if 11000 + i < 11000 then adK (11000 + i - 10000) else adV (11000 + i - 11000)) = adV i := by
      intro i hi
      rw [if_neg (by omega), if_neg (by omega), if_neg (by omega), if_neg (by omega), Nat.add_sub_cancel_left]
    refine ⟨fun i hi => ?_, fun i j hi hj h => ?_⟩
    · have h1 := hS.1 i hi
      dsimp only
      rw [e1 i hi, e2 i hi]
      exact h1
    · dsimp only at h
      rw [e1 i hi, e1 j hj] at h
      exact hS.2 i j hi hj h
  · intro o i k cn tx hm hcn htx
    obtain ⟨n, hn⟩ := List.getElem?_of_mem hm
    have hn11 : n < 11 := (List.getElem?_eq_some_iff.mp hn).1
    obtain ⟨o2, k2, cn2, tx2, g1, g2, g3, g4, g5⟩ := wd_LSi n hn11
    rw [hn] at g1
    cases g1
    rw [hcn] at g2
    cases g2
    rw [htx] at g3
    cases g3
    have h1 := hev k hn11
    rw [g4] at h1
    have e1 : (if 10000 + k = 12000 then tK else if 10000 + k = 12001 then tB else if 10000 + k = 13000 then b else if 10000 + k < 11000 then adK (10000 + k - 10000) else adV (10000 + k - 11000)) = adK k := by
      rw [if_neg (by omega), if_neg (by omega), if_neg (by omega), if_pos (by omega), Nat.add_sub_cancel_left]
    dsimp only
    rw [e1]
    exact vk_R.of (hts _ g5) h1
