/-! what holds between calls: the class and the reference tell the same -/
def Iv_s (S : wp_S) : Prop := cSh S (S.2 100) (S.2 101) (S.2 102) ∧ ∀ s, s < 4 → ∃ y, y ≤ 40 ∧ S.2 101 s = nI y
def Iv_e (S : wp_S) : Prop := ∀ j, j < 6 → S.2 90 j = S.2 96 j
def Iv_i (k : Nat) (S : wp_S) : Prop := (∀ i, i < 10 → S.2 (45 + 2 * i) 0 = nI i) ∧ ∃ c, c ≤ k ∧ S.2 0 7 = nI c ∧ S.2 91 5 = nI c ∧ (S.2 91 4 = 0 ↔ c = 0) ∧ (c ≠ 0 → CL (sft 32 S) (S.2 93) ∧ sp_wf (S.2 93))
def Iv_v (S : wp_S) : Prop := ∃ n, n ≤ 40 ∧ S.2 79 1 = nI n ∧ S.2 91 24 = nI n ∧ ∀ j, j < n → S.2 80 j = S.2 104 j
def Iv (k : Nat) (S : wp_S) (q : sp_R) : Prop := CL S q ∧ mC S q (-1) ∧ sp_wf q ∧ Iv_s S ∧ Iv_e S ∧ Iv_i k S ∧ Iv_v S
/-- cells that no call of common kind writes -/
def iK (k j : Nat) : Prop := k = 0 ∨ (33 ≤ k ∧ k ≤ 64) ∨ k = 79 ∨ k = 80 ∨ (82 ≤ k ∧ k ≤ 89) ∨ k = 93 ∨ (100 ≤ k ∧ k ≤ 102) ∨ k = 104 ∨ (k = 91 ∧ (j = 4 ∨ j = 5 ∨ j = 24))
section IV
variable {S S' : wp_S} {q : sp_R} {k : Nat}
theorem Iv_s_fr (I : Iv_s S) (f : ∀ k j, (82 ≤ k ∧ k ≤ 89) ∨ (100 ≤ k ∧ k ≤ 102) → S'.2 k j = S.2 k j) : Iv_s S' := by
  have e0 : S'.2 100 = S.2 100 := funext fun j => f 100 j (by omega)
  have e1 : S'.2 101 = S.2 101 := funext fun j => f 101 j (by omega)
  have e2 : S'.2 102 = S.2 102 := funext fun j => f 102 j (by omega)
  unfold Iv_s
  rw [e0, e1, e2]
  refine ⟨fun s hs => ?_, I.2⟩
  obtain ⟨h1, h2, h3⟩ := I.1 s hs
  exact ⟨(f _ _ (by omega)).trans h1, (f _ _ (by omega)).trans h2, fun j hj => (f _ _ (by omega)).trans (h3 j hj)⟩
theorem Iv_i_fr (I : Iv_i k S) {k' : Nat} (hk : k ≤ k') (f : ∀ a j, a = 0 ∨ (33 ≤ a ∧ a ≤ 64) ∨ a = 93 ∨ (a = 91 ∧ (j = 4 ∨ j = 5)) → S'.2 a j = S.2 a j) : Iv_i k' S' := by
  obtain ⟨h1, c, h2, h3, h4, h5, h6⟩ := I
  have e3 : S'.2 93 = S.2 93 := funext fun j => f 93 j (by omega)
  refine ⟨fun i hi => (f _ _ (by omega)).trans (h1 i hi), c, by omega, (f _ _ (by omega)).trans h3, (f _ _ (by omega)).trans h4, ?_, fun hc => ?_⟩
  · rw [f 91 4 (by omega)]
    exact h5
  · rw [e3]
    exact ⟨(h6 hc).1.fr (fun a j y => f (a + 32) j (by unfold cW at y; omega)), (h6 hc).2⟩
theorem Iv_v_fr (I : Iv_v S) (f : ∀ a j, a = 79 ∨ a = 80 ∨ a = 104 ∨ (a = 91 ∧ j = 24) → S'.2 a j = S.2 a j) : Iv_v S' := by
  obtain ⟨n, h1, h2, h3, h4⟩ := I
  exact ⟨n, h1, (f _ _ (by omega)).trans h2, (f _ _ (by omega)).trans h3, fun j hj => by rw [f 80 j (by omega), f 104 j (by omega)]; exact h4 j hj⟩
theorem Iv_mono (I : Iv k S q) {k' : Nat} (h : k ≤ k') : Iv k' S q := ⟨I.1, I.2.1, I.2.2.1, I.2.2.2.1, I.2.2.2.2.1, Iv_i_fr I.2.2.2.2.2.1 h (fun _ _ _ => rfl), I.2.2.2.2.2.2⟩
theorem mC_91 (C : mC S q (-1)) (f : ∀ a j, 91 ≤ a → S'.2 a j = S.2 a j) : mC S' q (-1) := ⟨(funext fun j => f 92 j (by omega)).trans C.1, (f 91 7 (by omega)).trans C.2⟩
/-- a call of the class, then the same call of the reference: both answer, and tell the same -/
def lP (kF kM : Nat) (a : List Value) (R : wp_S → Prop) (S : wp_S) : Prop := cl 100 kF (.ref 0 :: a) S (fun r S1 => ∃ v, r = some (.int v) ∧ cl 100 kM (.ref 91 :: a) S1 (fun r2 S2 => r2 = some (.int v) ∧ R S2))
theorem sp_er_c {f g : sp_R} {e : Nat} (he : e < 6) (h : ∀ j, j < 6 → f j = g j) : ∀ j, j < 6 → sp_er f e j = sp_er g e j := by
  intro j hj
  unfold sp_er
  by_cases h0 : e = 0
  · rw [if_pos h0, if_pos h0]
    exact h j hj
  · rw [if_neg h0, if_neg h0]
    by_cases hje : j = e
    · rw [hje, sp_up_eq, sp_up_eq, h e he]
    · rw [sp_up_ne _ _ hje, sp_up_ne _ _ hje]
      exact h j hj
theorem iK_X {a j : Nat} (h : iK a j) : ¬ cX a j := by
  unfold iK at h
  unfold cX cY
  omega
theorem iK_Y {a j : Nat} (h : iK a j) : ¬ mX a j := by
  unfold iK at h
  unfold mX mY ps_D
  omega
theorem iv_after {S1 S2 : wp_S} {o : sp_Out} (I : Iv k S q) (h6 : o.1 < 6) (hw : sp_wf o.2.2) (C1 : CL S1 o.2.2) (e1 : S1.2 90 = sp_er (S.2 90) o.1) (f1 : ∀ a j, ¬ cX a j → S1.2 a j = S.2 a j) (C2 : mC S2 o.2.2 (-1)) (e2 : S2.2 96 = sp_er (S1.2 96) o.1) (f2 : fr mX S1 S2) : Iv k S2 o.2.2 := by
  have F : ∀ a j, iK a j → S2.2 a j = S.2 a j := fun a j h => (f2.2 a j (iK_Y h)).trans (f1 a j (iK_X h))
  have e3 : S1.2 96 = S.2 96 := funext fun j => f1 96 j (by unfold cX cY; omega)
  refine ⟨C1.fr (fun a j y => f2.2 a j (fun z => by unfold mX mY ps_D at z; unfold cW at y; omega)), C2, hw, ?_, ?_, ?_, ?_⟩
  · exact Iv_s_fr I.2.2.2.1 (fun a j h => F a j (by unfold iK; omega))
  · intro j hj
    rw [f2.2 90 j (fun z => by unfold mX mY ps_D at z; omega), e1, e2, e3]
    exact sp_er_c h6 I.2.2.2.2.1 j hj
  · exact Iv_i_fr I.2.2.2.2.2.1 (Nat.le_refl _) (fun a j h => F a j (by unfold iK; omega))
  · exact Iv_v_fr I.2.2.2.2.2.2 (fun a j h => F a j (by unfold iK; omega))
theorem pr_op {o : sp_Out} {kF kM dF dM : Nat} {a : List Value} (I : Iv k S q) (hw : o.1 < 6 ∧ sp_wf o.2.2) (h1 : dF ≤ 100) (h2 : dM ≤ 100) (hc : ∀ Q, cQ S o Q → cl dF kF (.ref 0 :: a) S Q) (hm : ∀ S1 Q, mC S1 q (-1) → (∀ a j, 91 ≤ a → S1.2 a j = S.2 a j) → mQ S1 o Q → cl dM kM (.ref 91 :: a) S1 Q) : lP kF kM a (fun S2 => ∃ q', Iv k S2 q') S := by
  refine cl_mono h1 (hc _ (fun S1 C1 e1 f1 => ⟨o.2.1, rfl, ?_⟩))
  have f91 : ∀ a j, 91 ≤ a → S1.2 a j = S.2 a j := fun a j h => f1 a j (by unfold cX cY; omega)
  exact cl_mono h2 (hm S1 _ (mC_91 I.2.1 f91) f91 (fun S2 C2 e2 f2 => ⟨rfl, o.2.2, iv_after I hw.1 hw.2 C1 e1 f1 C2 e2 f2⟩))
end IV
/-! rows stay well-formed -/
def oW (o : sp_Out) : Prop := o.1 < 6 ∧ sp_wf o.2.2
theorem oW_if {P : Prop} {x y : sp_Out} (hx : P → oW x) (hy : ¬ P → oW y) : oW (sp_if P x y) := by
  by_cases h : P
  · rw [sp_if_t h]
    exact hx h
  · rw [sp_if_f h]
    exact hy h
theorem oW_bad {q : sp_R} (h : sp_wf q) {e : Nat} (he : e < 6) : oW (sp_bad q e) := ⟨he, h⟩
theorem oW_0 {q : sp_R} (h : sp_wf q) {x : Int32} : oW (0, x, q) := ⟨Nat.zero_lt_succ _, h⟩
theorem oW_e {x : Int32} {o : sp_Out} (e : x = x) (h : oW o) : oW o := h
theorem i_is {v : Int32} {n : Nat} (hn : n < 2 ^ 31) (h : sp_isW v n) : v.toNatClampNeg ≤ n ∧ v = nI v.toNatClampNeg := by
  obtain ⟨s, hs, rfl⟩ := (i_in hn).mp h
  rw [nI_clamp (by omega)]
  exact ⟨hs, rfl⟩
theorem i_if {q : sp_R} (hw : sp_wf q) {v : Int32} (h : sp_isF q v) : v.toNatClampNeg < sp_n q ∧ v = nI v.toNatClampNeg := by
  have hn := hw.n
  obtain ⟨s, hs, rfl⟩ := sp_isF_of hw h
  rw [nI_clamp (by omega)]
  exact ⟨hs, rfl⟩
section OW
theorem oW_tellings {q : sp_R} (hw : sp_wf q) (v w : Int32) : oW (op_tellings q v w) := oW_if (fun _ => oW_0 hw) (fun _ => oW_bad hw (by decide))
theorem oW_fear {q : sp_R} (hw : sp_wf q) (o v : Int32) : oW (op_fear q o v) := oW_if (fun h => oW_0 (sp_fr_wf hw (by have := (i_is (by decide) h.1).1; omega) h.2)) (fun _ => oW_bad hw (by decide))
theorem oW_pace {q : sp_R} (hw : sp_wf q) (v : Int32) : oW (op_pace q v) := oW_if (fun h => oW_0 (sp_pc_wf hw h)) (fun _ => oW_bad hw (by decide))
theorem oW_seed {q : sp_R} (hw : sp_wf q) (v : Int32) : oW (op_seed q v) := oW_0 (sp_sd_wf hw v)
theorem oW_become {q : sp_R} (hw : sp_wf q) (v w : Int32) : oW (op_become q v w) := oW_if (fun h => oW_0 (by
  have h1 := (i_if hw h.1).1
  have h2 := (i_is (by decide) h.2).1
  have h3 := hw.n.1
  exact sp_km_wf hw (by omega) h2)) (fun _ => oW_bad hw (by decide))
theorem oW_tells {q : sp_R} (hw : sp_wf q) (o v : Int32) : oW (op_tells q o v) := oW_if (fun h => oW_if (fun g => oW_0 (by
  have h1 := (i_if hw h.2).1
  have h2 := (i_is (by decide) h.1).1
  exact sp_tl_wf hw _ h1 (by omega) g.2)) (fun _ => oW_bad hw (by decide))) (fun _ => oW_bad hw (by decide))
theorem oW_forgets {q : sp_R} (hw : sp_wf q) (v : Int32) : oW (op_forgets q v) := oW_if (fun h => oW_0 (by
  have h1 := (i_if hw h).1
  have h3 := hw.n.1
  exact sp_tz_wf hw (by omega))) (fun _ => oW_bad hw (by decide))
theorem oW_field {q : sp_R} (hw : sp_wf q) (w a : Int32) : oW (op_field q w a) := oW_if (fun h => oW_if (fun _ => oW_bad hw (by decide)) (fun g => oW_0 (by
  have h1 := (i_is (by decide) h.1).1
  have h3 := hw.n.1
  exact sp_fi_wf hw (by omega) h1 h.2))) (fun _ => oW_bad hw (by decide))
theorem oW_loose {q : sp_R} (hw : sp_wf q) (v : Int32) : oW (op_loose q v) := oW_if (fun h => oW_if (fun _ => oW_bad hw (by decide)) (fun g => oW_0 (sp_lo_wf hw _ (by omega) _).1)) (fun _ => oW_bad hw (by decide))
theorem oW_coach {q : sp_R} (hw : sp_wf q) (v : Int32) : oW (op_coach q v) := oW_if (fun _ => oW_0 hw) (fun _ => oW_bad hw (by decide))
theorem oW_law {q : sp_R} (hw : sp_wf q) (u a b c : Int32) : oW (op_law q u a b c) := oW_if (fun _ => oW_0 hw) (fun _ => oW_bad hw (by decide))
theorem oW_ofField {q : sp_R} (hw : sp_wf q) (v w : Int32) : oW (op_ofField q v w) := oW_if (fun _ => oW_0 hw) (fun _ => oW_bad hw (by decide))
theorem oW_silence {q : sp_R} (hw : sp_wf q) (v o : Int32) : oW (op_silence q v o) := oW_if (fun _ => oW_0 hw) (fun _ => oW_bad hw (by decide))
theorem oW_needed {q : sp_R} (hw : sp_wf q) (o v : Int32) : oW (op_needed q o v) := oW_if (fun _ => oW_if (fun _ => oW_0 hw) (fun _ => oW_bad hw (by decide))) (fun _ => oW_bad hw (by decide))
theorem oW_as {q : sp_R} (hw : sp_wf q) (v w : Int32) : oW (op_as q v w) := oW_if (fun _ => oW_if (fun _ => oW_0 hw) (fun _ => oW_bad hw (by decide))) (fun _ => oW_bad hw (by decide))
theorem oW_tell {q : sp_R} (hw : sp_wf q) (v : Int32) : oW (op_tell q v) := oW_if (fun _ => oW_bad hw (by decide)) (fun g => oW_0 (by
  obtain ⟨n, hn, e⟩ := hw.2.2.2.2.2.2.1
  have h1 : n < 20 := by
    by_cases h : n = 20
    · rw [e, h] at g
      exact absurd rfl g
    · omega
  have g2 := sp_te_wf hw h1 v
  rw [e, nI_add, nI_clamp (by omega)]
  exact g2))
theorem oW_ofOwner {q : sp_R} (hw : sp_wf q) (o w : Int32) : oW (op_ofOwner q o w) := oW_if (fun _ => oW_0 hw) (fun _ => oW_bad hw (by decide))
theorem oW_set {q : sp_R} (hw : sp_wf q) (v w x : Int32) : oW (op_set q v w x) := oW_if (fun h => oW_0 (by
  have h1 := (i_if hw h.1).1
  have h3 := hw.n.1
  rcases h.2 with ⟨g1, g2⟩ | ⟨g1, g2⟩
  · rw [show w.toNatClampNeg = 0 by rw [g1]; decide]
    obtain ⟨y, hy, e⟩ := (i_in (n := 99) (by decide)).mp ⟨Int32.le_trans (by decide) g2.1, g2.2⟩
    have hy1 : 1 ≤ y := by
      rcases Nat.lt_or_ge 0 y with z | z
      · exact z
      · obtain rfl : y = 0 := by omega
        rw [e] at g2
        exact absurd g2.1 (by decide)
    exact sp_wf_f hw (by omega) (by decide) (Or.inr (Or.inr (Or.inl ⟨rfl, y, hy1, hy, e⟩)))
  · rw [show w.toNatClampNeg = 1 by rw [g1]; decide]
    obtain ⟨y, hy, e⟩ := (i_in (by decide)).mp g2
    exact sp_wf_f hw (by omega) (by decide) (Or.inr (Or.inr (Or.inr (Or.inl ⟨rfl, y, by omega, e⟩)))))) (fun _ => oW_bad hw (by decide))
theorem oW_check {q : sp_R} (hw : sp_wf q) : oW (op_check q) := oW_0 (sp_cw_wf hw)
theorem oW_told {q : sp_R} (hw : sp_wf q) (f : sp_R) (v : Int32) : oW (op_told q f v) := oW_if (fun _ => oW_0 hw) (fun _ => oW_bad hw (by decide))
theorem oW_trace {q : sp_R} (hw : sp_wf q) (t : sp_R) (m v : Int32) : oW (op_trace q t m v) := oW_if (fun _ => oW_0 hw) (fun _ => oW_bad hw (by decide))
theorem oW_count {q : sp_R} (hw : sp_wf q) (t v : Int32) : oW (op_count q t v) := oW_if (fun _ => oW_0 hw) (fun _ => oW_bad hw (by decide))
theorem oW_feed {q : sp_R} (hw : sp_wf q) (w : Int64) (v : Int32) : oW (op_feed q w v) := oW_if (fun _ => oW_if (fun _ => oW_bad hw (by decide)) (fun g => oW_0 (sp_fd_wf hw w _ _ (by omega)))) (fun _ => oW_bad hw (by decide))
theorem oW_judge {q : sp_R} (hw : sp_wf q) (b z t : sp_R) (v : Int32) : oW (op_judge q b z t v) := oW_if (fun _ => oW_if (fun _ => oW_bad hw (by decide)) (fun _ => oW_0 hw)) (fun _ => oW_bad hw (by decide))
theorem oW_acres {q : sp_R} (hw : sp_wf q) (b z t : sp_R) (v : Int32) : oW (op_acres q b z t v) := oW_if (fun _ => oW_if (fun _ => oW_bad hw (by decide)) (fun _ => oW_0 (sp_ac_wf _ 0 q hw (by have := hw.n.1; omega)))) (fun _ => oW_bad hw (by decide))
theorem oW_gain {q : sp_R} (hw : sp_wf q) (o w : Int32) : oW (op_gain q o w) := oW_if (fun _ => oW_0 hw) (fun _ => oW_bad hw (by decide))
theorem oW_turns {q : sp_R} (hw : sp_wf q) (o p n : Int32) : oW (op_turns q o p n) := oW_if (fun _ => oW_if (fun _ => oW_bad hw (by decide)) (fun _ => oW_0 hw)) (fun _ => oW_bad hw (by decide))
theorem oW_one {q : sp_R} (hw : sp_wf q) (b z t : sp_R) (v w : Int32) : oW (op_one q b z t v w) := oW_if (fun _ => oW_if (fun _ => oW_bad hw (by decide)) (fun _ => oW_if (fun _ => oW_bad hw (by decide)) (fun _ => oW_0 hw))) (fun _ => oW_bad hw (by decide))
theorem oW_fears {q : sp_R} (hw : sp_wf q) (b z t : sp_R) (v w : Int32) : oW (op_fears q b z t v w) := oW_if (fun _ => oW_if (fun _ => oW_bad hw (by decide)) (fun _ => oW_if (fun _ => oW_bad hw (by decide)) (fun _ => oW_0 hw))) (fun _ => oW_bad hw (by decide))
theorem oW_text {q : sp_R} (hw : sp_wf q) (v : Int32) : oW (op_text q v) := oW_if (fun h => oW_if (fun g => oW_0 (by
  obtain ⟨n, hn, e⟩ := hw.2.2.2.2.2.1
  have h1 := (i_is (by decide) h).1
  rw [e, nI_clamp (by omega)] at g
  exact sp_wf_4 (sp_tt_wf hw (by omega) hn e g) (Nat.zero_le _))) (fun _ => oW_0 (sp_wf_4 hw (Nat.zero_le _)))) (fun _ => oW_bad hw (by decide))
end OW
