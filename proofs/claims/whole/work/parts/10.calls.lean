theorem sd_nfw : nativeFrameWords "java/lang/System" "arraycopy" 5 + 11 ≤ 40 := by decide +kernel
theorem sd_map_cat (B : Nat) (kd : Nat → Nat) (st : List Value) : ((st.map (sd_v B kd)).map fun v => v.category).sum = (st.map fun v => v.category).sum := by
  rw [List.map_map]
  congr 1
  apply List.map_congr_left
  intro v _
  exact sd_v_cat B kd v
theorem ab_cat_le {st : List Value} (h : ab_cat st = true) : (st.map fun v => v.category).sum ≤ 8 := of_decide_eq_true h
section SC
variable {p : Program} {l : Launch} {e : Env} {R : Room} {s : State} {m : MethodId} {args : Array Value} {below : List Frame} {meth : Method} {c : Code} {Q : State → Prop} {dC : Nat → ClassId} {dI : Nat → Nat → Nat} {tA : Nat → ClassId} {B : Nat} {kd : Nat → Nat} {X : ab_X} {c0 z0 nL y : Nat} {cc : ByteArray} {own : String}
theorem sd_acp (A : sd_At p s m args meth c y nL cc own dC dI tA B kd X) (hR1 : 1 ≤ R.frames) (hR2 : 60 ≤ R.locals) {pc j : Nat} {ls : ab_L} {st : List Value} {h : ab_H} {f' : ab_F} (hd : decode cc pc = .ok (.invokestatic j, 3)) (hlw : Cond.methodLink own j arraycopyName ∈ wd_tbl) (hx : ab_acp (pc + 3) ls st h = some (.inl f')) (k : sd_Go p l e R s m args below meth c Q dC dI tA B kd c0 z0 nL f') : sd_Go p l e R s m args below meth c Q dC dI tA B kd c0 z0 nL (pc, ls, st, h) := by
  obtain ⟨A1, A2, A3, A4, A5, A6, A7, A8, A9⟩ := A
  unfold ab_acp at hx
  split at hx
  · rename_i n dp d sp sr r
    split at hx
    · rename_i t0 n0 rs0 t1 n1 rs1 hh0 hh1
      obtain ⟨⟨rfl, rfl, hs, hdd, hn0, hd0, hs0, h4, h5, hcat⟩, hx2⟩ := ab_if_inv hx
      cases hx2
      intro L H locs cells slots I hL
      have hcat := ab_cat_le hcat
      have hat0 := sd_ws_at (B := B) (kd := kd) (tA := tA) hh0
      have hat1 := sd_ws_at (B := B) (kd := kd) (tA := tA) hh1
      rw [sd_E_int] at hat0 hat1
      have hc0 : H[B + sr]? = some (vp_cell (tA 0) (n0, .inl (h.2 sr))) := I.1.2 sr _ hat0
      have hc1 : H[B + d]? = some (vp_cell (tA 0) (n1, .inl (h.2 d))) := I.1.2 d _ hat1
      show W p l e R s m args below meth c H locs cells slots Q (F0 m pc L (.int n :: .int dp :: .ref (sd_ad B kd d) :: .int sp :: .ref (sd_ad B kd sr) :: r.map (sd_v B kd)))
      rw [sd_ad_lt hs, sd_ad_lt hdd]
      have nn : ∀ z : Int32, ¬ z < 0 → z.toInt = (z.toNatClampNeg : Int) := by
        intro z hz
        have hz0 : (0 : Int) ≤ z.toInt := by
          have := Int32.not_lt.mp hz
          simpa using Int32.le_iff_toInt_le.mp this
        show z.toInt = ((z.toInt.toNat : Nat) : Int)
        omega
      obtain ⟨-, k0, hk0, cm0, hkk0⟩ := (A9.1.2 0 _ rfl).1 n0 (fun j => .int (h.2 sr j))
      obtain ⟨-, k1, hk1, cm1, hkk1⟩ := (A9.1.2 0 _ rfl).1 n1 (fun j => .int (h.2 d j))
      intro T hT Xs
      obtain ⟨vm', X', step⟩ := Xs.arraycopy A1 A4 (A6 _ hlw) (A6 _ wd_ac_nat) (A6 _ wd_ac_stat) (A6 _ wd_ac_ini) (src := B + sr) (dst := B + d) (cs := vp_cell (tA 0) (n0, .inl (h.2 sr))) (cd := vp_cell (tA 0) (n1, .inl (h.2 d))) (srcPos := sp) (destPos := dp) (n := n) (by rw [hT]; exact hc0) (by rw [hT]; exact hc1)
        (fun _ h => by cases h) (fun _ h => by cases h) (fun h => by cases h) (fun h => by cases h) hk0 hk1 hkk0 hkk1 rfl hs0 hd0 hn0
        (by rw [nn sp hs0, nn n hn0]; show ¬ _ > ((arrV (tA 0) n0 (fun j => .int (h.2 sr j))).slots.size : Int); rw [arrV_size]; omega)
        (by rw [nn dp hd0, nn n hn0]; show ¬ _ > ((arrV (tA 0) n1 (fun j => .int (h.2 d j))).slots.size : Int); rw [arrV_size]; omega)
        (fun vm₁ _ i hi => by
          have e : (vp_cell (tA 0) (n0, .inl (h.2 sr))).slots.getD (sp.toNatClampNeg + i) .null = .int (h.2 sr (sp.toNatClampNeg + i)) := by
            show (arrV (tA 0) n0 (fun j => .int (h.2 sr j))).slots.getD _ _ = _
            rw [Array.getD_eq_getD_getElem?, arrV_read _ _ (by omega)]
            rfl
          rw [e]
          exact ⟨rfl, trivial⟩)
        (g := F0 m pc L (.int n :: .int dp :: .ref (B + d) :: .int sp :: .ref (B + sr) :: r.map (sd_v B kd))) rfl (by rw [A3]; exact hL.2.1) (rest := r.map (sd_v B kd)) rfl (by rw [A2]; exact hd) hR1 (by have := sd_nfw; rw [sd_map_cat]; show 2 * 0 + _ + _ ≤ _; omega)
      have e1 : copied (vp_cell (tA 0) (n0, .inl (h.2 sr))) (vp_cell (tA 0) (n1, .inl (h.2 d))) sp dp n = vp_cell (tA 0) (n1, .inl (va_cpy (h.2 sr) (h.2 d) sp.toNatClampNeg dp.toNatClampNeg n.toNatClampNeg)) := va_copied (fun z => .int z) (tA 0) (tA 0) (h.2 sr) (h.2 d) h4
      rw [e1] at X' step
      have hl : B + d < H.size := (Array.getElem?_eq_some_iff.mp hc1).1
      have hheap : ((T.setVm vm').setCell (B + d) (vp_cell (tA 0) (n1, .inl (va_cpy (h.2 sr) (h.2 d) sp.toNatClampNeg dp.toNatClampNeg n.toNatClampNeg)))).heap = H.setIfInBounds (B + d) (vp_cell (tA 0) (n1, .inl (va_cpy (h.2 sr) (h.2 d) sp.toNatClampNeg dp.toNatClampNeg n.toNatClampNeg))) := by rw [← hT]; rfl
      generalize hHn : H.setIfInBounds (B + d) (vp_cell (tA 0) (n1, .inl (va_cpy (h.2 sr) (h.2 d) sp.toNatClampNeg dp.toNatClampNeg n.toNatClampNeg))) = Hn at hheap
      have ez : Hn.size = H.size := by rw [← hHn]; simp
      have eq1 : Hn[B + d]? = some (vp_cell (tA 0) (n1, .inl (va_cpy (h.2 sr) (h.2 d) sp.toNatClampNeg dp.toNatClampNeg n.toNatClampNeg))) := by rw [← hHn]; simp [Array.getElem?_setIfInBounds, hl]
      have oq : ∀ q : Nat, q ≠ B + d → Hn[q]? = H[q]? := fun q hq => by rw [← hHn]; simp [Array.getElem?_setIfInBounds, Ne.symm hq]
      obtain ⟨t, a1, b1⟩ := k L Hn _ cells slots ⟨I.1.upd (x' := (100, n1, rs1)) hh1 (sd_set_self hh1).symm (fun b hb => by funext q; show (if b = d then _ else h.2 b q) = _; rw [if_neg hb]) (by
          rw [sd_E_int]
          have hfun : ab_cp h.2 sr d sp.toNatClampNeg dp.toNatClampNeg n.toNatClampNeg d = va_cpy (h.2 sr) (h.2 d) sp.toNatClampNeg dp.toNatClampNeg n.toNatClampNeg := by
            funext q
            unfold ab_cp
            rw [if_pos rfl]
          show Hn[B + d]? = some (vp_cell (tA 0) (n1, .inl (ab_cp h.2 sr d sp.toNatClampNeg dp.toNatClampNeg n.toNatClampNeg d)))
          rw [hfun]
          exact eq1) ez oq, ⟨by rw [ez]; exact I.2.1.1, fun q g1 g2 => by
            rw [oq q (fun z => g2 (by rw [z]; exact Nat.le_add_right _ _))]
            exact I.2.1.2.1 q g1 g2, fun q hq => by
            rcases List.mem_append.mp hq with hq | hq
            · exact I.2.1.2.2 q hq
            · obtain ⟨z, -, hz⟩ := List.mem_map.mp hq
              rw [← hz]
              exact Nat.le_add_right _ _⟩, I.2.2.1, I.2.2.2⟩ hL _ hheap X'
      exact ⟨t, step t a1, b1⟩
    · cases hx
  · cases hx
/-- calls that are one step here: Object(), arraycopy, max, min -/
theorem sx_inv (A : sd_At p s m args meth c y nL cc own dC dI tA B kd X) (hR1 : 1 ≤ R.frames) (hR2 : 60 ≤ R.locals) (hRc : ∀ cells, cells + c0 = cells + c0 → True) {kd' pc j : Nat} {ls : ab_L} {st : List Value} {h : ab_H} {f' : ab_F} (hRR : h.1.length ≤ c0 + R.cells ∧ ab_sl h ≤ z0 + R.slots) (hd : (kd' = 1 → decode cc pc = .ok (.invokespecial j, 3)) ∧ (kd' = 2 → decode cc pc = .ok (.invokestatic j, 3))) (hx : ab_inv y kd' j (pc + 3) ls st h = some (.inl f')) (k : sd_Go p l e R s m args below meth c Q dC dI tA B kd c0 z0 nL f') : sd_Go p l e R s m args below meth c Q dC dI tA B kd c0 z0 nL (pc, ls, st, h) := by
  unfold ab_inv at hx
  split at hx
  · cases hx
  · rename_i k0 n0 hf
    obtain ⟨A1, A2, A3, A4, A5, A6, A7, A8, A9⟩ := id A
    rcases wd_LK hf A5 with ⟨rfl, hw⟩ | ⟨rfl, hw⟩ | ⟨rfl, hw⟩ | ⟨rfl, hw⟩ | ⟨⟨h8, h9, h6, h7⟩, -⟩
    · rw [if_pos rfl] at hx
      split at hx
      · rename_i a r
        obtain ⟨⟨rfl, hcat⟩, hx2⟩ := ab_if_inv hx
        cases hx2
        have hcat := ab_cat_le hcat
        intro L H locs cells slots I hL
        refine W.objInit A1 A2 A4 (A6 _ hw) (A6 _ wd_oi_inst) (A6 _ wd_oi_code) rfl (by rw [A3]; exact hL.2.1) rfl (hd.1 rfl) hR1 (by show 2 * 0 + _ + 12 ≤ _; rw [sd_map_cat]; omega) ?_
        exact k L H locs cells slots I hL
      · cases hx
    · rw [if_neg (by decide), if_pos rfl] at hx
      obtain ⟨rfl, hx2⟩ := ab_if_inv hx
      exact sd_acp A hR1 hR2 (hd.2 rfl) hw hx2 k
    · rw [if_neg (by decide), if_neg (by decide), if_pos rfl] at hx
      split at hx
      · rename_i yv xv r
        obtain ⟨⟨rfl, hcat⟩, hx2⟩ := ab_if_inv hx
        cases hx2
        have hcat := ab_cat_le hcat
        intro L H locs cells slots I hL
        have i3 : cells + c0 = h.1.length := I.2.2.1
        have i4 : slots + z0 = ab_sl h := I.2.2.2
        exact va_mmax A1 A2 (by rw [A3]; exact hL.2.1.symm) A4 (A6 _ hw) (A6 _ wd_mx_stat) (A6 _ wd_mm_ini) (A6 _ wd_mx_code) hR1 (by rw [sd_map_cat]; omega) (by omega) (by omega) (hd.2 rfl) (k L H locs cells slots I hL)
      · cases hx
    · rw [if_neg (by decide), if_neg (by decide), if_neg (by decide), if_pos rfl] at hx
      split at hx
      · rename_i yv xv r
        obtain ⟨⟨rfl, hcat⟩, hx2⟩ := ab_if_inv hx
        cases hx2
        have hcat := ab_cat_le hcat
        intro L H locs cells slots I hL
        have i3 : cells + c0 = h.1.length := I.2.2.1
        have i4 : slots + z0 = ab_sl h := I.2.2.2
        exact va_mmin A1 A2 (by rw [A3]; exact hL.2.1.symm) A4 (A6 _ hw) (A6 _ wd_mi_stat) (A6 _ wd_mm_ini) (A6 _ wd_mi_code) hR1 (by rw [sd_map_cat]; omega) (by omega) (by omega) (hd.2 rfl) (k L H locs cells slots I hL)
      · cases hx
    · rw [if_neg h8, if_neg h9, if_neg h6, if_neg h7] at hx
      split at hx
      · cases hx
      · obtain ⟨-, hx2⟩ := ab_if_inv hx
        split at hx2
        · obtain ⟨-, hx3⟩ := ab_if_inv hx2
          cases hx3
        · split at hx2
          · obtain ⟨-, hx3⟩ := ab_if_inv hx2
            cases hx3
          · cases hx2
end SC
/-! contracts -/
def sd_wsM (e : ab_Y) : List Cond := Cond.code e.1 e.2.1 e.2.2.1 e.2.2.2.1 :: wd_tbl
def sd_Pc (dC : Nat → ClassId) (dI : Nat → Nat → Nat) (tA : Nat → ClassId) (B : Nat) (kd : Nat → Nat) (X : ab_X) (as : List Value) (h : ab_H) : Array Value → State → Prop := fun v U => v = (as.map (sd_v B kd)).toArray ∧ sd_K dC dI tA B kd X U U.heap ∧ sd_W dC dI tA B kd h U.heap
def sd_Qc (dC : Nat → ClassId) (dI : Nat → Nat → Nat) (tA : Nat → ClassId) (B : Nat) (kd : Nat → Nat) (r : Option Value) (h' : ab_H) : Array Value → State → Outcome → State → Prop := fun _ st o t => o = .returned (r.map (sd_v B kd)) ∧ sd_W dC dI tA B kd h' t.heap ∧ ∀ q, q < B → t.heap[q]? = st.heap[q]?
def sd_rm (d mc ms : Nat) : Room := { frames := d, cells := mc, slots := ms, locals := 60 * d }
def sd_Met (l : Launch) (dC : Nat → ClassId) (dI : Nat → Nat → Nat) (tA : Nat → ClassId) (B : Nat) (kd : Nat → Nat) (X : ab_X) (d y : Nat) (as : List Value) (h : ab_H) (r : Option Value) (h' : ab_H) : Prop := ∀ e, ab_MT[y]? = some e → h.1.length ≤ h'.1.length ∧ ab_sl h ≤ ab_sl h' ∧ Met l e.1 (sd_wsM e) (sd_rm d (h'.1.length - h.1.length) (ab_sl h' - ab_sl h)) (sd_Pc dC dI tA B kd X as h) (sd_Qc dC dI tA B kd r h') (h'.1.length - h.1.length) (ab_sl h' - ab_sl h) (fun q => B ≤ q)
theorem sd_Pc_blind {dC : Nat → ClassId} {dI : Nat → Nat → Nat} {tA : Nat → ClassId} {B : Nat} {kd : Nat → Nat} {X : ab_X} {as : List Value} {h : ab_H} : FrameBlind (sd_Pc dC dI tA B kd X as h) := fun _ _ _ _ q => ⟨q.1, q.2.1.same rfl, q.2.2⟩
theorem sd_goodM {e : ab_Y} (he : e ∈ ab_MT) : GoodIn wd_tbl (sd_wsM e) := by
  intro w hw
  have key : ∀ w ∈ wd_tbl, w ∈ wd_tbl ∧ ((w.onTables && w.keeps) = true ∨ ∃ ty, w = .arrayClass ty) := fun w hw => ⟨hw, (wd_good w hw).2⟩
  rcases List.mem_cons.mp hw with rfl | hw
  · exact key _ (wd_MT he).1
  · exact key _ hw
section SC2
variable {p : Program} {l : Launch} {e : Env} {R : Room} {s : State} {m : MethodId} {args : Array Value} {below : List Frame} {meth : Method} {c : Code} {Q : State → Prop} {dC : Nat → ClassId} {dI : Nat → Nat → Nat} {tA : Nat → ClassId} {B : Nat} {kd : Nat → Nat} {X : ab_X} {c0 z0 nL y : Nat} {cc : ByteArray} {own : String}
theorem sd_after {pc mc ms cells slots : Nat} {L : Array Slot} {st0 rest : List Value} {r1 : Option Value} {h h1 : ab_H} {H : Heap} {locs : List Loc} {a : Array Value} (hr : va_Run p l e R s m args below meth c H locs cells slots mc ms (F0 m pc L st0) rest (sd_Qc dC dI tA B kd r1 h1 a) (fun q => B ≤ q)) (hsz : H.size = B + h.1.length) (hle : h.1.length ≤ h1.1.length) (hS : va_S (fun q => B ≤ q) s.heap H locs)
    (kk : ∀ (H1 : Heap) (locs1 : List Loc), sd_W dC dI tA B kd h1 H1 → va_S (fun q => B ≤ q) s.heap H1 locs1 → W p l e R s m args below meth c H1 locs1 (cells + mc) (slots + ms) Q (F0 m (pc + 3) L ((r1.map (sd_v B kd)).toList ++ rest))) : W p l e R s m args below meth c H locs cells slots Q (F0 m pc L st0) := by
  intro T hT Xs
  obtain ⟨v, st₀, t, T', Ls, h0, X', hL, e1, e2, ⟨hv, hW, hk⟩, st⟩ := hr T hT Xs
  cases hv
  rw [h0] at hk
  rw [← e1] at hW hk
  have hz : T'.heap.size = B + h1.1.length := hW.1
  obtain ⟨t2, a1, b1⟩ := kk T'.heap (locs ++ Ls) hW ⟨Nat.le_trans hS.1 (by omega), fun q g1 g2 => (hk q (Nat.not_le.mp g2)).trans (hS.2.1 q g1 g2), fun q hq => by
    rcases List.mem_append.mp hq with g | g
    · exact hS.2.2 q g
    · exact hL q g⟩ T' rfl X'
  exact ⟨t2, st t2 a1, b1⟩
theorem sd_stk (B : Nat) (kd : Nat → Nat) (r : Option Value) (st : List Value) : (r.map (sd_v B kd)).toList ++ st.map (sd_v B kd) = (r.toList ++ st).map (sd_v B kd) := by cases r <;> rfl
theorem sd_call (A : sd_At p s m args meth c y nL cc own dC dI tA B kd X) {d : Nat} (hR1 : d + 1 ≤ R.frames) (hR2 : 60 * d + 60 ≤ R.locals) {kd' pc j k0 : Nat} {ls : ab_L} {st as : List Value} {h h1 : ab_H} {r1 : Option Value} {f' : ab_F} (hd : (kd' = 0 → decode cc pc = .ok (.invokevirtual j, 3)) ∧ (kd' = 1 → decode cc pc = .ok (.invokespecial j, 3)) ∧ (kd' = 2 → decode cc pc = .ok (.invokestatic j, 3))) (hx : ab_inv y kd' j (pc + 3) ls st h = some (.inr (.inl (k0, as, f')))) (hM : sd_Met l dC dI tA B kd X d k0 as h r1 h1) (hRR : h1.1.length ≤ c0 + R.cells ∧ ab_sl h1 ≤ z0 + R.slots)
    (k : sd_Go p l e R s m args below meth c Q dC dI tA B kd c0 z0 nL (ab_res f' r1 h1)) : sd_Go p l e R s m args below meth c Q dC dI tA B kd c0 z0 nL (pc, ls, st, h) ∧ f'.2.2.2 = h := by
  unfold ab_inv at hx
  split at hx
  · cases hx
  · rename_i k2 n0 hf
    obtain ⟨A1, A2, A3, A4, A5, A6, A7, A8, A9⟩ := id A
    rcases wd_LK hf A5 with ⟨rfl, hw⟩ | ⟨rfl, hw⟩ | ⟨rfl, hw⟩ | ⟨rfl, hw⟩ | ⟨⟨h8, h9, h6, h7⟩, e0, he0, hlw⟩
    · rw [if_pos rfl] at hx
      split at hx
      · obtain ⟨-, hx2⟩ := ab_if_inv hx; cases hx2
      · cases hx
    · rw [if_neg (by decide), if_pos rfl] at hx
      obtain ⟨-, hx2⟩ := ab_if_inv hx
      unfold ab_acp at hx2
      split at hx2
      · split at hx2
        · obtain ⟨-, hx3⟩ := ab_if_inv hx2; cases hx3
        · cases hx2
      · cases hx2
    · rw [if_neg (by decide), if_neg (by decide), if_pos rfl] at hx
      split at hx
      · obtain ⟨-, hx2⟩ := ab_if_inv hx; cases hx2
      · cases hx
    · rw [if_neg (by decide), if_neg (by decide), if_neg (by decide), if_pos rfl] at hx
      split at hx
      · obtain ⟨-, hx2⟩ := ab_if_inv hx; cases hx2
      · cases hx
    · rw [if_neg h8, if_neg h9, if_neg h6, if_neg h7, he0] at hx
      have hmem := List.mem_of_getElem? he0
      obtain ⟨w1, w2, w3, w4, w5, w6, w7, w8, w9, w10, w11⟩ := wd_MT hmem
      obtain ⟨hlen, hx1⟩ := ab_if_inv hx
      have hn : ((st.take e0.2.2.2.2.2.1).reverse.map (sd_v B kd)).length = e0.2.2.2.2.2.1 := by rw [List.length_map, List.length_reverse, List.length_take]; omega
      have hstk : ∀ rest, st.drop e0.2.2.2.2.2.1 = rest → st.map (sd_v B kd) = ((st.take e0.2.2.2.2.2.1).reverse.map (sd_v B kd)).reverse ++ rest.map (sd_v B kd) := by
        intro rest hrest
        rw [← List.map_reverse, List.reverse_reverse, ← hrest, ← List.map_append, List.take_append_drop]
      have hrm : (sd_rm d (h1.1.length - h.1.length) (ab_sl h1 - ab_sl h)).frames + 1 ≤ R.frames ∧ 8 + (e0.2.2.1 + 11) + (sd_rm d (h1.1.length - h.1.length) (ab_sl h1 - ab_sl h)).locals ≤ R.locals := by
        refine ⟨hR1, ?_⟩
        show 8 + (e0.2.2.1 + 11) + 60 * d ≤ R.locals
        omega
      split at hx1
      · rename_i hst
        obtain ⟨⟨rfl, hcat⟩, hx2⟩ := ab_if_inv hx1
        cases hx2
        refine ⟨?_, rfl⟩
        obtain ⟨hl1, hl2, hMet⟩ := hM e0 he0
        have hcat := ab_cat_le hcat
        intro L H locs cells slots I hL
        have i3 : cells + c0 = h.1.length := I.2.2.1
        have i4 : slots + z0 = ab_sl h := I.2.2.2
        have hf2 : cells + (h1.1.length - h.1.length) ≤ R.cells ∧ slots + (ab_sl h1 - ab_sl h) ≤ R.slots := ⟨by omega, by omega⟩
        have hp : PreS s H (sd_Pc dC dI tA B kd X (st.take e0.2.2.2.2.2.1).reverse h) ((st.take e0.2.2.2.2.2.1).reverse.map (sd_v B kd)) := ⟨sd_Pc_blind, fun U hU hW => ⟨rfl, A9.warm hW (fun q g1 g2 => by rw [hU]; exact I.2.1.2.1 q g1 g2), by rw [hU]; exact I.1⟩⟩
        have hrun : va_Run p l e R s m args below meth c H locs cells slots (h1.1.length - h.1.length) (ab_sl h1 - ab_sl h) (F0 m pc L (st.map (sd_v B kd))) ((st.drop e0.2.2.2.2.2.1).map (sd_v B kd)) (sd_Qc dC dI tA B kd r1 h1 ((st.take e0.2.2.2.2.2.1).reverse.map (sd_v B kd)).toArray) (fun q => B ≤ q) := by
          rcases hlw with hlw | hlw
          · exact va_runS (own := own) ⟨A1, A2, A3, A4, A6⟩ hMet ⟨callB_of _ A6 (sd_goodM hmem) rfl rfl rfl (A6 _ w2) (A6 _ hlw) ⟨w5.1, w5.2, w6⟩ hrm, A6 _ (w3 hst)⟩ hp rfl hn hL.2.1 (hstk _ rfl) (lv_room (by rw [sd_map_cat]; exact hcat)) (hd.2.2 rfl) hf2
          · exact va_runSN (own := own) ⟨A1, A2, A3, A4, A6⟩ hMet ⟨va_cnB _ A6 (sd_goodM hmem) rfl rfl rfl (A9.2.2.2.2.2.2.2.2.1 _ _ _ _ hlw) (A6 _ w2) ⟨w5.1, w5.2, w6⟩ hrm, A6 _ (w3 hst), trivial⟩ hp rfl hn hL.2.1 (hstk _ rfl) (lv_room (by rw [sd_map_cat]; exact hcat)) (hd.2.2 rfl) hf2
        refine sd_after hrun I.1.1 hl1 I.2.1 fun H1 locs1 hW1 hS1 => ?_
        rw [sd_stk]
        exact k L H1 locs1 _ _ ⟨hW1, hS1, by show _ = h1.1.length; omega, by show _ = ab_sl h1; omega⟩ hL
      · rename_i hst
        have hst : e0.2.2.2.2.2.2 = false := by simpa using hst
        split at hx1
        · rename_i b r hdrop
          obtain ⟨⟨hcat, hkind⟩, hx2⟩ := ab_if_inv hx1
          cases hx2
          refine ⟨?_, rfl⟩
          obtain ⟨hl1, hl2, hMet⟩ := hM e0 he0
          have hcat := ab_cat_le hcat
          intro L H locs cells slots I hL
          have i3 : cells + c0 = h.1.length := I.2.2.1
          have i4 : slots + z0 = ab_sl h := I.2.2.2
          have hf2 : cells + (h1.1.length - h.1.length) ≤ R.cells ∧ slots + (ab_sl h1 - ab_sl h) ≤ R.slots := ⟨by omega, by omega⟩
          have hPre : ∀ U : State, U.heap = H → s.WarmedH U.vm → sd_Pc dC dI tA B kd X (.ref b :: (st.take e0.2.2.2.2.2.1).reverse) h (Value.ref (sd_ad B kd b) :: (st.take e0.2.2.2.2.2.1).reverse.map (sd_v B kd)).toArray U := fun U hU hW => ⟨rfl, A9.warm hW (fun q g1 g2 => by rw [hU]; exact I.2.1.2.1 q g1 g2), by rw [hU]; exact I.1⟩
          have hsk : (F0 m pc L (st.map (sd_v B kd))).stack = ((st.take e0.2.2.2.2.2.1).reverse.map (sd_v B kd)).reverse ++ .ref (sd_ad B kd b) :: r.map (sd_v B kd) := hstk _ hdrop
          have hrun : va_Run p l e R s m args below meth c H locs cells slots (h1.1.length - h.1.length) (ab_sl h1 - ab_sl h) (F0 m pc L (st.map (sd_v B kd))) (r.map (sd_v B kd)) (sd_Qc dC dI tA B kd r1 h1 (Value.ref (sd_ad B kd b) :: (st.take e0.2.2.2.2.2.1).reverse.map (sd_v B kd)).toArray) (fun q => B ≤ q) := by
            rcases hkind with ⟨rfl, hni, hC⟩ | ⟨rfl, hini⟩
            · have hrecv : ∃ cellB : Cell, H[sd_ad B kd b]? = some cellB ∧ cellB.vm.isStatics = false ∧ s.vm.findClass e0.1.cls = some cellB.cls := by
                unfold ab_isC at hC
                split at hC
                · rename_i h10
                  have hb := of_decide_eq_true hC
                  have ea : sd_ad B kd b = kd (10000 + (b - 10000)) := (sd_ad_ge (by omega)).trans (congrArg kd (by omega))
                  rw [ea]
                  have hS := vk_recv A9.2.2.2.2.2.2.2.1 (i := b - 10000) (by omega) I.2.1
                  have hcls : e0.1.cls = "java/lang/String" := by
                    rw [h10] at w8
                    exact (Option.some.inj w8).symm
                  rw [hcls]
                  exact hS
                · split at hC
                  · rename_i hc9
                    split at hC
                    · rename_i t nn rs hh
                      have htc : t = e0.2.2.2.2.1 := of_decide_eq_true hC
                      subst htc
                      have hat := sd_ws_at (B := B) (kd := kd) (tA := tA) hh
                      rw [sd_E_o hc9.1] at hat
                      rw [sd_ad_lt hc9.2]
                      have h1 := wd_cnk _ hc9.1
                      obtain ⟨rc, hrc, hcn⟩ : ∃ rc, vwCl[e0.2.2.2.2.1]? = some rc ∧ rc.1 = e0.1.cls := by
                        rw [w8] at h1
                        cases hv : vwCl[e0.2.2.2.2.1]? with
                        | none => rw [hv] at h1; cases h1
                        | some rc =>
                          rw [hv] at h1
                          exact ⟨rc, rfl, (Option.some.inj h1).symm⟩
                      have h2 := va_recv A9.1 I.1.2 hrc hat
                      rw [hcn] at h2
                      exact h2
                    · cases hC
                  · cases hC
              have hsel : Cond.selects e0.1.cls e0.1 e0.1 ∈ wd_tbl := by
                rcases (w4 hst).2 with hin | hsel
                · rw [ab_ini_of he0] at hni
                  exact absurd hin (of_decide_eq_false hni)
                · exact hsel
              rcases hlw with hlw | hlw
              · exact va_runV (own := own) (C := e0.1.cls) ⟨A1, A2, A3, A4, A6⟩ hMet ⟨callB_of _ A6 (sd_goodM hmem) rfl rfl rfl (A6 _ w2) (A6 _ hlw) ⟨w5.1, w5.2, w6⟩ hrm, A6 _ (w4 hst).1, A6 _ hsel⟩ ⟨sd_Pc_blind, hrecv, hPre⟩ rfl hn hL.2.1 hsk (lv_room (by rw [sd_map_cat]; exact hcat)) (hd.1 rfl) hf2
              · exact va_runVN (own := own) (C := e0.1.cls) ⟨A1, A2, A3, A4, A6⟩ hMet ⟨va_cnB _ A6 (sd_goodM hmem) rfl rfl rfl (A9.2.2.2.2.2.2.2.2.1 _ _ _ _ hlw) (A6 _ w2) ⟨w5.1, w5.2, w6⟩ hrm, A6 _ (w4 hst).1, A6 _ hsel⟩ ⟨sd_Pc_blind, hrecv, hPre⟩ rfl hn hL.2.1 hsk (lv_room (by rw [sd_map_cat]; exact hcat)) (hd.1 rfl) hf2
            · have hnm : e0.1.name = "<init>" := by
                rw [ab_ini_of he0] at hini
                exact of_decide_eq_true hini
              have hret := w10 hnm
              have w1' : Cond.code e0.1 e0.2.1 e0.2.2.1 none ∈ wd_tbl := by rw [← hret]; exact w1
              have hws : sd_wsM e0 = Cond.code e0.1 e0.2.1 e0.2.2.1 none :: wd_tbl := by unfold sd_wsM; rw [hret]
              rcases hlw with hlw | hlw
              · exact va_runI (own := own) ⟨A1, A2, A3, A4, A6⟩ hMet ⟨callB_of _ A6 (sd_goodM hmem) hws rfl rfl (A6 _ w2) (A6 _ hlw) ⟨w5.1, w5.2, w6⟩ hrm, hnm, A6 _ (w4 hst).1⟩ ⟨sd_Pc_blind, hPre⟩ rfl hn hL.2.1 hsk (lv_room (by rw [sd_map_cat]; exact hcat)) (hd.2.1 rfl) hf2
              · exact va_runIN (own := own) ⟨A1, A2, A3, A4, A6⟩ hMet ⟨va_cnB _ A6 (sd_goodM hmem) hws rfl rfl (A9.2.2.2.2.2.2.2.2.1 _ _ _ _ hlw) (A6 _ w2) ⟨w5.1, w5.2, w6⟩ hrm, hnm, A6 _ (w4 hst).1⟩ ⟨sd_Pc_blind, hPre⟩ rfl hn hL.2.1 hsk (lv_room (by rw [sd_map_cat]; exact hcat)) (hd.2.1 rfl) hf2
          refine sd_after hrun I.1.1 hl1 I.2.1 fun H1 locs1 hW1 hS1 => ?_
          rw [sd_stk]
          exact k L H1 locs1 _ _ ⟨hW1, hS1, by show _ = h1.1.length; omega, by show _ = ab_sl h1; omega⟩ hL
        · cases hx1
end SC2
