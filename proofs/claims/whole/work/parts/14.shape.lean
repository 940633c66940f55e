/-! the shape that both constructors leave; nm: which text the reader has names of (10002: none yet) -/
def ab_SH (nm : Nat) : List ab_C := [
  (7, 8, [some (.ref 1), some (.ref 33), some (.ref 65), some (.ref 67), some (.ref 79), some (.ref 81), some (.ref 90), none]),
  (1, 14, [some (.ref 2), some (.ref 3), some (.ref 4), some (.ref 7), some (.ref 10), some (.ref 11), some (.ref 12), none, none, none, none, none, none, none]),
  (200, 10, [some (.ref 13), some (.ref 15), some (.ref 17), some (.ref 19), some (.ref 21), some (.ref 23), some (.ref 25), some (.ref 27), some (.ref 29), some (.ref 31)]),
  (100, 4, []),
  (2, 4, [some (.ref 10000), some (.ref 5), some (.ref 6), none]),
  (100, 50, []),
  (100, 50, []),
  (2, 4, [some (.ref 10001), some (.ref 8), some (.ref 9), none]),
  (100, 50, []),
  (100, 50, []),
  (100, 50, []),
  (100, 20, []),
  (100, 10, []),
  (0, 8, [none, some (.ref 14), none, none, none, none, none, none]),
  (100, 4, []),
  (0, 8, [none, some (.ref 16), none, none, none, none, none, none]),
  (100, 4, []),
  (0, 8, [none, some (.ref 18), none, none, none, none, none, none]),
  (100, 4, []),
  (0, 8, [none, some (.ref 20), none, none, none, none, none, none]),
  (100, 4, []),
  (0, 8, [none, some (.ref 22), none, none, none, none, none, none]),
  (100, 4, []),
  (0, 8, [none, some (.ref 24), none, none, none, none, none, none]),
  (100, 4, []),
  (0, 8, [none, some (.ref 26), none, none, none, none, none, none]),
  (100, 4, []),
  (0, 8, [none, some (.ref 28), none, none, none, none, none, none]),
  (100, 4, []),
  (0, 8, [none, some (.ref 30), none, none, none, none, none, none]),
  (100, 4, []),
  (0, 8, [none, some (.ref 32), none, none, none, none, none, none]),
  (100, 4, []),
  (1, 14, [some (.ref 34), some (.ref 35), some (.ref 36), some (.ref 39), some (.ref 42), some (.ref 43), some (.ref 44), none, none, none, none, none, none, none]),
  (200, 10, [some (.ref 45), some (.ref 47), some (.ref 49), some (.ref 51), some (.ref 53), some (.ref 55), some (.ref 57), some (.ref 59), some (.ref 61), some (.ref 63)]),
  (100, 4, []),
  (2, 4, [some (.ref 10000), some (.ref 37), some (.ref 38), none]),
  (100, 50, []),
  (100, 50, []),
  (2, 4, [some (.ref 10001), some (.ref 40), some (.ref 41), none]),
  (100, 50, []),
  (100, 50, []),
  (100, 50, []),
  (100, 20, []),
  (100, 10, []),
  (0, 8, [none, some (.ref 46), none, none, none, none, none, none]),
  (100, 4, []),
  (0, 8, [none, some (.ref 48), none, none, none, none, none, none]),
  (100, 4, []),
  (0, 8, [none, some (.ref 50), none, none, none, none, none, none]),
  (100, 4, []),
  (0, 8, [none, some (.ref 52), none, none, none, none, none, none]),
  (100, 4, []),
  (0, 8, [none, some (.ref 54), none, none, none, none, none, none]),
  (100, 4, []),
  (0, 8, [none, some (.ref 56), none, none, none, none, none, none]),
  (100, 4, []),
  (0, 8, [none, some (.ref 58), none, none, none, none, none, none]),
  (100, 4, []),
  (0, 8, [none, some (.ref 60), none, none, none, none, none, none]),
  (100, 4, []),
  (0, 8, [none, some (.ref 62), none, none, none, none, none, none]),
  (100, 4, []),
  (0, 8, [none, some (.ref 64), none, none, none, none, none, none]),
  (100, 4, []),
  (3, 8, [some (.ref 66), none, some (.ref 10), some (.ref nm), none, none, none, none]),
  (100, 50, []),
  (5, 6, [none, none, some (.ref 1), some (.ref 68), some (.ref 69), some (.ref 70)]),
  (200, 4, [some (.ref 71), some (.ref 73), some (.ref 75), some (.ref 77)]),
  (100, 10, []),
  (100, 4, []),
  (0, 8, [none, some (.ref 72), none, none, none, none, none, none]),
  (100, 4, []),
  (0, 8, [none, some (.ref 74), none, none, none, none, none, none]),
  (100, 4, []),
  (0, 8, [none, some (.ref 76), none, none, none, none, none, none]),
  (100, 4, []),
  (0, 8, [none, some (.ref 78), none, none, none, none, none, none]),
  (100, 4, []),
  (6, 5, [some (.ref 80), none, none, none, none]),
  (100, 40, []),
  (204, 4, [some (.ref 82), some (.ref 84), some (.ref 86), some (.ref 88)]),
  (4, 3, [some (.ref 83), none, none]),
  (100, 40, []),
  (4, 3, [some (.ref 85), none, none]),
  (100, 40, []),
  (4, 3, [some (.ref 87), none, none]),
  (100, 40, []),
  (4, 3, [some (.ref 89), none, none]),
  (100, 40, []),
  (100, 6, []),
  (8, 28, [some (.ref 92), some (.ref 93), some (.ref 94), some (.ref 95), none, none, some (.ref 96), none, some (.ref 97), none, none, none, none, none, none, none, none, some (.ref 98), some (.ref 99), some (.ref 100), some (.ref 101), some (.ref 102), some (.ref 103), some (.ref 104), none, none, none, none]),
  (100, 283, []),
  (100, 283, []),
  (100, 283, []),
  (100, 283, []),
  (100, 6, []),
  (100, 10, []),
  (100, 10, []),
  (100, 1415, []),
  (100, 4, []),
  (100, 4, []),
  (100, 160, []),
  (100, 40, []),
  (100, 40, [])]
abbrev k_Fo : Nat := 0
abbrev k_La : Nat := 1
abbrev k_La_road : Nat := 2
abbrev k_La_fear : Nat := 3
abbrev k_La_title : Nat := 4
abbrev k_La_title_code : Nat := 5
abbrev k_La_title_stack : Nat := 6
abbrev k_La_rent : Nat := 7
abbrev k_La_rent_code : Nat := 8
abbrev k_La_rent_stack : Nat := 9
abbrev k_La_tape : Nat := 10
abbrev k_La_waiting : Nat := 11
abbrev k_La_before : Nat := 12
abbrev k_La_f0 : Nat := 13
abbrev k_La_f0_told : Nat := 14
abbrev k_La_f1 : Nat := 15
abbrev k_La_f1_told : Nat := 16
abbrev k_La_f2 : Nat := 17
abbrev k_La_f2_told : Nat := 18
abbrev k_La_f3 : Nat := 19
abbrev k_La_f3_told : Nat := 20
abbrev k_La_f4 : Nat := 21
abbrev k_La_f4_told : Nat := 22
abbrev k_La_f5 : Nat := 23
abbrev k_La_f5_told : Nat := 24
abbrev k_La_f6 : Nat := 25
abbrev k_La_f6_told : Nat := 26
abbrev k_La_f7 : Nat := 27
abbrev k_La_f7_told : Nat := 28
abbrev k_La_f8 : Nat := 29
abbrev k_La_f8_told : Nat := 30
abbrev k_La_f9 : Nat := 31
abbrev k_La_f9_told : Nat := 32
abbrev k_Ke : Nat := 33
abbrev k_Ke_road : Nat := 34
abbrev k_Ke_fear : Nat := 35
abbrev k_Ke_title : Nat := 36
abbrev k_Ke_title_code : Nat := 37
abbrev k_Ke_title_stack : Nat := 38
abbrev k_Ke_rent : Nat := 39
abbrev k_Ke_rent_code : Nat := 40
abbrev k_Ke_rent_stack : Nat := 41
abbrev k_Ke_tape : Nat := 42
abbrev k_Ke_waiting : Nat := 43
abbrev k_Ke_before : Nat := 44
abbrev k_Ke_f0 : Nat := 45
abbrev k_Ke_f0_told : Nat := 46
abbrev k_Ke_f1 : Nat := 47
abbrev k_Ke_f1_told : Nat := 48
abbrev k_Ke_f2 : Nat := 49
abbrev k_Ke_f2_told : Nat := 50
abbrev k_Ke_f3 : Nat := 51
abbrev k_Ke_f3_told : Nat := 52
abbrev k_Ke_f4 : Nat := 53
abbrev k_Ke_f4_told : Nat := 54
abbrev k_Ke_f5 : Nat := 55
abbrev k_Ke_f5_told : Nat := 56
abbrev k_Ke_f6 : Nat := 57
abbrev k_Ke_f6_told : Nat := 58
abbrev k_Ke_f7 : Nat := 59
abbrev k_Ke_f7_told : Nat := 60
abbrev k_Ke_f8 : Nat := 61
abbrev k_Ke_f8_told : Nat := 62
abbrev k_Ke_f9 : Nat := 63
abbrev k_Ke_f9_told : Nat := 64
abbrev k_Re : Nat := 65
abbrev k_Re_code : Nat := 66
abbrev k_Th : Nat := 67
abbrev k_Th_spares : Nat := 68
abbrev k_Th_needs : Nat := 69
abbrev k_Th_fear : Nat := 70
abbrev k_Th_s0 : Nat := 71
abbrev k_Th_s0_told : Nat := 72
abbrev k_Th_s1 : Nat := 73
abbrev k_Th_s1_told : Nat := 74
abbrev k_Th_s2 : Nat := 75
abbrev k_Th_s2_told : Nat := 76
abbrev k_Th_s3 : Nat := 77
abbrev k_Th_s3_told : Nat := 78
abbrev k_Vo : Nat := 79
abbrev k_Vo_trace : Nat := 80
abbrev k_Sh : Nat := 81
abbrev k_Sh0 : Nat := 82
abbrev k_Sh0_numbers : Nat := 83
abbrev k_Sh1 : Nat := 84
abbrev k_Sh1_numbers : Nat := 85
abbrev k_Sh2 : Nat := 86
abbrev k_Sh2_numbers : Nat := 87
abbrev k_Sh3 : Nat := 88
abbrev k_Sh3_numbers : Nat := 89
abbrev k_Fo_errors : Nat := 90
abbrev k_Mo : Nat := 91
abbrev k_Mo_row : Nat := 92
abbrev k_Mo_kept : Nat := 93
abbrev k_Mo_tried : Nat := 94
abbrev k_Mo_before : Nat := 95
abbrev k_Mo_found : Nat := 96
abbrev k_Mo_were : Nat := 97
abbrev k_Mo_need : Nat := 98
abbrev k_Mo_ahead : Nat := 99
abbrev k_Mo_bitsOf : Nat := 100
abbrev k_Mo_sizeOf : Nat := 101
abbrev k_Mo_sheets : Nat := 102
abbrev k_Mo_moved : Nat := 103
abbrev k_Mo_traced : Nat := 104
abbrev j_Fi_number : Nat := 0
abbrev j_Fi_kind : Nat := 2
abbrev j_Fi_m : Nat := 3
abbrev j_Fi_acres : Nat := 4
abbrev j_Fi_ditch : Nat := 5
abbrev j_Fi_first : Nat := 6
abbrev j_Fi_last : Nat := 7
abbrev j_La_fields : Nat := 7
abbrev j_La_pace : Nat := 8
abbrev j_La_minute : Nat := 9
abbrev j_La_lost : Nat := 10
abbrev j_La_z : Nat := 11
abbrev j_La_tapeBytes : Nat := 12
abbrev j_La_waits : Nat := 13
abbrev j_Lw_signs : Nat := 3
abbrev j_Re_signs : Nat := 1
abbrev j_Re_bytes : Nat := 4
abbrev j_Re_at : Nat := 5
abbrev j_Re_open : Nat := 6
abbrev j_Re_bad : Nat := 7
abbrev j_Sh_bits : Nat := 1
abbrev j_Sh_size : Nat := 2
abbrev j_Th_found : Nat := 0
abbrev j_Th_firstFound : Nat := 1
abbrev j_Vo_bodies : Nat := 1
abbrev j_Vo_kind : Nat := 2
abbrev j_Vo_m : Nat := 3
abbrev j_Vo_n : Nat := 4
abbrev j_Fo_images : Nat := 7
abbrev j_Mo_isKept : Nat := 4
abbrev j_Mo_images : Nat := 5
abbrev j_Mo_mute : Nat := 7
abbrev j_Mo_use : Nat := 9
abbrev j_Mo_at : Nat := 10
abbrev j_Mo_end : Nat := 11
abbrev j_Mo_open : Nat := 12
abbrev j_Mo_namedA : Nat := 13
abbrev j_Mo_namedB : Nat := 14
abbrev j_Mo_namedC : Nat := 15
abbrev j_Mo_good : Nat := 16
abbrev j_Mo_tracedMany : Nat := 24
abbrev j_Mo_voiceKind : Nat := 25
abbrev j_Mo_voiceN : Nat := 26
abbrev j_Mo_voiceM : Nat := 27
def ab_h0 : ab_H := ([(7, 8, [some .null, some .null, some .null, some .null, some .null, some .null, some .null, none])], fun _ _ => 0)
def ab_h1 (X : ab_X) : Option ab_H := (ab_calE X 100000 12 y_Fo_init [.ref 0] ab_h0).map (fun r => r.2)
def ab_h2 (X : ab_X) : Option ab_H := match ab_h1 X with
  | some h => ab_alc h (8, 28, (ab_DF[8]?).getD [])
  | none => none
def ab_h3 (X : ab_X) : Option ab_H := match ab_h2 X with
  | some h => (ab_calE X 100000 12 y_Mo_init [.ref k_Mo] h).map (fun r => r.2)
  | none => none
/-- what the memory holds at first, where it isn't 0 -/
def ab_m0 (k j : Nat) : Int32 :=
  if (13 ≤ k ∧ k ≤ 32 ∧ k % 2 = 1) ∨ (45 ≤ k ∧ k ≤ 64 ∧ k % 2 = 1) ∨ (71 ≤ k ∧ k ≤ 78 ∧ k % 2 = 1) then
    (if j = 0 then (if k < 40 then nI ((k - 13) / 2) else if k < 70 then nI ((k - 45) / 2) else nI ((k - 71) / 2)) else if j = 4 then 1 else if j = 6 ∨ j = 7 then -1 else 0)
  else if k = 3 ∨ k = 35 then nI j
  else if k = 1 ∨ k = 33 then (if j = 8 then 4 else if j = 11 then 1 else 0)
  else if k = 4 ∨ k = 36 then (if j = 3 then 3 else 0)
  else if k = 5 ∨ k = 37 then (if j = 0 then 10000 else if j = 1 then 2 else if j = 2 then 20062 else 0)
  else if k = 7 ∨ k = 39 then (if j = 3 then 1 else 0)
  else if k = 8 ∨ k = 40 then (if j = 0 then 10000 else 0)
  else if k = k_Mo then (if j = j_Mo_mute then -1 else 0)
  else if k = k_Mo_row then (if j = 3 then 1 else if j = 6 ∨ j = 7 then -1 else if j = 8 then 4 else if 9 ≤ j ∧ j < 13 then nI (j - 9) else 0)
  else 0
def ab_chk (h : ab_H) : Bool := decide (h.1 = ab_SH 10002) && (List.range 105).all (fun k => match h.1[k]? with
  | some (_, n, rs) => (List.range n).all (fun j => match rs[j]? with
    | some (some _) => true
    | _ => decide (h.2 k j = ab_m0 k j))
  | none => false)
theorem ab_h3_ok : (match ab_h3 none with | some h => ab_chk h | none => false) = true := by decide +kernel

