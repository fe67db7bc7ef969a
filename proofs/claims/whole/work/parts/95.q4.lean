def ltL : List Int32 := [112, 108, 97, 121, 101, 114, 32, 32, 99, 111, 118, 101, 114, 32, 32, 32, 112, 97, 103, 101, 32, 32, 32, 32, 115, 101, 99, 111, 110, 100, 32, 32, 112, 114, 111, 109, 112, 116, 101, 114, 115, 116, 97, 114, 32, 32, 32, 32, 112, 97, 114, 116, 32, 32, 32, 32, 104, 101, 108, 112, 32, 32, 32, 32, 98, 111, 111, 107, 32, 32, 32, 32, 108, 101, 97, 115, 116, 32, 32, 32, 116, 104, 114, 111, 97, 116, 32, 32, 111, 102, 32, 32, 32, 32, 32, 32, 107, 110, 111, 119, 115, 32, 32, 32, 105, 108, 108, 32, 32, 32, 32, 32]
def ltr (j : Nat) : Int32 := ltL.getD j 0
def mP (j : Nat) (M : Nat → Nat → Int32) : Nat → Nat → Int32 := fun q => if q = 62 then (fun x => if x < j then ltr x else 0) else M q
theorem mP_0 {M : Nat → Nat → Int32} (h : M 62 = fun _ => 0) : M = mP 0 M := funext fun q => by
  unfold mP
  by_cases e : q = 62
  · rw [if_pos e, e, h]
    funext x
    rw [if_neg (by omega)]
  · rw [if_neg e]
theorem mP_n {M : Nat → Nat → Int32} {j m : Nat} {f : Nat → Int32} (h : m ≠ 62) (hm : M m = f) : mP j M m = f := (if_neg h).trans hm
theorem mP_s {M : Nat → Nat → Int32} {j n : Nat} {l : List (Nat × Nat × Nat)} {v : Int32} (hv : v = ltr j) : mSet (Nw n l (mP j M)) 62 j v = Nw n l (mP (j + 1) M) := by
  refine congrArg (fun F => ((n, sh0, rSL l, F) : pS)) (funext fun q => ?_)
  show (if q = 62 then upd (mP j M q) j v else mP j M q) = mP (j + 1) M q
  unfold mP
  by_cases e : q = 62
  · rw [if_pos e, if_pos e, if_pos e]
    funext x
    unfold upd
    show (if x = j then v else if x < j then ltr x else 0) = if x < j + 1 then ltr x else 0
    by_cases c : x = j
    · rw [if_pos c, if_pos (by omega), hv, c]
    · rw [if_neg c]
      by_cases d : x < j
      · rw [if_pos d, if_pos (by omega)]
      · rw [if_neg d, if_neg (by omega)]
  · rw [if_neg e, if_neg e, if_neg e]
theorem n_M {g : pG} {m : pM} {E : pE} {pc : Nat} {L : pL} {st : List Value} {k c n : Nat} {l : List (Nat × Nat × Nat)} {M M' : Nat → Nat → Int32} (h : M = M') (kk : PW g m E pc L st (Nw n l M') k c) : PW g m E pc L st (Nw n l M) k c := by rw [h]; exact kk
theorem n_let {g : pG} {m : pM} {E : pE} {pc : Nat} {L : pL} {st : List Value} {k c n : Nat} {l : List (Nat × Nat × Nat)} {M : Nat → Nat → Int32} (j : Nat) {v : Int32} (hv : v = ltr j) (kk : PW g m E pc L st (Nw n l (mP (j + 1) M)) k c) : PW g m E pc L st (mSet (Nw n l (mP j M)) 62 j v) k c := by rw [mP_s hv]; exact kk
def lM : List (Nat × Nat × Nat) := [(54, 23, 70), (54, 22, 69), (54, 21, 68), (54, 20, 67), (54, 19, 66), (54, 18, 65), (54, 16, 64), (54, 15, 63), (54, 10, 62), (54, 8, 61), (54, 6, 60), (54, 5, 59), (54, 3, 58), (54, 2, 57), (54, 1, 56), (54, 0, 55)] ++ lC
theorem rSL_k {i k : Nat} : ∀ l : List (Nat × Nat × Nat), l.all (fun e => decide (e.2.1 < 27)) = true → 27 ≤ k → rSL l i k = none
  | [], _, _ => rfl
  | e :: l, h, hk => by
    rw [List.all_cons, Bool.and_eq_true] at h
    have h1 := of_decide_eq_true h.1
    show (if i = e.1 then va_up (rSL l i) e.2.1 (some e.2.2) else rSL l i) k = none
    by_cases c : i = e.1
    · rw [if_pos c]
      show (if k = e.2.1 then _ else rSL l i k) = none
      rw [if_neg (by omega)]
      exact rSL_k l h.2 hk
    · rw [if_neg c]
      exact rSL_k l h.2 hk
set_option maxRecDepth 20000 in
theorem lM_rf : rSL lM = rf0 := by
  funext i k
  by_cases hi : i < 71
  · by_cases hk : k < 27
    · exact (by decide +kernel : ∀ i, i < 71 → ∀ k, k < 27 → rSL lM i k = rf0 i k) i hi k hk
    · rw [rSL_k lM (by decide +kernel) (by omega)]
      have h := (by decide +kernel : ∀ i, i < 71 → (rfL.getD i []).length ≤ 27) i hi
      unfold rf0
      rw [List.getD_eq_getElem?_getD, List.getElem?_eq_none (by omega)]
      rfl
  · rw [rSL_lt (b := 71) lM (by decide +kernel) i (by omega)]
    unfold rf0
    rw [List.getD_eq_getElem?_getD (l := rfL), List.getElem?_eq_none (by show 71 ≤ i; omega)]
    rfl
theorem nw_gs {M : Nat → Nat → Int32} : Nw 71 lM M = Gs M := by
  unfold Nw Gs
  rw [lM_rf]
theorem Gs_e {S : pS} (h : sOk S) : S = Gs S.2.2.2 := by
  obtain ⟨a, b, c, d⟩ := S
  obtain ⟨h1, h2, h3⟩ := h
  dsimp only at h1 h2 h3
  subst h1 h2 h3
  rfl
def m1A : Nat → Int32 := upd (upd (upd (upd (fun _ => 0) 0 (-1)) 1 (-1)) 2 (-1)) 3 (-1)
def zM : List Nat := [54, 56, 57, 58, 59, 60, 61, 63, 64, 66, 67, 69, 70]
def reB : Nat → Int32 := upd (begR (fun _ => 0)) 5 1
set_option maxRecDepth 20000 in
set_option maxHeartbeats 4000000 in
theorem s_X12_init (g : pG) {M : Nat → Nat → Int32} (hM : ∀ q, 54 ≤ q → M q = fun _ => 0) : MS g mX12_init 2 16 983 [.ref 54] (Nw 55 lC M) (eV (fun S1 => ∃ M1, S1 = Gs M1 ∧ (∀ q, q < 54 → M1 q = M q) ∧ M1 55 = reB ∧ M1 62 = (fun x => if x < 112 then ltr x else 0) ∧ M1 65 = m1A ∧ M1 68 = m1A ∧ ∀ q, q ∈ zM → M1 q = fun _ => 0)) := by
  refine MS.of pn_X12 (Nat.le_of_ble_eq_true rfl) ?_
  refine r_aload_n dX12_init_0 rfl rfl ?_
  refine r_objInit dX12_init_1 ml_X12_1 mi_Obj cd_Obj (Nat.le_of_ble_eq_true rfl) (Nat.le_of_ble_eq_true rfl) (Nat.le_of_ble_eq_true rfl) ?_
  refine r_aload_n dX12_init_4 rfl rfl ?_
  refine r_bipush (v := 104) dX12_init_5 (by decide) ?_
  refine n_newA (N := 104) (t := 0) dX12_init_7 rfl (by decide) rfl ac_int rfl ra_int rfl (by decide) (by decide) (by decide) (Nat.le_of_ble_eq_true rfl) (Nat.le_of_ble_eq_true rfl) rfl (rSL_all _ (by decide +kernel)) (by repeat' first | exact hM _ (by omega) | refine mU_n (by omega) ?_ | refine mP_n (by omega) ?_) ?_
  refine n_putR (q := 55) (i := 54) dX12_init_9 (ci := 12) (kf := 0) rfl (Nat.le_of_ble_eq_true rfl) (by decide) (by decide) rfl fl_X12_9 rfl rfl rfl rfl ?_
  refine r_aload_n dX12_init_12 rfl rfl ?_
  refine r_bipush (v := 104) dX12_init_13 (by decide) ?_
  refine n_newA (N := 104) (t := 0) dX12_init_15 rfl (by decide) rfl ac_int rfl ra_int rfl (by decide) (by decide) (by decide) (Nat.le_of_ble_eq_true rfl) (Nat.le_of_ble_eq_true rfl) rfl (rSL_all _ (by decide +kernel)) (by repeat' first | exact hM _ (by omega) | refine mU_n (by omega) ?_ | refine mP_n (by omega) ?_) ?_
  refine n_putR (q := 56) (i := 54) dX12_init_17 (ci := 12) (kf := 1) rfl (Nat.le_of_ble_eq_true rfl) (by decide) (by decide) rfl fl_X12_13 rfl rfl rfl rfl ?_
  refine r_aload_n dX12_init_20 rfl rfl ?_
  refine r_bipush (v := 104) dX12_init_21 (by decide) ?_
  refine n_newA (N := 104) (t := 0) dX12_init_23 rfl (by decide) rfl ac_int rfl ra_int rfl (by decide) (by decide) (by decide) (Nat.le_of_ble_eq_true rfl) (Nat.le_of_ble_eq_true rfl) rfl (rSL_all _ (by decide +kernel)) (by repeat' first | exact hM _ (by omega) | refine mU_n (by omega) ?_ | refine mP_n (by omega) ?_) ?_
  refine n_putR (q := 57) (i := 54) dX12_init_25 (ci := 12) (kf := 2) rfl (Nat.le_of_ble_eq_true rfl) (by decide) (by decide) rfl fl_X12_16 rfl rfl rfl rfl ?_
  refine r_aload_n dX12_init_28 rfl rfl ?_
  refine r_bipush (v := 104) dX12_init_29 (by decide) ?_
  refine n_newA (N := 104) (t := 0) dX12_init_31 rfl (by decide) rfl ac_int rfl ra_int rfl (by decide) (by decide) (by decide) (Nat.le_of_ble_eq_true rfl) (Nat.le_of_ble_eq_true rfl) rfl (rSL_all _ (by decide +kernel)) (by repeat' first | exact hM _ (by omega) | refine mU_n (by omega) ?_ | refine mP_n (by omega) ?_) ?_
  refine n_putR (q := 58) (i := 54) dX12_init_33 (ci := 12) (kf := 3) rfl (Nat.le_of_ble_eq_true rfl) (by decide) (by decide) rfl fl_X12_19 rfl rfl rfl rfl ?_
  refine r_aload_n dX12_init_36 rfl rfl ?_
  refine r_bipush (v := 8) dX12_init_37 (by decide) ?_
  refine n_newA (N := 8) (t := 0) dX12_init_39 rfl (by decide) rfl ac_int rfl ra_int rfl (by decide) (by decide) (by decide) (Nat.le_of_ble_eq_true rfl) (Nat.le_of_ble_eq_true rfl) rfl (rSL_all _ (by decide +kernel)) (by repeat' first | exact hM _ (by omega) | refine mU_n (by omega) ?_ | refine mP_n (by omega) ?_) ?_
  refine n_putR (q := 59) (i := 54) dX12_init_41 (ci := 12) (kf := 5) rfl (Nat.le_of_ble_eq_true rfl) (by decide) (by decide) rfl fl_X12_22 rfl rfl rfl rfl ?_
  refine r_aload_n dX12_init_44 rfl rfl ?_
  refine r_bipush (v := 8) dX12_init_45 (by decide) ?_
  refine n_newA (N := 8) (t := 0) dX12_init_47 rfl (by decide) rfl ac_int rfl ra_int rfl (by decide) (by decide) (by decide) (Nat.le_of_ble_eq_true rfl) (Nat.le_of_ble_eq_true rfl) rfl (rSL_all _ (by decide +kernel)) (by repeat' first | exact hM _ (by omega) | refine mU_n (by omega) ?_ | refine mP_n (by omega) ?_) ?_
  refine n_putR (q := 60) (i := 54) dX12_init_49 (ci := 12) (kf := 6) rfl (Nat.le_of_ble_eq_true rfl) (by decide) (by decide) rfl fl_X12_25 rfl rfl rfl rfl ?_
  refine r_aload_n dX12_init_52 rfl rfl ?_
  refine r_sipush (v := 200) dX12_init_53 (by decide) ?_
  refine n_newA (N := 200) (t := 0) dX12_init_56 rfl (by decide) rfl ac_int rfl ra_int rfl (by decide) (by decide) (by decide) (Nat.le_of_ble_eq_true rfl) (Nat.le_of_ble_eq_true rfl) rfl (rSL_all _ (by decide +kernel)) (by repeat' first | exact hM _ (by omega) | refine mU_n (by omega) ?_ | refine mP_n (by omega) ?_) ?_
  refine n_putR (q := 61) (i := 54) dX12_init_58 (ci := 12) (kf := 8) rfl (Nat.le_of_ble_eq_true rfl) (by decide) (by decide) rfl fl_X12_28 rfl rfl rfl rfl ?_
  refine r_aload_n dX12_init_61 rfl rfl ?_
  refine r_bipush (v := 112) dX12_init_62 (by decide) ?_
  refine n_newA (N := 112) (t := 2) dX12_init_64 rfl (by decide) rfl ac_char rfl ra_char rfl (by decide) (by decide) (by decide) (Nat.le_of_ble_eq_true rfl) (Nat.le_of_ble_eq_true rfl) rfl (rSL_all _ (by decide +kernel)) (by repeat' first | exact hM _ (by omega) | refine mU_n (by omega) ?_ | refine mP_n (by omega) ?_) ?_
  refine n_M (mP_0 (hM 62 (by omega))) ?_
  refine r_dup dX12_init_66 rfl ?_
  refine r_iconst (v := 0) dX12_init_67 (by decide) ?_
  refine r_bipush (v := 112) dX12_init_68 (by decide) ?_
  refine r_cast (j := 0) dX12_init_70 rfl (Nat.le_of_ble_eq_true rfl) rfl (by decide) (by decide) ?_
  refine n_let 0 rfl ?_
  refine r_dup dX12_init_71 rfl ?_
  refine r_iconst (v := 1) dX12_init_72 (by decide) ?_
  refine r_bipush (v := 108) dX12_init_73 (by decide) ?_
  refine r_cast (j := 1) dX12_init_75 rfl (Nat.le_of_ble_eq_true rfl) rfl (by decide) (by decide) ?_
  refine n_let 1 rfl ?_
  refine r_dup dX12_init_76 rfl ?_
  refine r_iconst (v := 2) dX12_init_77 (by decide) ?_
  refine r_bipush (v := 97) dX12_init_78 (by decide) ?_
  refine r_cast (j := 2) dX12_init_80 rfl (Nat.le_of_ble_eq_true rfl) rfl (by decide) (by decide) ?_
  refine n_let 2 rfl ?_
  refine r_dup dX12_init_81 rfl ?_
  refine r_iconst (v := 3) dX12_init_82 (by decide) ?_
  refine r_bipush (v := 121) dX12_init_83 (by decide) ?_
  refine r_cast (j := 3) dX12_init_85 rfl (Nat.le_of_ble_eq_true rfl) rfl (by decide) (by decide) ?_
  refine n_let 3 rfl ?_
  refine r_dup dX12_init_86 rfl ?_
  refine r_iconst (v := 4) dX12_init_87 (by decide) ?_
  refine r_bipush (v := 101) dX12_init_88 (by decide) ?_
  refine r_cast (j := 4) dX12_init_90 rfl (Nat.le_of_ble_eq_true rfl) rfl (by decide) (by decide) ?_
  refine n_let 4 rfl ?_
  refine r_dup dX12_init_91 rfl ?_
  refine r_iconst (v := 5) dX12_init_92 (by decide) ?_
  refine r_bipush (v := 114) dX12_init_93 (by decide) ?_
  refine r_cast (j := 5) dX12_init_95 rfl (Nat.le_of_ble_eq_true rfl) rfl (by decide) (by decide) ?_
  refine n_let 5 rfl ?_
  refine r_dup dX12_init_96 rfl ?_
  refine r_bipush (v := 6) dX12_init_97 (by decide) ?_
  refine r_bipush (v := 32) dX12_init_99 (by decide) ?_
  refine r_cast (j := 6) dX12_init_101 rfl (Nat.le_of_ble_eq_true rfl) rfl (by decide) (by decide) ?_
  refine n_let 6 rfl ?_
  refine r_dup dX12_init_102 rfl ?_
  refine r_bipush (v := 7) dX12_init_103 (by decide) ?_
  refine r_bipush (v := 32) dX12_init_105 (by decide) ?_
  refine r_cast (j := 7) dX12_init_107 rfl (Nat.le_of_ble_eq_true rfl) rfl (by decide) (by decide) ?_
  refine n_let 7 rfl ?_
  refine r_dup dX12_init_108 rfl ?_
  refine r_bipush (v := 8) dX12_init_109 (by decide) ?_
  refine r_bipush (v := 99) dX12_init_111 (by decide) ?_
  refine r_cast (j := 8) dX12_init_113 rfl (Nat.le_of_ble_eq_true rfl) rfl (by decide) (by decide) ?_
  refine n_let 8 rfl ?_
  refine r_dup dX12_init_114 rfl ?_
  refine r_bipush (v := 9) dX12_init_115 (by decide) ?_
  refine r_bipush (v := 111) dX12_init_117 (by decide) ?_
  refine r_cast (j := 9) dX12_init_119 rfl (Nat.le_of_ble_eq_true rfl) rfl (by decide) (by decide) ?_
  refine n_let 9 rfl ?_
  refine r_dup dX12_init_120 rfl ?_
  refine r_bipush (v := 10) dX12_init_121 (by decide) ?_
  refine r_bipush (v := 118) dX12_init_123 (by decide) ?_
  refine r_cast (j := 10) dX12_init_125 rfl (Nat.le_of_ble_eq_true rfl) rfl (by decide) (by decide) ?_
  refine n_let 10 rfl ?_
  refine r_dup dX12_init_126 rfl ?_
  refine r_bipush (v := 11) dX12_init_127 (by decide) ?_
  refine r_bipush (v := 101) dX12_init_129 (by decide) ?_
  refine r_cast (j := 11) dX12_init_131 rfl (Nat.le_of_ble_eq_true rfl) rfl (by decide) (by decide) ?_
  refine n_let 11 rfl ?_
  refine r_dup dX12_init_132 rfl ?_
  refine r_bipush (v := 12) dX12_init_133 (by decide) ?_
  refine r_bipush (v := 114) dX12_init_135 (by decide) ?_
  refine r_cast (j := 12) dX12_init_137 rfl (Nat.le_of_ble_eq_true rfl) rfl (by decide) (by decide) ?_
  refine n_let 12 rfl ?_
  refine r_dup dX12_init_138 rfl ?_
  refine r_bipush (v := 13) dX12_init_139 (by decide) ?_
  refine r_bipush (v := 32) dX12_init_141 (by decide) ?_
  refine r_cast (j := 13) dX12_init_143 rfl (Nat.le_of_ble_eq_true rfl) rfl (by decide) (by decide) ?_
  refine n_let 13 rfl ?_
  refine r_dup dX12_init_144 rfl ?_
  refine r_bipush (v := 14) dX12_init_145 (by decide) ?_
  refine r_bipush (v := 32) dX12_init_147 (by decide) ?_
  refine r_cast (j := 14) dX12_init_149 rfl (Nat.le_of_ble_eq_true rfl) rfl (by decide) (by decide) ?_
  refine n_let 14 rfl ?_
  refine r_dup dX12_init_150 rfl ?_
  refine r_bipush (v := 15) dX12_init_151 (by decide) ?_
  refine r_bipush (v := 32) dX12_init_153 (by decide) ?_
  refine r_cast (j := 15) dX12_init_155 rfl (Nat.le_of_ble_eq_true rfl) rfl (by decide) (by decide) ?_
  refine n_let 15 rfl ?_
  refine r_dup dX12_init_156 rfl ?_
  refine r_bipush (v := 16) dX12_init_157 (by decide) ?_
  refine r_bipush (v := 112) dX12_init_159 (by decide) ?_
  refine r_cast (j := 16) dX12_init_161 rfl (Nat.le_of_ble_eq_true rfl) rfl (by decide) (by decide) ?_
  refine n_let 16 rfl ?_
  refine r_dup dX12_init_162 rfl ?_
  refine r_bipush (v := 17) dX12_init_163 (by decide) ?_
  refine r_bipush (v := 97) dX12_init_165 (by decide) ?_
  refine r_cast (j := 17) dX12_init_167 rfl (Nat.le_of_ble_eq_true rfl) rfl (by decide) (by decide) ?_
  refine n_let 17 rfl ?_
  refine r_dup dX12_init_168 rfl ?_
  refine r_bipush (v := 18) dX12_init_169 (by decide) ?_
  refine r_bipush (v := 103) dX12_init_171 (by decide) ?_
  refine r_cast (j := 18) dX12_init_173 rfl (Nat.le_of_ble_eq_true rfl) rfl (by decide) (by decide) ?_
  refine n_let 18 rfl ?_
  refine r_dup dX12_init_174 rfl ?_
  refine r_bipush (v := 19) dX12_init_175 (by decide) ?_
  refine r_bipush (v := 101) dX12_init_177 (by decide) ?_
  refine r_cast (j := 19) dX12_init_179 rfl (Nat.le_of_ble_eq_true rfl) rfl (by decide) (by decide) ?_
  refine n_let 19 rfl ?_
  refine r_dup dX12_init_180 rfl ?_
  refine r_bipush (v := 20) dX12_init_181 (by decide) ?_
  refine r_bipush (v := 32) dX12_init_183 (by decide) ?_
  refine r_cast (j := 20) dX12_init_185 rfl (Nat.le_of_ble_eq_true rfl) rfl (by decide) (by decide) ?_
  refine n_let 20 rfl ?_
  refine r_dup dX12_init_186 rfl ?_
  refine r_bipush (v := 21) dX12_init_187 (by decide) ?_
  refine r_bipush (v := 32) dX12_init_189 (by decide) ?_
  refine r_cast (j := 21) dX12_init_191 rfl (Nat.le_of_ble_eq_true rfl) rfl (by decide) (by decide) ?_
  refine n_let 21 rfl ?_
  refine r_dup dX12_init_192 rfl ?_
  refine r_bipush (v := 22) dX12_init_193 (by decide) ?_
  refine r_bipush (v := 32) dX12_init_195 (by decide) ?_
  refine r_cast (j := 22) dX12_init_197 rfl (Nat.le_of_ble_eq_true rfl) rfl (by decide) (by decide) ?_
  refine n_let 22 rfl ?_
  refine r_dup dX12_init_198 rfl ?_
  refine r_bipush (v := 23) dX12_init_199 (by decide) ?_
  refine r_bipush (v := 32) dX12_init_201 (by decide) ?_
  refine r_cast (j := 23) dX12_init_203 rfl (Nat.le_of_ble_eq_true rfl) rfl (by decide) (by decide) ?_
  refine n_let 23 rfl ?_
  refine r_dup dX12_init_204 rfl ?_
  refine r_bipush (v := 24) dX12_init_205 (by decide) ?_
  refine r_bipush (v := 115) dX12_init_207 (by decide) ?_
  refine r_cast (j := 24) dX12_init_209 rfl (Nat.le_of_ble_eq_true rfl) rfl (by decide) (by decide) ?_
  refine n_let 24 rfl ?_
  refine r_dup dX12_init_210 rfl ?_
  refine r_bipush (v := 25) dX12_init_211 (by decide) ?_
  refine r_bipush (v := 101) dX12_init_213 (by decide) ?_
  refine r_cast (j := 25) dX12_init_215 rfl (Nat.le_of_ble_eq_true rfl) rfl (by decide) (by decide) ?_
  refine n_let 25 rfl ?_
  refine r_dup dX12_init_216 rfl ?_
  refine r_bipush (v := 26) dX12_init_217 (by decide) ?_
  refine r_bipush (v := 99) dX12_init_219 (by decide) ?_
  refine r_cast (j := 26) dX12_init_221 rfl (Nat.le_of_ble_eq_true rfl) rfl (by decide) (by decide) ?_
  refine n_let 26 rfl ?_
  refine r_dup dX12_init_222 rfl ?_
  refine r_bipush (v := 27) dX12_init_223 (by decide) ?_
  refine r_bipush (v := 111) dX12_init_225 (by decide) ?_
  refine r_cast (j := 27) dX12_init_227 rfl (Nat.le_of_ble_eq_true rfl) rfl (by decide) (by decide) ?_
  refine n_let 27 rfl ?_
  refine r_dup dX12_init_228 rfl ?_
  refine r_bipush (v := 28) dX12_init_229 (by decide) ?_
  refine r_bipush (v := 110) dX12_init_231 (by decide) ?_
  refine r_cast (j := 28) dX12_init_233 rfl (Nat.le_of_ble_eq_true rfl) rfl (by decide) (by decide) ?_
  refine n_let 28 rfl ?_
  refine r_dup dX12_init_234 rfl ?_
  refine r_bipush (v := 29) dX12_init_235 (by decide) ?_
  refine r_bipush (v := 100) dX12_init_237 (by decide) ?_
  refine r_cast (j := 29) dX12_init_239 rfl (Nat.le_of_ble_eq_true rfl) rfl (by decide) (by decide) ?_
  refine n_let 29 rfl ?_
  refine r_dup dX12_init_240 rfl ?_
  refine r_bipush (v := 30) dX12_init_241 (by decide) ?_
  refine r_bipush (v := 32) dX12_init_243 (by decide) ?_
  refine r_cast (j := 30) dX12_init_245 rfl (Nat.le_of_ble_eq_true rfl) rfl (by decide) (by decide) ?_
  refine n_let 30 rfl ?_
  refine r_dup dX12_init_246 rfl ?_
  refine r_bipush (v := 31) dX12_init_247 (by decide) ?_
  refine r_bipush (v := 32) dX12_init_249 (by decide) ?_
  refine r_cast (j := 31) dX12_init_251 rfl (Nat.le_of_ble_eq_true rfl) rfl (by decide) (by decide) ?_
  refine n_let 31 rfl ?_
  refine r_dup dX12_init_252 rfl ?_
  refine r_bipush (v := 32) dX12_init_253 (by decide) ?_
  refine r_bipush (v := 112) dX12_init_255 (by decide) ?_
  refine r_cast (j := 32) dX12_init_257 rfl (Nat.le_of_ble_eq_true rfl) rfl (by decide) (by decide) ?_
  refine n_let 32 rfl ?_
  refine r_dup dX12_init_258 rfl ?_
  refine r_bipush (v := 33) dX12_init_259 (by decide) ?_
  refine r_bipush (v := 114) dX12_init_261 (by decide) ?_
  refine r_cast (j := 33) dX12_init_263 rfl (Nat.le_of_ble_eq_true rfl) rfl (by decide) (by decide) ?_
  refine n_let 33 rfl ?_
  refine r_dup dX12_init_264 rfl ?_
  refine r_bipush (v := 34) dX12_init_265 (by decide) ?_
  refine r_bipush (v := 111) dX12_init_267 (by decide) ?_
  refine r_cast (j := 34) dX12_init_269 rfl (Nat.le_of_ble_eq_true rfl) rfl (by decide) (by decide) ?_
  refine n_let 34 rfl ?_
  refine r_dup dX12_init_270 rfl ?_
  refine r_bipush (v := 35) dX12_init_271 (by decide) ?_
  refine r_bipush (v := 109) dX12_init_273 (by decide) ?_
  refine r_cast (j := 35) dX12_init_275 rfl (Nat.le_of_ble_eq_true rfl) rfl (by decide) (by decide) ?_
  refine n_let 35 rfl ?_
  refine r_dup dX12_init_276 rfl ?_
  refine r_bipush (v := 36) dX12_init_277 (by decide) ?_
  refine r_bipush (v := 112) dX12_init_279 (by decide) ?_
  refine r_cast (j := 36) dX12_init_281 rfl (Nat.le_of_ble_eq_true rfl) rfl (by decide) (by decide) ?_
  refine n_let 36 rfl ?_
  refine r_dup dX12_init_282 rfl ?_
  refine r_bipush (v := 37) dX12_init_283 (by decide) ?_
  refine r_bipush (v := 116) dX12_init_285 (by decide) ?_
  refine r_cast (j := 37) dX12_init_287 rfl (Nat.le_of_ble_eq_true rfl) rfl (by decide) (by decide) ?_
  refine n_let 37 rfl ?_
  refine r_dup dX12_init_288 rfl ?_
  refine r_bipush (v := 38) dX12_init_289 (by decide) ?_
  refine r_bipush (v := 101) dX12_init_291 (by decide) ?_
  refine r_cast (j := 38) dX12_init_293 rfl (Nat.le_of_ble_eq_true rfl) rfl (by decide) (by decide) ?_
  refine n_let 38 rfl ?_
  refine r_dup dX12_init_294 rfl ?_
  refine r_bipush (v := 39) dX12_init_295 (by decide) ?_
  refine r_bipush (v := 114) dX12_init_297 (by decide) ?_
  refine r_cast (j := 39) dX12_init_299 rfl (Nat.le_of_ble_eq_true rfl) rfl (by decide) (by decide) ?_
  refine n_let 39 rfl ?_
  refine r_dup dX12_init_300 rfl ?_
  refine r_bipush (v := 40) dX12_init_301 (by decide) ?_
  refine r_bipush (v := 115) dX12_init_303 (by decide) ?_
  refine r_cast (j := 40) dX12_init_305 rfl (Nat.le_of_ble_eq_true rfl) rfl (by decide) (by decide) ?_
  refine n_let 40 rfl ?_
  refine r_dup dX12_init_306 rfl ?_
  refine r_bipush (v := 41) dX12_init_307 (by decide) ?_
  refine r_bipush (v := 116) dX12_init_309 (by decide) ?_
  refine r_cast (j := 41) dX12_init_311 rfl (Nat.le_of_ble_eq_true rfl) rfl (by decide) (by decide) ?_
  refine n_let 41 rfl ?_
  refine r_dup dX12_init_312 rfl ?_
  refine r_bipush (v := 42) dX12_init_313 (by decide) ?_
  refine r_bipush (v := 97) dX12_init_315 (by decide) ?_
  refine r_cast (j := 42) dX12_init_317 rfl (Nat.le_of_ble_eq_true rfl) rfl (by decide) (by decide) ?_
  refine n_let 42 rfl ?_
  refine r_dup dX12_init_318 rfl ?_
  refine r_bipush (v := 43) dX12_init_319 (by decide) ?_
  refine r_bipush (v := 114) dX12_init_321 (by decide) ?_
  refine r_cast (j := 43) dX12_init_323 rfl (Nat.le_of_ble_eq_true rfl) rfl (by decide) (by decide) ?_
  refine n_let 43 rfl ?_
  refine r_dup dX12_init_324 rfl ?_
  refine r_bipush (v := 44) dX12_init_325 (by decide) ?_
  refine r_bipush (v := 32) dX12_init_327 (by decide) ?_
  refine r_cast (j := 44) dX12_init_329 rfl (Nat.le_of_ble_eq_true rfl) rfl (by decide) (by decide) ?_
  refine n_let 44 rfl ?_
  refine r_dup dX12_init_330 rfl ?_
  refine r_bipush (v := 45) dX12_init_331 (by decide) ?_
  refine r_bipush (v := 32) dX12_init_333 (by decide) ?_
  refine r_cast (j := 45) dX12_init_335 rfl (Nat.le_of_ble_eq_true rfl) rfl (by decide) (by decide) ?_
  refine n_let 45 rfl ?_
  refine r_dup dX12_init_336 rfl ?_
  refine r_bipush (v := 46) dX12_init_337 (by decide) ?_
  refine r_bipush (v := 32) dX12_init_339 (by decide) ?_
  refine r_cast (j := 46) dX12_init_341 rfl (Nat.le_of_ble_eq_true rfl) rfl (by decide) (by decide) ?_
  refine n_let 46 rfl ?_
  refine r_dup dX12_init_342 rfl ?_
  refine r_bipush (v := 47) dX12_init_343 (by decide) ?_
  refine r_bipush (v := 32) dX12_init_345 (by decide) ?_
  refine r_cast (j := 47) dX12_init_347 rfl (Nat.le_of_ble_eq_true rfl) rfl (by decide) (by decide) ?_
  refine n_let 47 rfl ?_
  refine r_dup dX12_init_348 rfl ?_
  refine r_bipush (v := 48) dX12_init_349 (by decide) ?_
  refine r_bipush (v := 112) dX12_init_351 (by decide) ?_
  refine r_cast (j := 48) dX12_init_353 rfl (Nat.le_of_ble_eq_true rfl) rfl (by decide) (by decide) ?_
  refine n_let 48 rfl ?_
  refine r_dup dX12_init_354 rfl ?_
  refine r_bipush (v := 49) dX12_init_355 (by decide) ?_
  refine r_bipush (v := 97) dX12_init_357 (by decide) ?_
  refine r_cast (j := 49) dX12_init_359 rfl (Nat.le_of_ble_eq_true rfl) rfl (by decide) (by decide) ?_
  refine n_let 49 rfl ?_
  refine r_dup dX12_init_360 rfl ?_
  refine r_bipush (v := 50) dX12_init_361 (by decide) ?_
  refine r_bipush (v := 114) dX12_init_363 (by decide) ?_
  refine r_cast (j := 50) dX12_init_365 rfl (Nat.le_of_ble_eq_true rfl) rfl (by decide) (by decide) ?_
  refine n_let 50 rfl ?_
  refine r_dup dX12_init_366 rfl ?_
  refine r_bipush (v := 51) dX12_init_367 (by decide) ?_
  refine r_bipush (v := 116) dX12_init_369 (by decide) ?_
  refine r_cast (j := 51) dX12_init_371 rfl (Nat.le_of_ble_eq_true rfl) rfl (by decide) (by decide) ?_
  refine n_let 51 rfl ?_
  refine r_dup dX12_init_372 rfl ?_
  refine r_bipush (v := 52) dX12_init_373 (by decide) ?_
  refine r_bipush (v := 32) dX12_init_375 (by decide) ?_
  refine r_cast (j := 52) dX12_init_377 rfl (Nat.le_of_ble_eq_true rfl) rfl (by decide) (by decide) ?_
  refine n_let 52 rfl ?_
  refine r_dup dX12_init_378 rfl ?_
  refine r_bipush (v := 53) dX12_init_379 (by decide) ?_
  refine r_bipush (v := 32) dX12_init_381 (by decide) ?_
  refine r_cast (j := 53) dX12_init_383 rfl (Nat.le_of_ble_eq_true rfl) rfl (by decide) (by decide) ?_
  refine n_let 53 rfl ?_
  refine r_dup dX12_init_384 rfl ?_
  refine r_bipush (v := 54) dX12_init_385 (by decide) ?_
  refine r_bipush (v := 32) dX12_init_387 (by decide) ?_
  refine r_cast (j := 54) dX12_init_389 rfl (Nat.le_of_ble_eq_true rfl) rfl (by decide) (by decide) ?_
  refine n_let 54 rfl ?_
  refine r_dup dX12_init_390 rfl ?_
  refine r_bipush (v := 55) dX12_init_391 (by decide) ?_
  refine r_bipush (v := 32) dX12_init_393 (by decide) ?_
  refine r_cast (j := 55) dX12_init_395 rfl (Nat.le_of_ble_eq_true rfl) rfl (by decide) (by decide) ?_
  refine n_let 55 rfl ?_
  refine r_dup dX12_init_396 rfl ?_
  refine r_bipush (v := 56) dX12_init_397 (by decide) ?_
  refine r_bipush (v := 104) dX12_init_399 (by decide) ?_
  refine r_cast (j := 56) dX12_init_401 rfl (Nat.le_of_ble_eq_true rfl) rfl (by decide) (by decide) ?_
  refine n_let 56 rfl ?_
  refine r_dup dX12_init_402 rfl ?_
  refine r_bipush (v := 57) dX12_init_403 (by decide) ?_
  refine r_bipush (v := 101) dX12_init_405 (by decide) ?_
  refine r_cast (j := 57) dX12_init_407 rfl (Nat.le_of_ble_eq_true rfl) rfl (by decide) (by decide) ?_
  refine n_let 57 rfl ?_
  refine r_dup dX12_init_408 rfl ?_
  refine r_bipush (v := 58) dX12_init_409 (by decide) ?_
  refine r_bipush (v := 108) dX12_init_411 (by decide) ?_
  refine r_cast (j := 58) dX12_init_413 rfl (Nat.le_of_ble_eq_true rfl) rfl (by decide) (by decide) ?_
  refine n_let 58 rfl ?_
  refine r_dup dX12_init_414 rfl ?_
  refine r_bipush (v := 59) dX12_init_415 (by decide) ?_
  refine r_bipush (v := 112) dX12_init_417 (by decide) ?_
  refine r_cast (j := 59) dX12_init_419 rfl (Nat.le_of_ble_eq_true rfl) rfl (by decide) (by decide) ?_
  refine n_let 59 rfl ?_
  refine r_dup dX12_init_420 rfl ?_
  refine r_bipush (v := 60) dX12_init_421 (by decide) ?_
  refine r_bipush (v := 32) dX12_init_423 (by decide) ?_
  refine r_cast (j := 60) dX12_init_425 rfl (Nat.le_of_ble_eq_true rfl) rfl (by decide) (by decide) ?_
  refine n_let 60 rfl ?_
  refine r_dup dX12_init_426 rfl ?_
  refine r_bipush (v := 61) dX12_init_427 (by decide) ?_
  refine r_bipush (v := 32) dX12_init_429 (by decide) ?_
  refine r_cast (j := 61) dX12_init_431 rfl (Nat.le_of_ble_eq_true rfl) rfl (by decide) (by decide) ?_
  refine n_let 61 rfl ?_
  refine r_dup dX12_init_432 rfl ?_
  refine r_bipush (v := 62) dX12_init_433 (by decide) ?_
  refine r_bipush (v := 32) dX12_init_435 (by decide) ?_
  refine r_cast (j := 62) dX12_init_437 rfl (Nat.le_of_ble_eq_true rfl) rfl (by decide) (by decide) ?_
  refine n_let 62 rfl ?_
  refine r_dup dX12_init_438 rfl ?_
  refine r_bipush (v := 63) dX12_init_439 (by decide) ?_
  refine r_bipush (v := 32) dX12_init_441 (by decide) ?_
  refine r_cast (j := 63) dX12_init_443 rfl (Nat.le_of_ble_eq_true rfl) rfl (by decide) (by decide) ?_
  refine n_let 63 rfl ?_
  refine r_dup dX12_init_444 rfl ?_
  refine r_bipush (v := 64) dX12_init_445 (by decide) ?_
  refine r_bipush (v := 98) dX12_init_447 (by decide) ?_
  refine r_cast (j := 64) dX12_init_449 rfl (Nat.le_of_ble_eq_true rfl) rfl (by decide) (by decide) ?_
  refine n_let 64 rfl ?_
  refine r_dup dX12_init_450 rfl ?_
  refine r_bipush (v := 65) dX12_init_451 (by decide) ?_
  refine r_bipush (v := 111) dX12_init_453 (by decide) ?_
  refine r_cast (j := 65) dX12_init_455 rfl (Nat.le_of_ble_eq_true rfl) rfl (by decide) (by decide) ?_
  refine n_let 65 rfl ?_
  refine r_dup dX12_init_456 rfl ?_
  refine r_bipush (v := 66) dX12_init_457 (by decide) ?_
  refine r_bipush (v := 111) dX12_init_459 (by decide) ?_
  refine r_cast (j := 66) dX12_init_461 rfl (Nat.le_of_ble_eq_true rfl) rfl (by decide) (by decide) ?_
  refine n_let 66 rfl ?_
  refine r_dup dX12_init_462 rfl ?_
  refine r_bipush (v := 67) dX12_init_463 (by decide) ?_
  refine r_bipush (v := 107) dX12_init_465 (by decide) ?_
  refine r_cast (j := 67) dX12_init_467 rfl (Nat.le_of_ble_eq_true rfl) rfl (by decide) (by decide) ?_
  refine n_let 67 rfl ?_
  refine r_dup dX12_init_468 rfl ?_
  refine r_bipush (v := 68) dX12_init_469 (by decide) ?_
  refine r_bipush (v := 32) dX12_init_471 (by decide) ?_
  refine r_cast (j := 68) dX12_init_473 rfl (Nat.le_of_ble_eq_true rfl) rfl (by decide) (by decide) ?_
  refine n_let 68 rfl ?_
  refine r_dup dX12_init_474 rfl ?_
  refine r_bipush (v := 69) dX12_init_475 (by decide) ?_
  refine r_bipush (v := 32) dX12_init_477 (by decide) ?_
  refine r_cast (j := 69) dX12_init_479 rfl (Nat.le_of_ble_eq_true rfl) rfl (by decide) (by decide) ?_
  refine n_let 69 rfl ?_
  refine r_dup dX12_init_480 rfl ?_
  refine r_bipush (v := 70) dX12_init_481 (by decide) ?_
  refine r_bipush (v := 32) dX12_init_483 (by decide) ?_
  refine r_cast (j := 70) dX12_init_485 rfl (Nat.le_of_ble_eq_true rfl) rfl (by decide) (by decide) ?_
  refine n_let 70 rfl ?_
  refine r_dup dX12_init_486 rfl ?_
  refine r_bipush (v := 71) dX12_init_487 (by decide) ?_
  refine r_bipush (v := 32) dX12_init_489 (by decide) ?_
  refine r_cast (j := 71) dX12_init_491 rfl (Nat.le_of_ble_eq_true rfl) rfl (by decide) (by decide) ?_
  refine n_let 71 rfl ?_
  refine r_dup dX12_init_492 rfl ?_
  refine r_bipush (v := 72) dX12_init_493 (by decide) ?_
  refine r_bipush (v := 108) dX12_init_495 (by decide) ?_
  refine r_cast (j := 72) dX12_init_497 rfl (Nat.le_of_ble_eq_true rfl) rfl (by decide) (by decide) ?_
  refine n_let 72 rfl ?_
  refine r_dup dX12_init_498 rfl ?_
  refine r_bipush (v := 73) dX12_init_499 (by decide) ?_
  refine r_bipush (v := 101) dX12_init_501 (by decide) ?_
  refine r_cast (j := 73) dX12_init_503 rfl (Nat.le_of_ble_eq_true rfl) rfl (by decide) (by decide) ?_
  refine n_let 73 rfl ?_
  refine r_dup dX12_init_504 rfl ?_
  refine r_bipush (v := 74) dX12_init_505 (by decide) ?_
  refine r_bipush (v := 97) dX12_init_507 (by decide) ?_
  refine r_cast (j := 74) dX12_init_509 rfl (Nat.le_of_ble_eq_true rfl) rfl (by decide) (by decide) ?_
  refine n_let 74 rfl ?_
  refine r_dup dX12_init_510 rfl ?_
  refine r_bipush (v := 75) dX12_init_511 (by decide) ?_
  refine r_bipush (v := 115) dX12_init_513 (by decide) ?_
  refine r_cast (j := 75) dX12_init_515 rfl (Nat.le_of_ble_eq_true rfl) rfl (by decide) (by decide) ?_
  refine n_let 75 rfl ?_
  refine r_dup dX12_init_516 rfl ?_
  refine r_bipush (v := 76) dX12_init_517 (by decide) ?_
  refine r_bipush (v := 116) dX12_init_519 (by decide) ?_
  refine r_cast (j := 76) dX12_init_521 rfl (Nat.le_of_ble_eq_true rfl) rfl (by decide) (by decide) ?_
  refine n_let 76 rfl ?_
  refine r_dup dX12_init_522 rfl ?_
  refine r_bipush (v := 77) dX12_init_523 (by decide) ?_
  refine r_bipush (v := 32) dX12_init_525 (by decide) ?_
  refine r_cast (j := 77) dX12_init_527 rfl (Nat.le_of_ble_eq_true rfl) rfl (by decide) (by decide) ?_
  refine n_let 77 rfl ?_
  refine r_dup dX12_init_528 rfl ?_
  refine r_bipush (v := 78) dX12_init_529 (by decide) ?_
  refine r_bipush (v := 32) dX12_init_531 (by decide) ?_
  refine r_cast (j := 78) dX12_init_533 rfl (Nat.le_of_ble_eq_true rfl) rfl (by decide) (by decide) ?_
  refine n_let 78 rfl ?_
  refine r_dup dX12_init_534 rfl ?_
  refine r_bipush (v := 79) dX12_init_535 (by decide) ?_
  refine r_bipush (v := 32) dX12_init_537 (by decide) ?_
  refine r_cast (j := 79) dX12_init_539 rfl (Nat.le_of_ble_eq_true rfl) rfl (by decide) (by decide) ?_
  refine n_let 79 rfl ?_
  refine r_dup dX12_init_540 rfl ?_
  refine r_bipush (v := 80) dX12_init_541 (by decide) ?_
  refine r_bipush (v := 116) dX12_init_543 (by decide) ?_
  refine r_cast (j := 80) dX12_init_545 rfl (Nat.le_of_ble_eq_true rfl) rfl (by decide) (by decide) ?_
  refine n_let 80 rfl ?_
  refine r_dup dX12_init_546 rfl ?_
  refine r_bipush (v := 81) dX12_init_547 (by decide) ?_
  refine r_bipush (v := 104) dX12_init_549 (by decide) ?_
  refine r_cast (j := 81) dX12_init_551 rfl (Nat.le_of_ble_eq_true rfl) rfl (by decide) (by decide) ?_
  refine n_let 81 rfl ?_
  refine r_dup dX12_init_552 rfl ?_
  refine r_bipush (v := 82) dX12_init_553 (by decide) ?_
  refine r_bipush (v := 114) dX12_init_555 (by decide) ?_
  refine r_cast (j := 82) dX12_init_557 rfl (Nat.le_of_ble_eq_true rfl) rfl (by decide) (by decide) ?_
  refine n_let 82 rfl ?_
  refine r_dup dX12_init_558 rfl ?_
  refine r_bipush (v := 83) dX12_init_559 (by decide) ?_
  refine r_bipush (v := 111) dX12_init_561 (by decide) ?_
  refine r_cast (j := 83) dX12_init_563 rfl (Nat.le_of_ble_eq_true rfl) rfl (by decide) (by decide) ?_
  refine n_let 83 rfl ?_
  refine r_dup dX12_init_564 rfl ?_
  refine r_bipush (v := 84) dX12_init_565 (by decide) ?_
  refine r_bipush (v := 97) dX12_init_567 (by decide) ?_
  refine r_cast (j := 84) dX12_init_569 rfl (Nat.le_of_ble_eq_true rfl) rfl (by decide) (by decide) ?_
  refine n_let 84 rfl ?_
  refine r_dup dX12_init_570 rfl ?_
  refine r_bipush (v := 85) dX12_init_571 (by decide) ?_
  refine r_bipush (v := 116) dX12_init_573 (by decide) ?_
  refine r_cast (j := 85) dX12_init_575 rfl (Nat.le_of_ble_eq_true rfl) rfl (by decide) (by decide) ?_
  refine n_let 85 rfl ?_
  refine r_dup dX12_init_576 rfl ?_
  refine r_bipush (v := 86) dX12_init_577 (by decide) ?_
  refine r_bipush (v := 32) dX12_init_579 (by decide) ?_
  refine r_cast (j := 86) dX12_init_581 rfl (Nat.le_of_ble_eq_true rfl) rfl (by decide) (by decide) ?_
  refine n_let 86 rfl ?_
  refine r_dup dX12_init_582 rfl ?_
  refine r_bipush (v := 87) dX12_init_583 (by decide) ?_
  refine r_bipush (v := 32) dX12_init_585 (by decide) ?_
  refine r_cast (j := 87) dX12_init_587 rfl (Nat.le_of_ble_eq_true rfl) rfl (by decide) (by decide) ?_
  refine n_let 87 rfl ?_
  refine r_dup dX12_init_588 rfl ?_
  refine r_bipush (v := 88) dX12_init_589 (by decide) ?_
  refine r_bipush (v := 111) dX12_init_591 (by decide) ?_
  refine r_cast (j := 88) dX12_init_593 rfl (Nat.le_of_ble_eq_true rfl) rfl (by decide) (by decide) ?_
  refine n_let 88 rfl ?_
  refine r_dup dX12_init_594 rfl ?_
  refine r_bipush (v := 89) dX12_init_595 (by decide) ?_
  refine r_bipush (v := 102) dX12_init_597 (by decide) ?_
  refine r_cast (j := 89) dX12_init_599 rfl (Nat.le_of_ble_eq_true rfl) rfl (by decide) (by decide) ?_
  refine n_let 89 rfl ?_
  refine r_dup dX12_init_600 rfl ?_
  refine r_bipush (v := 90) dX12_init_601 (by decide) ?_
  refine r_bipush (v := 32) dX12_init_603 (by decide) ?_
  refine r_cast (j := 90) dX12_init_605 rfl (Nat.le_of_ble_eq_true rfl) rfl (by decide) (by decide) ?_
  refine n_let 90 rfl ?_
  refine r_dup dX12_init_606 rfl ?_
  refine r_bipush (v := 91) dX12_init_607 (by decide) ?_
  refine r_bipush (v := 32) dX12_init_609 (by decide) ?_
  refine r_cast (j := 91) dX12_init_611 rfl (Nat.le_of_ble_eq_true rfl) rfl (by decide) (by decide) ?_
  refine n_let 91 rfl ?_
  refine r_dup dX12_init_612 rfl ?_
  refine r_bipush (v := 92) dX12_init_613 (by decide) ?_
  refine r_bipush (v := 32) dX12_init_615 (by decide) ?_
  refine r_cast (j := 92) dX12_init_617 rfl (Nat.le_of_ble_eq_true rfl) rfl (by decide) (by decide) ?_
  refine n_let 92 rfl ?_
  refine r_dup dX12_init_618 rfl ?_
  refine r_bipush (v := 93) dX12_init_619 (by decide) ?_
  refine r_bipush (v := 32) dX12_init_621 (by decide) ?_
  refine r_cast (j := 93) dX12_init_623 rfl (Nat.le_of_ble_eq_true rfl) rfl (by decide) (by decide) ?_
  refine n_let 93 rfl ?_
  refine r_dup dX12_init_624 rfl ?_
  refine r_bipush (v := 94) dX12_init_625 (by decide) ?_
  refine r_bipush (v := 32) dX12_init_627 (by decide) ?_
  refine r_cast (j := 94) dX12_init_629 rfl (Nat.le_of_ble_eq_true rfl) rfl (by decide) (by decide) ?_
  refine n_let 94 rfl ?_
  refine r_dup dX12_init_630 rfl ?_
  refine r_bipush (v := 95) dX12_init_631 (by decide) ?_
  refine r_bipush (v := 32) dX12_init_633 (by decide) ?_
  refine r_cast (j := 95) dX12_init_635 rfl (Nat.le_of_ble_eq_true rfl) rfl (by decide) (by decide) ?_
  refine n_let 95 rfl ?_
  refine r_dup dX12_init_636 rfl ?_
  refine r_bipush (v := 96) dX12_init_637 (by decide) ?_
  refine r_bipush (v := 107) dX12_init_639 (by decide) ?_
  refine r_cast (j := 96) dX12_init_641 rfl (Nat.le_of_ble_eq_true rfl) rfl (by decide) (by decide) ?_
  refine n_let 96 rfl ?_
  refine r_dup dX12_init_642 rfl ?_
  refine r_bipush (v := 97) dX12_init_643 (by decide) ?_
  refine r_bipush (v := 110) dX12_init_645 (by decide) ?_
  refine r_cast (j := 97) dX12_init_647 rfl (Nat.le_of_ble_eq_true rfl) rfl (by decide) (by decide) ?_
  refine n_let 97 rfl ?_
  refine r_dup dX12_init_648 rfl ?_
  refine r_bipush (v := 98) dX12_init_649 (by decide) ?_
  refine r_bipush (v := 111) dX12_init_651 (by decide) ?_
  refine r_cast (j := 98) dX12_init_653 rfl (Nat.le_of_ble_eq_true rfl) rfl (by decide) (by decide) ?_
  refine n_let 98 rfl ?_
  refine r_dup dX12_init_654 rfl ?_
  refine r_bipush (v := 99) dX12_init_655 (by decide) ?_
  refine r_bipush (v := 119) dX12_init_657 (by decide) ?_
  refine r_cast (j := 99) dX12_init_659 rfl (Nat.le_of_ble_eq_true rfl) rfl (by decide) (by decide) ?_
  refine n_let 99 rfl ?_
  refine r_dup dX12_init_660 rfl ?_
  refine r_bipush (v := 100) dX12_init_661 (by decide) ?_
  refine r_bipush (v := 115) dX12_init_663 (by decide) ?_
  refine r_cast (j := 100) dX12_init_665 rfl (Nat.le_of_ble_eq_true rfl) rfl (by decide) (by decide) ?_
  refine n_let 100 rfl ?_
  refine r_dup dX12_init_666 rfl ?_
  refine r_bipush (v := 101) dX12_init_667 (by decide) ?_
  refine r_bipush (v := 32) dX12_init_669 (by decide) ?_
  refine r_cast (j := 101) dX12_init_671 rfl (Nat.le_of_ble_eq_true rfl) rfl (by decide) (by decide) ?_
  refine n_let 101 rfl ?_
  refine r_dup dX12_init_672 rfl ?_
  refine r_bipush (v := 102) dX12_init_673 (by decide) ?_
  refine r_bipush (v := 32) dX12_init_675 (by decide) ?_
  refine r_cast (j := 102) dX12_init_677 rfl (Nat.le_of_ble_eq_true rfl) rfl (by decide) (by decide) ?_
  refine n_let 102 rfl ?_
  refine r_dup dX12_init_678 rfl ?_
  refine r_bipush (v := 103) dX12_init_679 (by decide) ?_
  refine r_bipush (v := 32) dX12_init_681 (by decide) ?_
  refine r_cast (j := 103) dX12_init_683 rfl (Nat.le_of_ble_eq_true rfl) rfl (by decide) (by decide) ?_
  refine n_let 103 rfl ?_
  refine r_dup dX12_init_684 rfl ?_
  refine r_bipush (v := 104) dX12_init_685 (by decide) ?_
  refine r_bipush (v := 105) dX12_init_687 (by decide) ?_
  refine r_cast (j := 104) dX12_init_689 rfl (Nat.le_of_ble_eq_true rfl) rfl (by decide) (by decide) ?_
  refine n_let 104 rfl ?_
  refine r_dup dX12_init_690 rfl ?_
  refine r_bipush (v := 105) dX12_init_691 (by decide) ?_
  refine r_bipush (v := 108) dX12_init_693 (by decide) ?_
  refine r_cast (j := 105) dX12_init_695 rfl (Nat.le_of_ble_eq_true rfl) rfl (by decide) (by decide) ?_
  refine n_let 105 rfl ?_
  refine r_dup dX12_init_696 rfl ?_
  refine r_bipush (v := 106) dX12_init_697 (by decide) ?_
  refine r_bipush (v := 108) dX12_init_699 (by decide) ?_
  refine r_cast (j := 106) dX12_init_701 rfl (Nat.le_of_ble_eq_true rfl) rfl (by decide) (by decide) ?_
  refine n_let 106 rfl ?_
  refine r_dup dX12_init_702 rfl ?_
  refine r_bipush (v := 107) dX12_init_703 (by decide) ?_
  refine r_bipush (v := 32) dX12_init_705 (by decide) ?_
  refine r_cast (j := 107) dX12_init_707 rfl (Nat.le_of_ble_eq_true rfl) rfl (by decide) (by decide) ?_
  refine n_let 107 rfl ?_
  refine r_dup dX12_init_708 rfl ?_
  refine r_bipush (v := 108) dX12_init_709 (by decide) ?_
  refine r_bipush (v := 32) dX12_init_711 (by decide) ?_
  refine r_cast (j := 108) dX12_init_713 rfl (Nat.le_of_ble_eq_true rfl) rfl (by decide) (by decide) ?_
  refine n_let 108 rfl ?_
  refine r_dup dX12_init_714 rfl ?_
  refine r_bipush (v := 109) dX12_init_715 (by decide) ?_
  refine r_bipush (v := 32) dX12_init_717 (by decide) ?_
  refine r_cast (j := 109) dX12_init_719 rfl (Nat.le_of_ble_eq_true rfl) rfl (by decide) (by decide) ?_
  refine n_let 109 rfl ?_
  refine r_dup dX12_init_720 rfl ?_
  refine r_bipush (v := 110) dX12_init_721 (by decide) ?_
  refine r_bipush (v := 32) dX12_init_723 (by decide) ?_
  refine r_cast (j := 110) dX12_init_725 rfl (Nat.le_of_ble_eq_true rfl) rfl (by decide) (by decide) ?_
  refine n_let 110 rfl ?_
  refine r_dup dX12_init_726 rfl ?_
  refine r_bipush (v := 111) dX12_init_727 (by decide) ?_
  refine r_bipush (v := 32) dX12_init_729 (by decide) ?_
  refine r_cast (j := 111) dX12_init_731 rfl (Nat.le_of_ble_eq_true rfl) rfl (by decide) (by decide) ?_
  refine n_let 111 rfl ?_
  refine n_putR (q := 62) (i := 54) dX12_init_732 (ci := 12) (kf := 10) rfl (Nat.le_of_ble_eq_true rfl) (by decide) (by decide) rfl fl_X12_31 rfl rfl rfl rfl ?_
  refine r_aload_n dX12_init_735 rfl rfl ?_
  refine r_bipush (v := 30) dX12_init_736 (by decide) ?_
  refine n_newA (N := 30) (t := 0) dX12_init_738 rfl (by decide) rfl ac_int rfl ra_int rfl (by decide) (by decide) (by decide) (Nat.le_of_ble_eq_true rfl) (Nat.le_of_ble_eq_true rfl) rfl (rSL_all _ (by decide +kernel)) (by repeat' first | exact hM _ (by omega) | refine mU_n (by omega) ?_ | refine mP_n (by omega) ?_) ?_
  refine n_putR (q := 63) (i := 54) dX12_init_740 (ci := 12) (kf := 15) rfl (Nat.le_of_ble_eq_true rfl) (by decide) (by decide) rfl fl_X12_35 rfl rfl rfl rfl ?_
  refine r_aload_n dX12_init_743 rfl rfl ?_
  refine r_iconst (v := 3) dX12_init_744 (by decide) ?_
  refine n_newA (N := 3) (t := 0) dX12_init_745 rfl (by decide) rfl ac_int rfl ra_int rfl (by decide) (by decide) (by decide) (Nat.le_of_ble_eq_true rfl) (Nat.le_of_ble_eq_true rfl) rfl (rSL_all _ (by decide +kernel)) (by repeat' first | exact hM _ (by omega) | refine mU_n (by omega) ?_ | refine mP_n (by omega) ?_) ?_
  refine n_putR (q := 64) (i := 54) dX12_init_747 (ci := 12) (kf := 16) rfl (Nat.le_of_ble_eq_true rfl) (by decide) (by decide) rfl fl_X12_38 rfl rfl rfl rfl ?_
  refine r_aload_n dX12_init_750 rfl rfl ?_
  refine r_iconst (v := 4) dX12_init_751 (by decide) ?_
  refine n_newA (N := 4) (t := 0) dX12_init_752 rfl (by decide) rfl ac_int rfl ra_int rfl (by decide) (by decide) (by decide) (Nat.le_of_ble_eq_true rfl) (Nat.le_of_ble_eq_true rfl) rfl (rSL_all _ (by decide +kernel)) (by repeat' first | exact hM _ (by omega) | refine mU_n (by omega) ?_ | refine mP_n (by omega) ?_) ?_
  refine r_dup dX12_init_754 rfl ?_
  refine r_iconst (v := 0) dX12_init_755 (by decide) ?_
  refine r_iconst (v := (-1)) dX12_init_756 (by decide) ?_
  refine r_iast (j := 0) dX12_init_757 rfl (Nat.le_of_ble_eq_true rfl) rfl (by decide) (by decide) ?_
  rw [nw_ms]
  refine r_dup dX12_init_758 rfl ?_
  refine r_iconst (v := 1) dX12_init_759 (by decide) ?_
  refine r_iconst (v := (-1)) dX12_init_760 (by decide) ?_
  refine r_iast (j := 1) dX12_init_761 rfl (Nat.le_of_ble_eq_true rfl) rfl (by decide) (by decide) ?_
  rw [nw_ms]
  refine r_dup dX12_init_762 rfl ?_
  refine r_iconst (v := 2) dX12_init_763 (by decide) ?_
  refine r_iconst (v := (-1)) dX12_init_764 (by decide) ?_
  refine r_iast (j := 2) dX12_init_765 rfl (Nat.le_of_ble_eq_true rfl) rfl (by decide) (by decide) ?_
  rw [nw_ms]
  refine r_dup dX12_init_766 rfl ?_
  refine r_iconst (v := 3) dX12_init_767 (by decide) ?_
  refine r_iconst (v := (-1)) dX12_init_768 (by decide) ?_
  refine r_iast (j := 3) dX12_init_769 rfl (Nat.le_of_ble_eq_true rfl) rfl (by decide) (by decide) ?_
  rw [nw_ms]
  refine n_putR (q := 65) (i := 54) dX12_init_770 (ci := 12) (kf := 18) rfl (Nat.le_of_ble_eq_true rfl) (by decide) (by decide) rfl fl_X12_41 rfl rfl rfl rfl ?_
  refine r_aload_n dX12_init_773 rfl rfl ?_
  refine r_iconst (v := 4) dX12_init_774 (by decide) ?_
  refine n_newA (N := 4) (t := 0) dX12_init_775 rfl (by decide) rfl ac_int rfl ra_int rfl (by decide) (by decide) (by decide) (Nat.le_of_ble_eq_true rfl) (Nat.le_of_ble_eq_true rfl) rfl (rSL_all _ (by decide +kernel)) (by repeat' first | exact hM _ (by omega) | refine mU_n (by omega) ?_ | refine mP_n (by omega) ?_) ?_
  refine n_putR (q := 66) (i := 54) dX12_init_777 (ci := 12) (kf := 19) rfl (Nat.le_of_ble_eq_true rfl) (by decide) (by decide) rfl fl_X12_44 rfl rfl rfl rfl ?_
  refine r_aload_n dX12_init_780 rfl rfl ?_
  refine r_sipush (v := 160) dX12_init_781 (by decide) ?_
  refine n_newA (N := 160) (t := 0) dX12_init_784 rfl (by decide) rfl ac_int rfl ra_int rfl (by decide) (by decide) (by decide) (Nat.le_of_ble_eq_true rfl) (Nat.le_of_ble_eq_true rfl) rfl (rSL_all _ (by decide +kernel)) (by repeat' first | exact hM _ (by omega) | refine mU_n (by omega) ?_ | refine mP_n (by omega) ?_) ?_
  refine n_putR (q := 67) (i := 54) dX12_init_786 (ci := 12) (kf := 20) rfl (Nat.le_of_ble_eq_true rfl) (by decide) (by decide) rfl fl_X12_47 rfl rfl rfl rfl ?_
  refine r_aload_n dX12_init_789 rfl rfl ?_
  refine r_iconst (v := 4) dX12_init_790 (by decide) ?_
  refine n_newA (N := 4) (t := 0) dX12_init_791 rfl (by decide) rfl ac_int rfl ra_int rfl (by decide) (by decide) (by decide) (Nat.le_of_ble_eq_true rfl) (Nat.le_of_ble_eq_true rfl) rfl (rSL_all _ (by decide +kernel)) (by repeat' first | exact hM _ (by omega) | refine mU_n (by omega) ?_ | refine mP_n (by omega) ?_) ?_
  refine r_dup dX12_init_793 rfl ?_
  refine r_iconst (v := 0) dX12_init_794 (by decide) ?_
  refine r_iconst (v := (-1)) dX12_init_795 (by decide) ?_
  refine r_iast (j := 0) dX12_init_796 rfl (Nat.le_of_ble_eq_true rfl) rfl (by decide) (by decide) ?_
  rw [nw_ms]
  refine r_dup dX12_init_797 rfl ?_
  refine r_iconst (v := 1) dX12_init_798 (by decide) ?_
  refine r_iconst (v := (-1)) dX12_init_799 (by decide) ?_
  refine r_iast (j := 1) dX12_init_800 rfl (Nat.le_of_ble_eq_true rfl) rfl (by decide) (by decide) ?_
  rw [nw_ms]
  refine r_dup dX12_init_801 rfl ?_
  refine r_iconst (v := 2) dX12_init_802 (by decide) ?_
  refine r_iconst (v := (-1)) dX12_init_803 (by decide) ?_
  refine r_iast (j := 2) dX12_init_804 rfl (Nat.le_of_ble_eq_true rfl) rfl (by decide) (by decide) ?_
  rw [nw_ms]
  refine r_dup dX12_init_805 rfl ?_
  refine r_iconst (v := 3) dX12_init_806 (by decide) ?_
  refine r_iconst (v := (-1)) dX12_init_807 (by decide) ?_
  refine r_iast (j := 3) dX12_init_808 rfl (Nat.le_of_ble_eq_true rfl) rfl (by decide) (by decide) ?_
  rw [nw_ms]
  refine n_putR (q := 68) (i := 54) dX12_init_809 (ci := 12) (kf := 21) rfl (Nat.le_of_ble_eq_true rfl) (by decide) (by decide) rfl fl_X12_50 rfl rfl rfl rfl ?_
  refine r_aload_n dX12_init_812 rfl rfl ?_
  refine r_iconst (v := 4) dX12_init_813 (by decide) ?_
  refine n_newA (N := 4) (t := 0) dX12_init_814 rfl (by decide) rfl ac_int rfl ra_int rfl (by decide) (by decide) (by decide) (Nat.le_of_ble_eq_true rfl) (Nat.le_of_ble_eq_true rfl) rfl (rSL_all _ (by decide +kernel)) (by repeat' first | exact hM _ (by omega) | refine mU_n (by omega) ?_ | refine mP_n (by omega) ?_) ?_
  refine n_putR (q := 69) (i := 54) dX12_init_816 (ci := 12) (kf := 22) rfl (Nat.le_of_ble_eq_true rfl) (by decide) (by decide) rfl fl_X12_53 rfl rfl rfl rfl ?_
  refine r_aload_n dX12_init_819 rfl rfl ?_
  refine r_bipush (v := 30) dX12_init_820 (by decide) ?_
  refine n_newA (N := 30) (t := 0) dX12_init_822 rfl (by decide) rfl ac_int rfl ra_int rfl (by decide) (by decide) (by decide) (Nat.le_of_ble_eq_true rfl) (Nat.le_of_ble_eq_true rfl) rfl (rSL_all _ (by decide +kernel)) (by repeat' first | exact hM _ (by omega) | refine mU_n (by omega) ?_ | refine mP_n (by omega) ?_) ?_
  refine n_putR (q := 70) (i := 54) dX12_init_824 (ci := 12) (kf := 23) rfl (Nat.le_of_ble_eq_true rfl) (by decide) (by decide) rfl fl_X12_56 rfl rfl rfl rfl ?_
  refine r_aload_n dX12_init_827 rfl rfl ?_
  refine r_getR (q := 55) dX12_init_828 (ci := 12) (kf := 0) rfl (Nat.le_of_ble_eq_true rfl) (by decide) (by decide) rfl fl_X12_9 (Or.inl rfl) rfl ?_
  refine r_callS_dV dX12_init_831 (s_X12_begins g (a := 55) (S := Nw 71 lM (mU (mU (mU (mU (mU (mU (mU (mU (mP 112 M) 65 0 (-1)) 65 1 (-1)) 65 2 (-1)) 65 3 (-1)) 68 0 (-1)) 68 1 (-1)) 68 2 (-1)) 68 3 (-1))) rfl (nw_lt (by omega))) mf_X12_begins mt_X12_begins ml_X12_59 rfl rfl (Nat.le_of_ble_eq_true rfl) ⟨(Nat.le_of_ble_eq_true rfl), (Nat.le_of_ble_eq_true rfl)⟩ ⟨(Nat.le_of_ble_eq_true rfl), (Nat.le_of_ble_eq_true rfl)⟩ ?_
  refine r_aload_n dX12_init_834 rfl rfl ?_
  refine r_getR (q := 55) dX12_init_835 (ci := 12) (kf := 0) rfl (Nat.le_of_ble_eq_true rfl) (by decide) (by decide) rfl fl_X12_9 (Or.inl rfl) rfl ?_
  refine r_iconst (v := 5) dX12_init_838 (by decide) ?_
  refine r_iconst (v := 1) dX12_init_839 (by decide) ?_
  refine r_iast (j := 5) dX12_init_840 rfl (Nat.le_of_ble_eq_true rfl) rfl (by decide) (by decide) ?_
  refine r_vret dX12_init_841 rfl (Nat.le_refl _) ?_
  (try dsimp only [Gs_M])
  obtain ⟨M4, e4⟩ : ∃ M4, (mU (mU (mU (mU (mU (mU (mU (mU (mP 112 M) 65 0 (-1)) 65 1 (-1)) 65 2 (-1)) 65 3 (-1)) 68 0 (-1)) 68 1 (-1)) 68 2 (-1)) 68 3 (-1)) = M4 := ⟨_, rfl⟩
  have hX : ∀ q, q ≠ 62 → q ≠ 65 → q ≠ 68 → M4 q = M q := fun q a b c => by
    rw [← e4]
    repeat' first | rfl | refine mU_n (by omega) ?_ | refine mP_n (by omega) ?_
  have h62 : M4 62 = fun x => if x < 112 then ltr x else 0 := by
    rw [← e4]
    repeat' first | exact if_pos rfl | refine mU_n (by omega) ?_
  have hz : ∀ q, 54 ≤ q → q ≠ 62 → mP 112 M q = fun _ => 0 := fun q a b => mP_n b (hM q a)
  have h65 : M4 65 = m1A := by
    rw [← e4]
    refine mU_n (by omega) (mU_n (by omega) (mU_n (by omega) (mU_n (by omega) ?_)))
    show upd (upd (upd (upd (mP 112 M 65) 0 (-1)) 1 (-1)) 2 (-1)) 3 (-1) = m1A
    rw [hz 65 (by omega) (by omega)]
    rfl
  have h68 : M4 68 = m1A := by
    rw [← e4]
    show upd (upd (upd (upd (mU (mU (mU (mU (mP 112 M) 65 0 (-1)) 65 1 (-1)) 65 2 (-1)) 65 3 (-1) 68) 0 (-1)) 1 (-1)) 2 (-1)) 3 (-1) = m1A
    rw [show mU (mU (mU (mU (mP 112 M) 65 0 (-1)) 65 1 (-1)) 65 2 (-1)) 65 3 (-1) 68 = fun _ => 0 from mU_n (by omega) (mU_n (by omega) (mU_n (by omega) (mU_n (by omega) (hz 68 (by omega) (by omega)))))]
    rfl
  rw [e4]
  have hg : ∀ q, q ≠ 55 → (mSet (mArr (Gs M4) 55 (begR (M4 55))) 55 5 1).2.2.2 q = M4 q := fun q a => by rw [mSet_ne a, mArr_ne a]; rfl
  refine ⟨rfl, _, (congrArg (fun S => mSet (mArr S 55 (begR (M4 55))) 55 5 1) nw_gs).trans (Gs_e (S := mSet (mArr (Gs M4) 55 (begR (M4 55))) 55 5 1) ⟨rfl, rfl, rfl⟩), fun q hq => ?_, ?_, ?_, ?_, ?_, fun q hq => ?_⟩
  · exact (hg q (by omega)).trans (hX q (by omega) (by omega) (by omega))
  · rw [mSet_at, mArr_at, hX 55 (by omega) (by omega) (by omega), hM 55 (by omega)]
    rfl
  · exact (hg 62 (by omega)).trans h62
  · exact (hg 65 (by omega)).trans h65
  · exact (hg 68 (by omega)).trans h68
  · have h0 := (by decide : ∀ q ∈ zM, 54 ≤ q ∧ q ≠ 55 ∧ q ≠ 62 ∧ q ≠ 65 ∧ q ≠ 68) q hq
    exact (hg q h0.2.1).trans ((hX q h0.2.2.1 h0.2.2.2.1 h0.2.2.2.2).trans (hM q h0.1))
