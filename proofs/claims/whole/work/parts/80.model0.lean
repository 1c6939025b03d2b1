theorem ob_IcedTooSoonModel_1 : Cond.methodLink "IcedTooSoonModel" 1 Lib.objectInit ∈ it_tb ∧ Cond.instanceMethod Lib.objectInit ∈ it_tb ∧ Cond.code Lib.objectInit ⟨#[0xb1]⟩ 1 none ∈ it_tb := ⟨it_in_tb (List.mem_of_getElem? (i := 809) (by decide +kernel)) rfl, ob_Text_1.2⟩
def it_row (S : it_SS) (a n : Nat) (f : Nat → Int32) : it_SS := fun b => if b = a then (fun j => if j < n then f j else S a j) else S b
theorem row_0 {S : it_SS} {a : Nat} {f : Nat → Int32} : it_row S a 0 f = S := by
  funext b
  rw [it_row]
  by_cases h : b = a
  · rw [if_pos h, h]
    funext j
    rw [if_neg (Nat.not_lt_zero _)]
  · rw [if_neg h]
theorem row_s {S : it_SS} {a n : Nat} {f : Nat → Int32} : it_up (it_row S a n f) a n (f n) = it_row S a (n + 1) f := by
  funext b
  by_cases h : b = a
  · subst h
    simp only [it_up, it_row, ↓reduceIte]
    funext j
    rw [upd]
    by_cases e : j = n
    · rw [if_pos e, e, if_pos (by omega)]
    · rw [if_neg e]
      by_cases e2 : j < n
      · rw [if_pos e2, if_pos (by omega)]
      · rw [if_neg e2, if_neg (by omega)]
  · simp only [it_up, it_row, if_neg h]
theorem ev_row0 {g : it_G} {l : Launch} {d : Nat} {M : it_M} {kc ks pc : Nat} {L : it_L} {st : List Value} {κ : it_KK} {S : it_SS} {P : Option Value → it_KK → it_SS → Prop} (a : Nat) (f : Nat → Int32) (kk : it_Ev g l d M kc ks pc L st κ (it_row S a 0 f) P) : it_Ev g l d M kc ks pc L st κ S P := by
  rw [row_0] at kk
  exact kk
theorem ev_iastF {g : it_G} {l : Launch} {d : Nat} {M : it_M} {kc ks pc : Nat} {L : it_L} {st : List Value} {κ : it_KK} {S : it_SS} {P : Option Value → it_KK → it_SS → Prop} {a N n : Nat} {i x : Int32} {f : Nat → Int32} (n' : Nat) (hd : decode M.2.1 pc = .ok (.iastore, 1)) (hM : kc < 1000) (hA : it_ar κ a N) (hn : n < N) (hN : N < 2 ^ 31) (hi : i = nI n) (hx : x = f n) (hn' : n + 1 = n') (kk : it_Ev g l d M kc ks (pc + 1) L st κ (it_row S a n' f) P) : it_Ev g l d M kc ks pc L (.int x :: .int i :: .ref a :: st) κ (it_row S a n f) P := by
  subst hi
  subst hx
  subst hn'
  refine ev_iast hd hM hA (vp_in_nI hn hN) ?_
  rw [nI_clamp (by omega), row_s]
  exact kk
def f49 : Nat → Int32 := fun j => if j % 3 = 0 then -1 else 0
def f55 : Nat → Int32 := fun _ => -1
def f58 : Nat → Int32 := fun j => nI (t0b j)
def f59 : Nat → Int32 := fun j => nI (wTb.getD j 0)
def kM0 : it_KK := it_new kX5 9 0
def kM1 : it_KK := it_on (it_new kM0 0 6) 45 1
set_option maxHeartbeats 4000000 in
set_option maxRecDepth 100000 in
theorem Mi_0 {g : it_G} {l : Launch} {S : it_SS} {P : Option Value → it_KK → it_SS → Prop} (kk : it_Ev g l 10 it_m_X6_init 1 6 12 [some (.ref 45), none] [] kM1 (it_zero S 46) P) : it_Ev g l 10 it_m_X6_init 0 0 4 [some (.ref 45), none] [] kM0 S P := by
  refine ev_aload_n d_X6_init_4 rfl ?_
  refine ev_bipush (v := 6) d_X6_init_5 (by decide) ?_
  refine ev_newa (N := 6) d_X6_init_7 (by decide) ar_int (by decide) (by decide) (by decide) (by decide) (by decide) ?_
  show it_Ev g l 10 it_m_X6_init 1 6 9 [some (.ref 45), none] [.ref 46, .ref 45] (it_new kM0 0 6) (it_zero S 46) P
  refine ev_putR (ci := 6) (k := 1) (n := 0) d_X6_init_9 (by decide) rfl fl_IcedTooSoonModel_7 ⟨_, rfl, rfl⟩ fw_6_1 (by decide +kernel) (by decide +kernel) rfl rfl rfl rfl ?_
  exact kk
def kM2 : it_KK := it_on (it_new kM1 0 6) 45 2
set_option maxHeartbeats 4000000 in
set_option maxRecDepth 100000 in
theorem Mi_1 {g : it_G} {l : Launch} {S : it_SS} {P : Option Value → it_KK → it_SS → Prop} (kk : it_Ev g l 10 it_m_X6_init 2 12 20 [some (.ref 45), none] [] kM2 (it_zero S 47) P) : it_Ev g l 10 it_m_X6_init 1 6 12 [some (.ref 45), none] [] kM1 S P := by
  refine ev_aload_n d_X6_init_12 rfl ?_
  refine ev_bipush (v := 6) d_X6_init_13 (by decide) ?_
  refine ev_newa (N := 6) d_X6_init_15 (by decide) ar_int (by decide) (by decide) (by decide) (by decide) (by decide) ?_
  show it_Ev g l 10 it_m_X6_init 2 12 17 [some (.ref 45), none] [.ref 47, .ref 45] (it_new kM1 0 6) (it_zero S 47) P
  refine ev_putR (ci := 6) (k := 2) (n := 0) d_X6_init_17 (by decide) rfl fl_IcedTooSoonModel_13 ⟨_, rfl, rfl⟩ fw_6_2 (by decide +kernel) (by decide +kernel) rfl rfl rfl rfl ?_
  exact kk
def kM3 : it_KK := it_on (it_new kM2 0 12) 45 3
set_option maxHeartbeats 4000000 in
set_option maxRecDepth 100000 in
theorem Mi_2 {g : it_G} {l : Launch} {S : it_SS} {P : Option Value → it_KK → it_SS → Prop} (kk : it_Ev g l 10 it_m_X6_init 3 24 28 [some (.ref 45), none] [] kM3 (it_zero S 48) P) : it_Ev g l 10 it_m_X6_init 2 12 20 [some (.ref 45), none] [] kM2 S P := by
  refine ev_aload_n d_X6_init_20 rfl ?_
  refine ev_bipush (v := 12) d_X6_init_21 (by decide) ?_
  refine ev_newa (N := 12) d_X6_init_23 (by decide) ar_int (by decide) (by decide) (by decide) (by decide) (by decide) ?_
  show it_Ev g l 10 it_m_X6_init 3 24 25 [some (.ref 45), none] [.ref 48, .ref 45] (it_new kM2 0 12) (it_zero S 48) P
  refine ev_putR (ci := 6) (k := 3) (n := 0) d_X6_init_25 (by decide) rfl fl_IcedTooSoonModel_16 ⟨_, rfl, rfl⟩ fw_6_3 (by decide +kernel) (by decide +kernel) rfl rfl rfl rfl ?_
  exact kk
def kM4 : it_KK := it_on (it_new kM3 0 30) 45 4
set_option maxHeartbeats 4000000 in
set_option maxRecDepth 100000 in
theorem Mi_3 {g : it_G} {l : Launch} {S : it_SS} {P : Option Value → it_KK → it_SS → Prop} (kk : it_Ev g l 10 it_m_X6_init 4 54 180 [some (.ref 45), none] [] kM4 (it_row (it_zero S 49) 49 30 f49) P) : it_Ev g l 10 it_m_X6_init 3 24 28 [some (.ref 45), none] [] kM3 S P := by
  refine ev_aload_n d_X6_init_28 rfl ?_
  refine ev_bipush (v := 30) d_X6_init_29 (by decide) ?_
  refine ev_newa (N := 30) d_X6_init_31 (by decide) ar_int (by decide) (by decide) (by decide) (by decide) (by decide) ?_
  show it_Ev g l 10 it_m_X6_init 4 54 33 [some (.ref 45), none] [.ref 49, .ref 45] (it_new kM3 0 30) (it_zero S 49) P
  have ar : it_ar (it_new kM3 0 30) 49 30 := it_ar_b (by decide +kernel)
  refine ev_row0 49 f49 ?_
  refine ev_dup d_X6_init_33 rfl ?_
  refine ev_iconst (v := 0) d_X6_init_34 (by decide) ?_
  refine ev_iconst (v := (-1)) d_X6_init_35 (by decide) ?_
  refine ev_iastF 1 d_X6_init_36 (by decide) ar (by decide) (by decide) rfl (by decide +kernel) rfl ?_
  refine ev_dup d_X6_init_37 rfl ?_
  refine ev_iconst (v := 1) d_X6_init_38 (by decide) ?_
  refine ev_iconst (v := 0) d_X6_init_39 (by decide) ?_
  refine ev_iastF 2 d_X6_init_40 (by decide) ar (by decide) (by decide) rfl (by decide +kernel) rfl ?_
  refine ev_dup d_X6_init_41 rfl ?_
  refine ev_iconst (v := 2) d_X6_init_42 (by decide) ?_
  refine ev_iconst (v := 0) d_X6_init_43 (by decide) ?_
  refine ev_iastF 3 d_X6_init_44 (by decide) ar (by decide) (by decide) rfl (by decide +kernel) rfl ?_
  refine ev_dup d_X6_init_45 rfl ?_
  refine ev_iconst (v := 3) d_X6_init_46 (by decide) ?_
  refine ev_iconst (v := (-1)) d_X6_init_47 (by decide) ?_
  refine ev_iastF 4 d_X6_init_48 (by decide) ar (by decide) (by decide) rfl (by decide +kernel) rfl ?_
  refine ev_dup d_X6_init_49 rfl ?_
  refine ev_iconst (v := 4) d_X6_init_50 (by decide) ?_
  refine ev_iconst (v := 0) d_X6_init_51 (by decide) ?_
  refine ev_iastF 5 d_X6_init_52 (by decide) ar (by decide) (by decide) rfl (by decide +kernel) rfl ?_
  refine ev_dup d_X6_init_53 rfl ?_
  refine ev_iconst (v := 5) d_X6_init_54 (by decide) ?_
  refine ev_iconst (v := 0) d_X6_init_55 (by decide) ?_
  refine ev_iastF 6 d_X6_init_56 (by decide) ar (by decide) (by decide) rfl (by decide +kernel) rfl ?_
  refine ev_dup d_X6_init_57 rfl ?_
  refine ev_bipush (v := 6) d_X6_init_58 (by decide) ?_
  refine ev_iconst (v := (-1)) d_X6_init_60 (by decide) ?_
  refine ev_iastF 7 d_X6_init_61 (by decide) ar (by decide) (by decide) rfl (by decide +kernel) rfl ?_
  refine ev_dup d_X6_init_62 rfl ?_
  refine ev_bipush (v := 7) d_X6_init_63 (by decide) ?_
  refine ev_iconst (v := 0) d_X6_init_65 (by decide) ?_
  refine ev_iastF 8 d_X6_init_66 (by decide) ar (by decide) (by decide) rfl (by decide +kernel) rfl ?_
  refine ev_dup d_X6_init_67 rfl ?_
  refine ev_bipush (v := 8) d_X6_init_68 (by decide) ?_
  refine ev_iconst (v := 0) d_X6_init_70 (by decide) ?_
  refine ev_iastF 9 d_X6_init_71 (by decide) ar (by decide) (by decide) rfl (by decide +kernel) rfl ?_
  refine ev_dup d_X6_init_72 rfl ?_
  refine ev_bipush (v := 9) d_X6_init_73 (by decide) ?_
  refine ev_iconst (v := (-1)) d_X6_init_75 (by decide) ?_
  refine ev_iastF 10 d_X6_init_76 (by decide) ar (by decide) (by decide) rfl (by decide +kernel) rfl ?_
  refine ev_dup d_X6_init_77 rfl ?_
  refine ev_bipush (v := 10) d_X6_init_78 (by decide) ?_
  refine ev_iconst (v := 0) d_X6_init_80 (by decide) ?_
  refine ev_iastF 11 d_X6_init_81 (by decide) ar (by decide) (by decide) rfl (by decide +kernel) rfl ?_
  refine ev_dup d_X6_init_82 rfl ?_
  refine ev_bipush (v := 11) d_X6_init_83 (by decide) ?_
  refine ev_iconst (v := 0) d_X6_init_85 (by decide) ?_
  refine ev_iastF 12 d_X6_init_86 (by decide) ar (by decide) (by decide) rfl (by decide +kernel) rfl ?_
  refine ev_dup d_X6_init_87 rfl ?_
  refine ev_bipush (v := 12) d_X6_init_88 (by decide) ?_
  refine ev_iconst (v := (-1)) d_X6_init_90 (by decide) ?_
  refine ev_iastF 13 d_X6_init_91 (by decide) ar (by decide) (by decide) rfl (by decide +kernel) rfl ?_
  refine ev_dup d_X6_init_92 rfl ?_
  refine ev_bipush (v := 13) d_X6_init_93 (by decide) ?_
  refine ev_iconst (v := 0) d_X6_init_95 (by decide) ?_
  refine ev_iastF 14 d_X6_init_96 (by decide) ar (by decide) (by decide) rfl (by decide +kernel) rfl ?_
  refine ev_dup d_X6_init_97 rfl ?_
  refine ev_bipush (v := 14) d_X6_init_98 (by decide) ?_
  refine ev_iconst (v := 0) d_X6_init_100 (by decide) ?_
  refine ev_iastF 15 d_X6_init_101 (by decide) ar (by decide) (by decide) rfl (by decide +kernel) rfl ?_
  refine ev_dup d_X6_init_102 rfl ?_
  refine ev_bipush (v := 15) d_X6_init_103 (by decide) ?_
  refine ev_iconst (v := (-1)) d_X6_init_105 (by decide) ?_
  refine ev_iastF 16 d_X6_init_106 (by decide) ar (by decide) (by decide) rfl (by decide +kernel) rfl ?_
  refine ev_dup d_X6_init_107 rfl ?_
  refine ev_bipush (v := 16) d_X6_init_108 (by decide) ?_
  refine ev_iconst (v := 0) d_X6_init_110 (by decide) ?_
  refine ev_iastF 17 d_X6_init_111 (by decide) ar (by decide) (by decide) rfl (by decide +kernel) rfl ?_
  refine ev_dup d_X6_init_112 rfl ?_
  refine ev_bipush (v := 17) d_X6_init_113 (by decide) ?_
  refine ev_iconst (v := 0) d_X6_init_115 (by decide) ?_
  refine ev_iastF 18 d_X6_init_116 (by decide) ar (by decide) (by decide) rfl (by decide +kernel) rfl ?_
  refine ev_dup d_X6_init_117 rfl ?_
  refine ev_bipush (v := 18) d_X6_init_118 (by decide) ?_
  refine ev_iconst (v := (-1)) d_X6_init_120 (by decide) ?_
  refine ev_iastF 19 d_X6_init_121 (by decide) ar (by decide) (by decide) rfl (by decide +kernel) rfl ?_
  refine ev_dup d_X6_init_122 rfl ?_
  refine ev_bipush (v := 19) d_X6_init_123 (by decide) ?_
  refine ev_iconst (v := 0) d_X6_init_125 (by decide) ?_
  refine ev_iastF 20 d_X6_init_126 (by decide) ar (by decide) (by decide) rfl (by decide +kernel) rfl ?_
  refine ev_dup d_X6_init_127 rfl ?_
  refine ev_bipush (v := 20) d_X6_init_128 (by decide) ?_
  refine ev_iconst (v := 0) d_X6_init_130 (by decide) ?_
  refine ev_iastF 21 d_X6_init_131 (by decide) ar (by decide) (by decide) rfl (by decide +kernel) rfl ?_
  refine ev_dup d_X6_init_132 rfl ?_
  refine ev_bipush (v := 21) d_X6_init_133 (by decide) ?_
  refine ev_iconst (v := (-1)) d_X6_init_135 (by decide) ?_
  refine ev_iastF 22 d_X6_init_136 (by decide) ar (by decide) (by decide) rfl (by decide +kernel) rfl ?_
  refine ev_dup d_X6_init_137 rfl ?_
  refine ev_bipush (v := 22) d_X6_init_138 (by decide) ?_
  refine ev_iconst (v := 0) d_X6_init_140 (by decide) ?_
  refine ev_iastF 23 d_X6_init_141 (by decide) ar (by decide) (by decide) rfl (by decide +kernel) rfl ?_
  refine ev_dup d_X6_init_142 rfl ?_
  refine ev_bipush (v := 23) d_X6_init_143 (by decide) ?_
  refine ev_iconst (v := 0) d_X6_init_145 (by decide) ?_
  refine ev_iastF 24 d_X6_init_146 (by decide) ar (by decide) (by decide) rfl (by decide +kernel) rfl ?_
  refine ev_dup d_X6_init_147 rfl ?_
  refine ev_bipush (v := 24) d_X6_init_148 (by decide) ?_
  refine ev_iconst (v := (-1)) d_X6_init_150 (by decide) ?_
  refine ev_iastF 25 d_X6_init_151 (by decide) ar (by decide) (by decide) rfl (by decide +kernel) rfl ?_
  refine ev_dup d_X6_init_152 rfl ?_
  refine ev_bipush (v := 25) d_X6_init_153 (by decide) ?_
  refine ev_iconst (v := 0) d_X6_init_155 (by decide) ?_
  refine ev_iastF 26 d_X6_init_156 (by decide) ar (by decide) (by decide) rfl (by decide +kernel) rfl ?_
  refine ev_dup d_X6_init_157 rfl ?_
  refine ev_bipush (v := 26) d_X6_init_158 (by decide) ?_
  refine ev_iconst (v := 0) d_X6_init_160 (by decide) ?_
  refine ev_iastF 27 d_X6_init_161 (by decide) ar (by decide) (by decide) rfl (by decide +kernel) rfl ?_
  refine ev_dup d_X6_init_162 rfl ?_
  refine ev_bipush (v := 27) d_X6_init_163 (by decide) ?_
  refine ev_iconst (v := (-1)) d_X6_init_165 (by decide) ?_
  refine ev_iastF 28 d_X6_init_166 (by decide) ar (by decide) (by decide) rfl (by decide +kernel) rfl ?_
  refine ev_dup d_X6_init_167 rfl ?_
  refine ev_bipush (v := 28) d_X6_init_168 (by decide) ?_
  refine ev_iconst (v := 0) d_X6_init_170 (by decide) ?_
  refine ev_iastF 29 d_X6_init_171 (by decide) ar (by decide) (by decide) rfl (by decide +kernel) rfl ?_
  refine ev_dup d_X6_init_172 rfl ?_
  refine ev_bipush (v := 29) d_X6_init_173 (by decide) ?_
  refine ev_iconst (v := 0) d_X6_init_175 (by decide) ?_
  refine ev_iastF 30 d_X6_init_176 (by decide) ar (by decide) (by decide) rfl (by decide +kernel) rfl ?_
  refine ev_putR (ci := 6) (k := 4) (n := 0) d_X6_init_177 (by decide) rfl fl_IcedTooSoonModel_19 ⟨_, rfl, rfl⟩ fw_6_4 (by decide +kernel) (by decide +kernel) rfl rfl rfl rfl ?_
  exact kk
def kM5 : it_KK := it_on (it_new kM4 0 160) 45 6
set_option maxHeartbeats 4000000 in
set_option maxRecDepth 100000 in
theorem Mi_4 {g : it_G} {l : Launch} {S : it_SS} {P : Option Value → it_KK → it_SS → Prop} (kk : it_Ev g l 10 it_m_X6_init 5 214 189 [some (.ref 45), none] [] kM5 (it_zero S 50) P) : it_Ev g l 10 it_m_X6_init 4 54 180 [some (.ref 45), none] [] kM4 S P := by
  refine ev_aload_n d_X6_init_180 rfl ?_
  refine ev_sipush (v := 160) d_X6_init_181 (by decide) ?_
  refine ev_newa (N := 160) d_X6_init_184 (by decide) ar_int (by decide) (by decide) (by decide) (by decide) (by decide) ?_
  show it_Ev g l 10 it_m_X6_init 5 214 186 [some (.ref 45), none] [.ref 50, .ref 45] (it_new kM4 0 160) (it_zero S 50) P
  refine ev_putR (ci := 6) (k := 6) (n := 0) d_X6_init_186 (by decide) rfl fl_IcedTooSoonModel_22 ⟨_, rfl, rfl⟩ fw_6_6 (by decide +kernel) (by decide +kernel) rfl rfl rfl rfl ?_
  exact kk
def kM6 : it_KK := it_on (it_new kM5 0 1200) 45 8
set_option maxHeartbeats 4000000 in
set_option maxRecDepth 100000 in
theorem Mi_5 {g : it_G} {l : Launch} {S : it_SS} {P : Option Value → it_KK → it_SS → Prop} (kk : it_Ev g l 10 it_m_X6_init 6 1414 198 [some (.ref 45), none] [] kM6 (it_zero S 51) P) : it_Ev g l 10 it_m_X6_init 5 214 189 [some (.ref 45), none] [] kM5 S P := by
  refine ev_aload_n d_X6_init_189 rfl ?_
  refine ev_sipush (v := 1200) d_X6_init_190 (by decide) ?_
  refine ev_newa (N := 1200) d_X6_init_193 (by decide) ar_int (by decide) (by decide) (by decide) (by decide) (by decide) ?_
  show it_Ev g l 10 it_m_X6_init 6 1414 195 [some (.ref 45), none] [.ref 51, .ref 45] (it_new kM5 0 1200) (it_zero S 51) P
  refine ev_putR (ci := 6) (k := 8) (n := 0) d_X6_init_195 (by decide) rfl fl_IcedTooSoonModel_25 ⟨_, rfl, rfl⟩ fw_6_8 (by decide +kernel) (by decide +kernel) rfl rfl rfl rfl ?_
  exact kk
def kM7 : it_KK := it_on (it_new kM6 0 24) 45 9
set_option maxHeartbeats 4000000 in
set_option maxRecDepth 100000 in
theorem Mi_6 {g : it_G} {l : Launch} {S : it_SS} {P : Option Value → it_KK → it_SS → Prop} (kk : it_Ev g l 10 it_m_X6_init 7 1438 206 [some (.ref 45), none] [] kM7 (it_zero S 52) P) : it_Ev g l 10 it_m_X6_init 6 1414 198 [some (.ref 45), none] [] kM6 S P := by
  refine ev_aload_n d_X6_init_198 rfl ?_
  refine ev_bipush (v := 24) d_X6_init_199 (by decide) ?_
  refine ev_newa (N := 24) d_X6_init_201 (by decide) ar_int (by decide) (by decide) (by decide) (by decide) (by decide) ?_
  show it_Ev g l 10 it_m_X6_init 7 1438 203 [some (.ref 45), none] [.ref 52, .ref 45] (it_new kM6 0 24) (it_zero S 52) P
  refine ev_putR (ci := 6) (k := 9) (n := 0) d_X6_init_203 (by decide) rfl fl_IcedTooSoonModel_28 ⟨_, rfl, rfl⟩ fw_6_9 (by decide +kernel) (by decide +kernel) rfl rfl rfl rfl ?_
  exact kk
def kM8 : it_KK := it_on (it_new kM7 0 42) 45 13
set_option maxHeartbeats 4000000 in
set_option maxRecDepth 100000 in
theorem Mi_7 {g : it_G} {l : Launch} {S : it_SS} {P : Option Value → it_KK → it_SS → Prop} (kk : it_Ev g l 10 it_m_X6_init 8 1480 214 [some (.ref 45), none] [] kM8 (it_zero S 53) P) : it_Ev g l 10 it_m_X6_init 7 1438 206 [some (.ref 45), none] [] kM7 S P := by
  refine ev_aload_n d_X6_init_206 rfl ?_
  refine ev_bipush (v := 42) d_X6_init_207 (by decide) ?_
  refine ev_newa (N := 42) d_X6_init_209 (by decide) ar_int (by decide) (by decide) (by decide) (by decide) (by decide) ?_
  show it_Ev g l 10 it_m_X6_init 8 1480 211 [some (.ref 45), none] [.ref 53, .ref 45] (it_new kM7 0 42) (it_zero S 53) P
  refine ev_putR (ci := 6) (k := 13) (n := 0) d_X6_init_211 (by decide) rfl fl_IcedTooSoonModel_31 ⟨_, rfl, rfl⟩ fw_6_13 (by decide +kernel) (by decide +kernel) rfl rfl rfl rfl ?_
  exact kk
def kM9 : it_KK := it_on (it_new kM8 0 3) 45 14
set_option maxHeartbeats 4000000 in
set_option maxRecDepth 100000 in
theorem Mi_8 {g : it_G} {l : Launch} {S : it_SS} {P : Option Value → it_KK → it_SS → Prop} (kk : it_Ev g l 10 it_m_X6_init 9 1483 221 [some (.ref 45), none] [] kM9 (it_zero S 54) P) : it_Ev g l 10 it_m_X6_init 8 1480 214 [some (.ref 45), none] [] kM8 S P := by
  refine ev_aload_n d_X6_init_214 rfl ?_
  refine ev_iconst (v := 3) d_X6_init_215 (by decide) ?_
  refine ev_newa (N := 3) d_X6_init_216 (by decide) ar_int (by decide) (by decide) (by decide) (by decide) (by decide) ?_
  show it_Ev g l 10 it_m_X6_init 9 1483 218 [some (.ref 45), none] [.ref 54, .ref 45] (it_new kM8 0 3) (it_zero S 54) P
  refine ev_putR (ci := 6) (k := 14) (n := 0) d_X6_init_218 (by decide) rfl fl_IcedTooSoonModel_34 ⟨_, rfl, rfl⟩ fw_6_14 (by decide +kernel) (by decide +kernel) rfl rfl rfl rfl ?_
  exact kk
def kM10 : it_KK := it_on (it_new kM9 0 4) 45 15
set_option maxHeartbeats 4000000 in
set_option maxRecDepth 100000 in
theorem Mi_9 {g : it_G} {l : Launch} {S : it_SS} {P : Option Value → it_KK → it_SS → Prop} (kk : it_Ev g l 10 it_m_X6_init 10 1487 244 [some (.ref 45), none] [] kM10 (it_row (it_zero S 55) 55 4 f55) P) : it_Ev g l 10 it_m_X6_init 9 1483 221 [some (.ref 45), none] [] kM9 S P := by
  refine ev_aload_n d_X6_init_221 rfl ?_
  refine ev_iconst (v := 4) d_X6_init_222 (by decide) ?_
  refine ev_newa (N := 4) d_X6_init_223 (by decide) ar_int (by decide) (by decide) (by decide) (by decide) (by decide) ?_
  show it_Ev g l 10 it_m_X6_init 10 1487 225 [some (.ref 45), none] [.ref 55, .ref 45] (it_new kM9 0 4) (it_zero S 55) P
  have ar : it_ar (it_new kM9 0 4) 55 4 := it_ar_b (by decide +kernel)
  refine ev_row0 55 f55 ?_
  refine ev_dup d_X6_init_225 rfl ?_
  refine ev_iconst (v := 0) d_X6_init_226 (by decide) ?_
  refine ev_iconst (v := (-1)) d_X6_init_227 (by decide) ?_
  refine ev_iastF 1 d_X6_init_228 (by decide) ar (by decide) (by decide) rfl (by decide +kernel) rfl ?_
  refine ev_dup d_X6_init_229 rfl ?_
  refine ev_iconst (v := 1) d_X6_init_230 (by decide) ?_
  refine ev_iconst (v := (-1)) d_X6_init_231 (by decide) ?_
  refine ev_iastF 2 d_X6_init_232 (by decide) ar (by decide) (by decide) rfl (by decide +kernel) rfl ?_
  refine ev_dup d_X6_init_233 rfl ?_
  refine ev_iconst (v := 2) d_X6_init_234 (by decide) ?_
  refine ev_iconst (v := (-1)) d_X6_init_235 (by decide) ?_
  refine ev_iastF 3 d_X6_init_236 (by decide) ar (by decide) (by decide) rfl (by decide +kernel) rfl ?_
  refine ev_dup d_X6_init_237 rfl ?_
  refine ev_iconst (v := 3) d_X6_init_238 (by decide) ?_
  refine ev_iconst (v := (-1)) d_X6_init_239 (by decide) ?_
  refine ev_iastF 4 d_X6_init_240 (by decide) ar (by decide) (by decide) rfl (by decide +kernel) rfl ?_
  refine ev_putR (ci := 6) (k := 15) (n := 0) d_X6_init_241 (by decide) rfl fl_IcedTooSoonModel_37 ⟨_, rfl, rfl⟩ fw_6_15 (by decide +kernel) (by decide +kernel) rfl rfl rfl rfl ?_
  exact kk
def kM11 : it_KK := it_on (it_new kM10 0 4) 45 16
set_option maxHeartbeats 4000000 in
set_option maxRecDepth 100000 in
theorem Mi_10 {g : it_G} {l : Launch} {S : it_SS} {P : Option Value → it_KK → it_SS → Prop} (kk : it_Ev g l 10 it_m_X6_init 11 1491 251 [some (.ref 45), none] [] kM11 (it_zero S 56) P) : it_Ev g l 10 it_m_X6_init 10 1487 244 [some (.ref 45), none] [] kM10 S P := by
  refine ev_aload_n d_X6_init_244 rfl ?_
  refine ev_iconst (v := 4) d_X6_init_245 (by decide) ?_
  refine ev_newa (N := 4) d_X6_init_246 (by decide) ar_int (by decide) (by decide) (by decide) (by decide) (by decide) ?_
  show it_Ev g l 10 it_m_X6_init 11 1491 248 [some (.ref 45), none] [.ref 56, .ref 45] (it_new kM10 0 4) (it_zero S 56) P
  refine ev_putR (ci := 6) (k := 16) (n := 0) d_X6_init_248 (by decide) rfl fl_IcedTooSoonModel_40 ⟨_, rfl, rfl⟩ fw_6_16 (by decide +kernel) (by decide +kernel) rfl rfl rfl rfl ?_
  exact kk
def kM12 : it_KK := it_on (it_new kM11 0 160) 45 17
set_option maxHeartbeats 4000000 in
set_option maxRecDepth 100000 in
theorem Mi_11 {g : it_G} {l : Launch} {S : it_SS} {P : Option Value → it_KK → it_SS → Prop} (kk : it_Ev g l 10 it_m_X6_init 12 1651 260 [some (.ref 45), none] [] kM12 (it_zero S 57) P) : it_Ev g l 10 it_m_X6_init 11 1491 251 [some (.ref 45), none] [] kM11 S P := by
  refine ev_aload_n d_X6_init_251 rfl ?_
  refine ev_sipush (v := 160) d_X6_init_252 (by decide) ?_
  refine ev_newa (N := 160) d_X6_init_255 (by decide) ar_int (by decide) (by decide) (by decide) (by decide) (by decide) ?_
  show it_Ev g l 10 it_m_X6_init 12 1651 257 [some (.ref 45), none] [.ref 57, .ref 45] (it_new kM11 0 160) (it_zero S 57) P
  refine ev_putR (ci := 6) (k := 17) (n := 0) d_X6_init_257 (by decide) rfl fl_IcedTooSoonModel_43 ⟨_, rfl, rfl⟩ fw_6_17 (by decide +kernel) (by decide +kernel) rfl rfl rfl rfl ?_
  exact kk
def kM13 : it_KK := it_on (it_new kM12 0 36) 45 18
set_option maxHeartbeats 4000000 in
set_option maxRecDepth 100000 in
theorem Mi_12 {g : it_G} {l : Launch} {S : it_SS} {P : Option Value → it_KK → it_SS → Prop} (kk : it_Ev g l 10 it_m_X6_init 13 1687 478 [some (.ref 45), none] [] kM13 (it_row (it_zero S 58) 58 36 f58) P) : it_Ev g l 10 it_m_X6_init 12 1651 260 [some (.ref 45), none] [] kM12 S P := by
  refine ev_aload_n d_X6_init_260 rfl ?_
  refine ev_bipush (v := 36) d_X6_init_261 (by decide) ?_
  refine ev_newa (N := 36) d_X6_init_263 (by decide) ar_int (by decide) (by decide) (by decide) (by decide) (by decide) ?_
  show it_Ev g l 10 it_m_X6_init 13 1687 265 [some (.ref 45), none] [.ref 58, .ref 45] (it_new kM12 0 36) (it_zero S 58) P
  have ar : it_ar (it_new kM12 0 36) 58 36 := it_ar_b (by decide +kernel)
  refine ev_row0 58 f58 ?_
  refine ev_dup d_X6_init_265 rfl ?_
  refine ev_iconst (v := 0) d_X6_init_266 (by decide) ?_
  refine ev_bipush (v := 109) d_X6_init_267 (by decide) ?_
  refine ev_iastF 1 d_X6_init_269 (by decide) ar (by decide) (by decide) rfl (by decide +kernel) rfl ?_
  refine ev_dup d_X6_init_270 rfl ?_
  refine ev_iconst (v := 1) d_X6_init_271 (by decide) ?_
  refine ev_bipush (v := 101) d_X6_init_272 (by decide) ?_
  refine ev_iastF 2 d_X6_init_274 (by decide) ar (by decide) (by decide) rfl (by decide +kernel) rfl ?_
  refine ev_dup d_X6_init_275 rfl ?_
  refine ev_iconst (v := 2) d_X6_init_276 (by decide) ?_
  refine ev_bipush (v := 108) d_X6_init_277 (by decide) ?_
  refine ev_iastF 3 d_X6_init_279 (by decide) ar (by decide) (by decide) rfl (by decide +kernel) rfl ?_
  refine ev_dup d_X6_init_280 rfl ?_
  refine ev_iconst (v := 3) d_X6_init_281 (by decide) ?_
  refine ev_bipush (v := 116) d_X6_init_282 (by decide) ?_
  refine ev_iastF 4 d_X6_init_284 (by decide) ar (by decide) (by decide) rfl (by decide +kernel) rfl ?_
  refine ev_dup d_X6_init_285 rfl ?_
  refine ev_iconst (v := 4) d_X6_init_286 (by decide) ?_
  refine ev_bipush (v := 115) d_X6_init_287 (by decide) ?_
  refine ev_iastF 5 d_X6_init_289 (by decide) ar (by decide) (by decide) rfl (by decide +kernel) rfl ?_
  refine ev_dup d_X6_init_290 rfl ?_
  refine ev_iconst (v := 5) d_X6_init_291 (by decide) ?_
  refine ev_bipush (v := 32) d_X6_init_292 (by decide) ?_
  refine ev_iastF 6 d_X6_init_294 (by decide) ar (by decide) (by decide) rfl (by decide +kernel) rfl ?_
  refine ev_dup d_X6_init_295 rfl ?_
  refine ev_bipush (v := 6) d_X6_init_296 (by decide) ?_
  refine ev_bipush (v := 49) d_X6_init_298 (by decide) ?_
  refine ev_iastF 7 d_X6_init_300 (by decide) ar (by decide) (by decide) rfl (by decide +kernel) rfl ?_
  refine ev_dup d_X6_init_301 rfl ?_
  refine ev_bipush (v := 7) d_X6_init_302 (by decide) ?_
  refine ev_bipush (v := 48) d_X6_init_304 (by decide) ?_
  refine ev_iastF 8 d_X6_init_306 (by decide) ar (by decide) (by decide) rfl (by decide +kernel) rfl ?_
  refine ev_dup d_X6_init_307 rfl ?_
  refine ev_bipush (v := 8) d_X6_init_308 (by decide) ?_
  refine ev_bipush (v := 32) d_X6_init_310 (by decide) ?_
  refine ev_iastF 9 d_X6_init_312 (by decide) ar (by decide) (by decide) rfl (by decide +kernel) rfl ?_
  refine ev_dup d_X6_init_313 rfl ?_
  refine ev_bipush (v := 9) d_X6_init_314 (by decide) ?_
  refine ev_bipush (v := 59) d_X6_init_316 (by decide) ?_
  refine ev_iastF 10 d_X6_init_318 (by decide) ar (by decide) (by decide) rfl (by decide +kernel) rfl ?_
  refine ev_dup d_X6_init_319 rfl ?_
  refine ev_bipush (v := 10) d_X6_init_320 (by decide) ?_
  refine ev_bipush (v := 32) d_X6_init_322 (by decide) ?_
  refine ev_iastF 11 d_X6_init_324 (by decide) ar (by decide) (by decide) rfl (by decide +kernel) rfl ?_
  refine ev_dup d_X6_init_325 rfl ?_
  refine ev_bipush (v := 11) d_X6_init_326 (by decide) ?_
  refine ev_bipush (v := 102) d_X6_init_328 (by decide) ?_
  refine ev_iastF 12 d_X6_init_330 (by decide) ar (by decide) (by decide) rfl (by decide +kernel) rfl ?_
  refine ev_dup d_X6_init_331 rfl ?_
  refine ev_bipush (v := 12) d_X6_init_332 (by decide) ?_
  refine ev_bipush (v := 101) d_X6_init_334 (by decide) ?_
  refine ev_iastF 13 d_X6_init_336 (by decide) ar (by decide) (by decide) rfl (by decide +kernel) rfl ?_
  refine ev_dup d_X6_init_337 rfl ?_
  refine ev_bipush (v := 13) d_X6_init_338 (by decide) ?_
  refine ev_bipush (v := 101) d_X6_init_340 (by decide) ?_
  refine ev_iastF 14 d_X6_init_342 (by decide) ar (by decide) (by decide) rfl (by decide +kernel) rfl ?_
  refine ev_dup d_X6_init_343 rfl ?_
  refine ev_bipush (v := 14) d_X6_init_344 (by decide) ?_
  refine ev_bipush (v := 108) d_X6_init_346 (by decide) ?_
  refine ev_iastF 15 d_X6_init_348 (by decide) ar (by decide) (by decide) rfl (by decide +kernel) rfl ?_
  refine ev_dup d_X6_init_349 rfl ?_
  refine ev_bipush (v := 15) d_X6_init_350 (by decide) ?_
  refine ev_bipush (v := 115) d_X6_init_352 (by decide) ?_
  refine ev_iastF 16 d_X6_init_354 (by decide) ar (by decide) (by decide) rfl (by decide +kernel) rfl ?_
  refine ev_dup d_X6_init_355 rfl ?_
  refine ev_bipush (v := 16) d_X6_init_356 (by decide) ?_
  refine ev_bipush (v := 32) d_X6_init_358 (by decide) ?_
  refine ev_iastF 17 d_X6_init_360 (by decide) ar (by decide) (by decide) rfl (by decide +kernel) rfl ?_
  refine ev_dup d_X6_init_361 rfl ?_
  refine ev_bipush (v := 17) d_X6_init_362 (by decide) ?_
  refine ev_bipush (v := 119) d_X6_init_364 (by decide) ?_
  refine ev_iastF 18 d_X6_init_366 (by decide) ar (by decide) (by decide) rfl (by decide +kernel) rfl ?_
  refine ev_dup d_X6_init_367 rfl ?_
  refine ev_bipush (v := 18) d_X6_init_368 (by decide) ?_
  refine ev_bipush (v := 101) d_X6_init_370 (by decide) ?_
  refine ev_iastF 19 d_X6_init_372 (by decide) ar (by decide) (by decide) rfl (by decide +kernel) rfl ?_
  refine ev_dup d_X6_init_373 rfl ?_
  refine ev_bipush (v := 19) d_X6_init_374 (by decide) ?_
  refine ev_bipush (v := 105) d_X6_init_376 (by decide) ?_
  refine ev_iastF 20 d_X6_init_378 (by decide) ar (by decide) (by decide) rfl (by decide +kernel) rfl ?_
  refine ev_dup d_X6_init_379 rfl ?_
  refine ev_bipush (v := 20) d_X6_init_380 (by decide) ?_
  refine ev_bipush (v := 103) d_X6_init_382 (by decide) ?_
  refine ev_iastF 21 d_X6_init_384 (by decide) ar (by decide) (by decide) rfl (by decide +kernel) rfl ?_
  refine ev_dup d_X6_init_385 rfl ?_
  refine ev_bipush (v := 21) d_X6_init_386 (by decide) ?_
  refine ev_bipush (v := 104) d_X6_init_388 (by decide) ?_
  refine ev_iastF 22 d_X6_init_390 (by decide) ar (by decide) (by decide) rfl (by decide +kernel) rfl ?_
  refine ev_dup d_X6_init_391 rfl ?_
  refine ev_bipush (v := 22) d_X6_init_392 (by decide) ?_
  refine ev_bipush (v := 116) d_X6_init_394 (by decide) ?_
  refine ev_iastF 23 d_X6_init_396 (by decide) ar (by decide) (by decide) rfl (by decide +kernel) rfl ?_
  refine ev_dup d_X6_init_397 rfl ?_
  refine ev_bipush (v := 23) d_X6_init_398 (by decide) ?_
  refine ev_bipush (v := 32) d_X6_init_400 (by decide) ?_
  refine ev_iastF 24 d_X6_init_402 (by decide) ar (by decide) (by decide) rfl (by decide +kernel) rfl ?_
  refine ev_dup d_X6_init_403 rfl ?_
  refine ev_bipush (v := 24) d_X6_init_404 (by decide) ?_
  refine ev_bipush (v := 59) d_X6_init_406 (by decide) ?_
  refine ev_iastF 25 d_X6_init_408 (by decide) ar (by decide) (by decide) rfl (by decide +kernel) rfl ?_
  refine ev_dup d_X6_init_409 rfl ?_
  refine ev_bipush (v := 25) d_X6_init_410 (by decide) ?_
  refine ev_bipush (v := 32) d_X6_init_412 (by decide) ?_
  refine ev_iastF 26 d_X6_init_414 (by decide) ar (by decide) (by decide) rfl (by decide +kernel) rfl ?_
  refine ev_dup d_X6_init_415 rfl ?_
  refine ev_bipush (v := 26) d_X6_init_416 (by decide) ?_
  refine ev_bipush (v := 99) d_X6_init_418 (by decide) ?_
  refine ev_iastF 27 d_X6_init_420 (by decide) ar (by decide) (by decide) rfl (by decide +kernel) rfl ?_
  refine ev_dup d_X6_init_421 rfl ?_
  refine ev_bipush (v := 27) d_X6_init_422 (by decide) ?_
  refine ev_bipush (v := 104) d_X6_init_424 (by decide) ?_
  refine ev_iastF 28 d_X6_init_426 (by decide) ar (by decide) (by decide) rfl (by decide +kernel) rfl ?_
  refine ev_dup d_X6_init_427 rfl ?_
  refine ev_bipush (v := 28) d_X6_init_428 (by decide) ?_
  refine ev_bipush (v := 105) d_X6_init_430 (by decide) ?_
  refine ev_iastF 29 d_X6_init_432 (by decide) ar (by decide) (by decide) rfl (by decide +kernel) rfl ?_
  refine ev_dup d_X6_init_433 rfl ?_
  refine ev_bipush (v := 29) d_X6_init_434 (by decide) ?_
  refine ev_bipush (v := 108) d_X6_init_436 (by decide) ?_
  refine ev_iastF 30 d_X6_init_438 (by decide) ar (by decide) (by decide) rfl (by decide +kernel) rfl ?_
  refine ev_dup d_X6_init_439 rfl ?_
  refine ev_bipush (v := 30) d_X6_init_440 (by decide) ?_
  refine ev_bipush (v := 108) d_X6_init_442 (by decide) ?_
  refine ev_iastF 31 d_X6_init_444 (by decide) ar (by decide) (by decide) rfl (by decide +kernel) rfl ?_
  refine ev_dup d_X6_init_445 rfl ?_
  refine ev_bipush (v := 31) d_X6_init_446 (by decide) ?_
  refine ev_bipush (v := 115) d_X6_init_448 (by decide) ?_
  refine ev_iastF 32 d_X6_init_450 (by decide) ar (by decide) (by decide) rfl (by decide +kernel) rfl ?_
  refine ev_dup d_X6_init_451 rfl ?_
  refine ev_bipush (v := 32) d_X6_init_452 (by decide) ?_
  refine ev_bipush (v := 32) d_X6_init_454 (by decide) ?_
  refine ev_iastF 33 d_X6_init_456 (by decide) ar (by decide) (by decide) rfl (by decide +kernel) rfl ?_
  refine ev_dup d_X6_init_457 rfl ?_
  refine ev_bipush (v := 33) d_X6_init_458 (by decide) ?_
  refine ev_bipush (v := 53) d_X6_init_460 (by decide) ?_
  refine ev_iastF 34 d_X6_init_462 (by decide) ar (by decide) (by decide) rfl (by decide +kernel) rfl ?_
  refine ev_dup d_X6_init_463 rfl ?_
  refine ev_bipush (v := 34) d_X6_init_464 (by decide) ?_
  refine ev_bipush (v := 32) d_X6_init_466 (by decide) ?_
  refine ev_iastF 35 d_X6_init_468 (by decide) ar (by decide) (by decide) rfl (by decide +kernel) rfl ?_
  refine ev_dup d_X6_init_469 rfl ?_
  refine ev_bipush (v := 35) d_X6_init_470 (by decide) ?_
  refine ev_bipush (v := 59) d_X6_init_472 (by decide) ?_
  refine ev_iastF 36 d_X6_init_474 (by decide) ar (by decide) (by decide) rfl (by decide +kernel) rfl ?_
  refine ev_putR (ci := 6) (k := 18) (n := 0) d_X6_init_475 (by decide) rfl fl_IcedTooSoonModel_46 ⟨_, rfl, rfl⟩ fw_6_18 (by decide +kernel) (by decide +kernel) rfl rfl rfl rfl ?_
  exact kk
def kM14 : it_KK := it_on (it_new kM13 0 96) 45 23
set_option maxHeartbeats 4000000 in
set_option maxRecDepth 100000 in
theorem Mi_13 {g : it_G} {l : Launch} {S : it_SS} {P : Option Value → it_KK → it_SS → Prop} (kk : it_Ev g l 10 it_m_X6_init 14 1783 1056 [some (.ref 45), none] [] kM14 (it_row (it_zero S 59) 59 96 f59) P) : it_Ev g l 10 it_m_X6_init 13 1687 478 [some (.ref 45), none] [] kM13 S P := by
  refine ev_aload_n d_X6_init_478 rfl ?_
  refine ev_bipush (v := 96) d_X6_init_479 (by decide) ?_
  refine ev_newa (N := 96) d_X6_init_481 (by decide) ar_int (by decide) (by decide) (by decide) (by decide) (by decide) ?_
  show it_Ev g l 10 it_m_X6_init 14 1783 483 [some (.ref 45), none] [.ref 59, .ref 45] (it_new kM13 0 96) (it_zero S 59) P
  have ar : it_ar (it_new kM13 0 96) 59 96 := it_ar_b (by decide +kernel)
  refine ev_row0 59 f59 ?_
  refine ev_dup d_X6_init_483 rfl ?_
  refine ev_iconst (v := 0) d_X6_init_484 (by decide) ?_
  refine ev_bipush (v := 109) d_X6_init_485 (by decide) ?_
  refine ev_iastF 1 d_X6_init_487 (by decide) ar (by decide) (by decide) rfl (by decide +kernel) rfl ?_
  refine ev_dup d_X6_init_488 rfl ?_
  refine ev_iconst (v := 1) d_X6_init_489 (by decide) ?_
  refine ev_bipush (v := 101) d_X6_init_490 (by decide) ?_
  refine ev_iastF 2 d_X6_init_492 (by decide) ar (by decide) (by decide) rfl (by decide +kernel) rfl ?_
  refine ev_dup d_X6_init_493 rfl ?_
  refine ev_iconst (v := 2) d_X6_init_494 (by decide) ?_
  refine ev_bipush (v := 108) d_X6_init_495 (by decide) ?_
  refine ev_iastF 3 d_X6_init_497 (by decide) ar (by decide) (by decide) rfl (by decide +kernel) rfl ?_
  refine ev_dup d_X6_init_498 rfl ?_
  refine ev_iconst (v := 3) d_X6_init_499 (by decide) ?_
  refine ev_bipush (v := 116) d_X6_init_500 (by decide) ?_
  refine ev_iastF 4 d_X6_init_502 (by decide) ar (by decide) (by decide) rfl (by decide +kernel) rfl ?_
  refine ev_dup d_X6_init_503 rfl ?_
  refine ev_iconst (v := 4) d_X6_init_504 (by decide) ?_
  refine ev_bipush (v := 115) d_X6_init_505 (by decide) ?_
  refine ev_iastF 5 d_X6_init_507 (by decide) ar (by decide) (by decide) rfl (by decide +kernel) rfl ?_
  refine ev_dup d_X6_init_508 rfl ?_
  refine ev_iconst (v := 5) d_X6_init_509 (by decide) ?_
  refine ev_bipush (v := 32) d_X6_init_510 (by decide) ?_
  refine ev_iastF 6 d_X6_init_512 (by decide) ar (by decide) (by decide) rfl (by decide +kernel) rfl ?_
  refine ev_dup d_X6_init_513 rfl ?_
  refine ev_bipush (v := 6) d_X6_init_514 (by decide) ?_
  refine ev_bipush (v := 32) d_X6_init_516 (by decide) ?_
  refine ev_iastF 7 d_X6_init_518 (by decide) ar (by decide) (by decide) rfl (by decide +kernel) rfl ?_
  refine ev_dup d_X6_init_519 rfl ?_
  refine ev_bipush (v := 7) d_X6_init_520 (by decide) ?_
  refine ev_bipush (v := 32) d_X6_init_522 (by decide) ?_
  refine ev_iastF 8 d_X6_init_524 (by decide) ar (by decide) (by decide) rfl (by decide +kernel) rfl ?_
  refine ev_dup d_X6_init_525 rfl ?_
  refine ev_bipush (v := 8) d_X6_init_526 (by decide) ?_
  refine ev_bipush (v := 102) d_X6_init_528 (by decide) ?_
  refine ev_iastF 9 d_X6_init_530 (by decide) ar (by decide) (by decide) rfl (by decide +kernel) rfl ?_
  refine ev_dup d_X6_init_531 rfl ?_
  refine ev_bipush (v := 9) d_X6_init_532 (by decide) ?_
  refine ev_bipush (v := 101) d_X6_init_534 (by decide) ?_
  refine ev_iastF 10 d_X6_init_536 (by decide) ar (by decide) (by decide) rfl (by decide +kernel) rfl ?_
  refine ev_dup d_X6_init_537 rfl ?_
  refine ev_bipush (v := 10) d_X6_init_538 (by decide) ?_
  refine ev_bipush (v := 101) d_X6_init_540 (by decide) ?_
  refine ev_iastF 11 d_X6_init_542 (by decide) ar (by decide) (by decide) rfl (by decide +kernel) rfl ?_
  refine ev_dup d_X6_init_543 rfl ?_
  refine ev_bipush (v := 11) d_X6_init_544 (by decide) ?_
  refine ev_bipush (v := 108) d_X6_init_546 (by decide) ?_
  refine ev_iastF 12 d_X6_init_548 (by decide) ar (by decide) (by decide) rfl (by decide +kernel) rfl ?_
  refine ev_dup d_X6_init_549 rfl ?_
  refine ev_bipush (v := 12) d_X6_init_550 (by decide) ?_
  refine ev_bipush (v := 115) d_X6_init_552 (by decide) ?_
  refine ev_iastF 13 d_X6_init_554 (by decide) ar (by decide) (by decide) rfl (by decide +kernel) rfl ?_
  refine ev_dup d_X6_init_555 rfl ?_
  refine ev_bipush (v := 13) d_X6_init_556 (by decide) ?_
  refine ev_bipush (v := 32) d_X6_init_558 (by decide) ?_
  refine ev_iastF 14 d_X6_init_560 (by decide) ar (by decide) (by decide) rfl (by decide +kernel) rfl ?_
  refine ev_dup d_X6_init_561 rfl ?_
  refine ev_bipush (v := 14) d_X6_init_562 (by decide) ?_
  refine ev_bipush (v := 32) d_X6_init_564 (by decide) ?_
  refine ev_iastF 15 d_X6_init_566 (by decide) ar (by decide) (by decide) rfl (by decide +kernel) rfl ?_
  refine ev_dup d_X6_init_567 rfl ?_
  refine ev_bipush (v := 15) d_X6_init_568 (by decide) ?_
  refine ev_bipush (v := 32) d_X6_init_570 (by decide) ?_
  refine ev_iastF 16 d_X6_init_572 (by decide) ar (by decide) (by decide) rfl (by decide +kernel) rfl ?_
  refine ev_dup d_X6_init_573 rfl ?_
  refine ev_bipush (v := 16) d_X6_init_574 (by decide) ?_
  refine ev_bipush (v := 99) d_X6_init_576 (by decide) ?_
  refine ev_iastF 17 d_X6_init_578 (by decide) ar (by decide) (by decide) rfl (by decide +kernel) rfl ?_
  refine ev_dup d_X6_init_579 rfl ?_
  refine ev_bipush (v := 17) d_X6_init_580 (by decide) ?_
  refine ev_bipush (v := 104) d_X6_init_582 (by decide) ?_
  refine ev_iastF 18 d_X6_init_584 (by decide) ar (by decide) (by decide) rfl (by decide +kernel) rfl ?_
  refine ev_dup d_X6_init_585 rfl ?_
  refine ev_bipush (v := 18) d_X6_init_586 (by decide) ?_
  refine ev_bipush (v := 105) d_X6_init_588 (by decide) ?_
  refine ev_iastF 19 d_X6_init_590 (by decide) ar (by decide) (by decide) rfl (by decide +kernel) rfl ?_
  refine ev_dup d_X6_init_591 rfl ?_
  refine ev_bipush (v := 19) d_X6_init_592 (by decide) ?_
  refine ev_bipush (v := 108) d_X6_init_594 (by decide) ?_
  refine ev_iastF 20 d_X6_init_596 (by decide) ar (by decide) (by decide) rfl (by decide +kernel) rfl ?_
  refine ev_dup d_X6_init_597 rfl ?_
  refine ev_bipush (v := 20) d_X6_init_598 (by decide) ?_
  refine ev_bipush (v := 108) d_X6_init_600 (by decide) ?_
  refine ev_iastF 21 d_X6_init_602 (by decide) ar (by decide) (by decide) rfl (by decide +kernel) rfl ?_
  refine ev_dup d_X6_init_603 rfl ?_
  refine ev_bipush (v := 21) d_X6_init_604 (by decide) ?_
  refine ev_bipush (v := 115) d_X6_init_606 (by decide) ?_
  refine ev_iastF 22 d_X6_init_608 (by decide) ar (by decide) (by decide) rfl (by decide +kernel) rfl ?_
  refine ev_dup d_X6_init_609 rfl ?_
  refine ev_bipush (v := 22) d_X6_init_610 (by decide) ?_
  refine ev_bipush (v := 32) d_X6_init_612 (by decide) ?_
  refine ev_iastF 23 d_X6_init_614 (by decide) ar (by decide) (by decide) rfl (by decide +kernel) rfl ?_
  refine ev_dup d_X6_init_615 rfl ?_
  refine ev_bipush (v := 23) d_X6_init_616 (by decide) ?_
  refine ev_bipush (v := 32) d_X6_init_618 (by decide) ?_
  refine ev_iastF 24 d_X6_init_620 (by decide) ar (by decide) (by decide) rfl (by decide +kernel) rfl ?_
  refine ev_dup d_X6_init_621 rfl ?_
  refine ev_bipush (v := 24) d_X6_init_622 (by decide) ?_
  refine ev_bipush (v := 119) d_X6_init_624 (by decide) ?_
  refine ev_iastF 25 d_X6_init_626 (by decide) ar (by decide) (by decide) rfl (by decide +kernel) rfl ?_
  refine ev_dup d_X6_init_627 rfl ?_
  refine ev_bipush (v := 25) d_X6_init_628 (by decide) ?_
  refine ev_bipush (v := 101) d_X6_init_630 (by decide) ?_
  refine ev_iastF 26 d_X6_init_632 (by decide) ar (by decide) (by decide) rfl (by decide +kernel) rfl ?_
  refine ev_dup d_X6_init_633 rfl ?_
  refine ev_bipush (v := 26) d_X6_init_634 (by decide) ?_
  refine ev_bipush (v := 105) d_X6_init_636 (by decide) ?_
  refine ev_iastF 27 d_X6_init_638 (by decide) ar (by decide) (by decide) rfl (by decide +kernel) rfl ?_
  refine ev_dup d_X6_init_639 rfl ?_
  refine ev_bipush (v := 27) d_X6_init_640 (by decide) ?_
  refine ev_bipush (v := 103) d_X6_init_642 (by decide) ?_
  refine ev_iastF 28 d_X6_init_644 (by decide) ar (by decide) (by decide) rfl (by decide +kernel) rfl ?_
  refine ev_dup d_X6_init_645 rfl ?_
  refine ev_bipush (v := 28) d_X6_init_646 (by decide) ?_
  refine ev_bipush (v := 104) d_X6_init_648 (by decide) ?_
  refine ev_iastF 29 d_X6_init_650 (by decide) ar (by decide) (by decide) rfl (by decide +kernel) rfl ?_
  refine ev_dup d_X6_init_651 rfl ?_
  refine ev_bipush (v := 29) d_X6_init_652 (by decide) ?_
  refine ev_bipush (v := 116) d_X6_init_654 (by decide) ?_
  refine ev_iastF 30 d_X6_init_656 (by decide) ar (by decide) (by decide) rfl (by decide +kernel) rfl ?_
  refine ev_dup d_X6_init_657 rfl ?_
  refine ev_bipush (v := 30) d_X6_init_658 (by decide) ?_
  refine ev_bipush (v := 32) d_X6_init_660 (by decide) ?_
  refine ev_iastF 31 d_X6_init_662 (by decide) ar (by decide) (by decide) rfl (by decide +kernel) rfl ?_
  refine ev_dup d_X6_init_663 rfl ?_
  refine ev_bipush (v := 31) d_X6_init_664 (by decide) ?_
  refine ev_bipush (v := 32) d_X6_init_666 (by decide) ?_
  refine ev_iastF 32 d_X6_init_668 (by decide) ar (by decide) (by decide) rfl (by decide +kernel) rfl ?_
  refine ev_dup d_X6_init_669 rfl ?_
  refine ev_bipush (v := 32) d_X6_init_670 (by decide) ?_
  refine ev_bipush (v := 105) d_X6_init_672 (by decide) ?_
  refine ev_iastF 33 d_X6_init_674 (by decide) ar (by decide) (by decide) rfl (by decide +kernel) rfl ?_
  refine ev_dup d_X6_init_675 rfl ?_
  refine ev_bipush (v := 33) d_X6_init_676 (by decide) ?_
  refine ev_bipush (v := 99) d_X6_init_678 (by decide) ?_
  refine ev_iastF 34 d_X6_init_680 (by decide) ar (by decide) (by decide) rfl (by decide +kernel) rfl ?_
  refine ev_dup d_X6_init_681 rfl ?_
  refine ev_bipush (v := 34) d_X6_init_682 (by decide) ?_
  refine ev_bipush (v := 101) d_X6_init_684 (by decide) ?_
  refine ev_iastF 35 d_X6_init_686 (by decide) ar (by decide) (by decide) rfl (by decide +kernel) rfl ?_
  refine ev_dup d_X6_init_687 rfl ?_
  refine ev_bipush (v := 35) d_X6_init_688 (by decide) ?_
  refine ev_bipush (v := 32) d_X6_init_690 (by decide) ?_
  refine ev_iastF 36 d_X6_init_692 (by decide) ar (by decide) (by decide) rfl (by decide +kernel) rfl ?_
  refine ev_dup d_X6_init_693 rfl ?_
  refine ev_bipush (v := 36) d_X6_init_694 (by decide) ?_
  refine ev_bipush (v := 32) d_X6_init_696 (by decide) ?_
  refine ev_iastF 37 d_X6_init_698 (by decide) ar (by decide) (by decide) rfl (by decide +kernel) rfl ?_
  refine ev_dup d_X6_init_699 rfl ?_
  refine ev_bipush (v := 37) d_X6_init_700 (by decide) ?_
  refine ev_bipush (v := 32) d_X6_init_702 (by decide) ?_
  refine ev_iastF 38 d_X6_init_704 (by decide) ar (by decide) (by decide) rfl (by decide +kernel) rfl ?_
  refine ev_dup d_X6_init_705 rfl ?_
  refine ev_bipush (v := 38) d_X6_init_706 (by decide) ?_
  refine ev_bipush (v := 32) d_X6_init_708 (by decide) ?_
  refine ev_iastF 39 d_X6_init_710 (by decide) ar (by decide) (by decide) rfl (by decide +kernel) rfl ?_
  refine ev_dup d_X6_init_711 rfl ?_
  refine ev_bipush (v := 39) d_X6_init_712 (by decide) ?_
  refine ev_bipush (v := 32) d_X6_init_714 (by decide) ?_
  refine ev_iastF 40 d_X6_init_716 (by decide) ar (by decide) (by decide) rfl (by decide +kernel) rfl ?_
  refine ev_dup d_X6_init_717 rfl ?_
  refine ev_bipush (v := 40) d_X6_init_718 (by decide) ?_
  refine ev_bipush (v := 99) d_X6_init_720 (by decide) ?_
  refine ev_iastF 41 d_X6_init_722 (by decide) ar (by decide) (by decide) rfl (by decide +kernel) rfl ?_
  refine ev_dup d_X6_init_723 rfl ?_
  refine ev_bipush (v := 41) d_X6_init_724 (by decide) ?_
  refine ev_bipush (v := 111) d_X6_init_726 (by decide) ?_
  refine ev_iastF 42 d_X6_init_728 (by decide) ar (by decide) (by decide) rfl (by decide +kernel) rfl ?_
  refine ev_dup d_X6_init_729 rfl ?_
  refine ev_bipush (v := 42) d_X6_init_730 (by decide) ?_
  refine ev_bipush (v := 108) d_X6_init_732 (by decide) ?_
  refine ev_iastF 43 d_X6_init_734 (by decide) ar (by decide) (by decide) rfl (by decide +kernel) rfl ?_
  refine ev_dup d_X6_init_735 rfl ?_
  refine ev_bipush (v := 43) d_X6_init_736 (by decide) ?_
  refine ev_bipush (v := 100) d_X6_init_738 (by decide) ?_
  refine ev_iastF 44 d_X6_init_740 (by decide) ar (by decide) (by decide) rfl (by decide +kernel) rfl ?_
  refine ev_dup d_X6_init_741 rfl ?_
  refine ev_bipush (v := 44) d_X6_init_742 (by decide) ?_
  refine ev_bipush (v := 32) d_X6_init_744 (by decide) ?_
  refine ev_iastF 45 d_X6_init_746 (by decide) ar (by decide) (by decide) rfl (by decide +kernel) rfl ?_
  refine ev_dup d_X6_init_747 rfl ?_
  refine ev_bipush (v := 45) d_X6_init_748 (by decide) ?_
  refine ev_bipush (v := 32) d_X6_init_750 (by decide) ?_
  refine ev_iastF 46 d_X6_init_752 (by decide) ar (by decide) (by decide) rfl (by decide +kernel) rfl ?_
  refine ev_dup d_X6_init_753 rfl ?_
  refine ev_bipush (v := 46) d_X6_init_754 (by decide) ?_
  refine ev_bipush (v := 32) d_X6_init_756 (by decide) ?_
  refine ev_iastF 47 d_X6_init_758 (by decide) ar (by decide) (by decide) rfl (by decide +kernel) rfl ?_
  refine ev_dup d_X6_init_759 rfl ?_
  refine ev_bipush (v := 47) d_X6_init_760 (by decide) ?_
  refine ev_bipush (v := 32) d_X6_init_762 (by decide) ?_
  refine ev_iastF 48 d_X6_init_764 (by decide) ar (by decide) (by decide) rfl (by decide +kernel) rfl ?_
  refine ev_dup d_X6_init_765 rfl ?_
  refine ev_bipush (v := 48) d_X6_init_766 (by decide) ?_
  refine ev_bipush (v := 109) d_X6_init_768 (by decide) ?_
  refine ev_iastF 49 d_X6_init_770 (by decide) ar (by decide) (by decide) rfl (by decide +kernel) rfl ?_
  refine ev_dup d_X6_init_771 rfl ?_
  refine ev_bipush (v := 49) d_X6_init_772 (by decide) ?_
  refine ev_bipush (v := 111) d_X6_init_774 (by decide) ?_
  refine ev_iastF 50 d_X6_init_776 (by decide) ar (by decide) (by decide) rfl (by decide +kernel) rfl ?_
  refine ev_dup d_X6_init_777 rfl ?_
  refine ev_bipush (v := 50) d_X6_init_778 (by decide) ?_
  refine ev_bipush (v := 111) d_X6_init_780 (by decide) ?_
  refine ev_iastF 51 d_X6_init_782 (by decide) ar (by decide) (by decide) rfl (by decide +kernel) rfl ?_
  refine ev_dup d_X6_init_783 rfl ?_
  refine ev_bipush (v := 51) d_X6_init_784 (by decide) ?_
  refine ev_bipush (v := 100) d_X6_init_786 (by decide) ?_
  refine ev_iastF 52 d_X6_init_788 (by decide) ar (by decide) (by decide) rfl (by decide +kernel) rfl ?_
  refine ev_dup d_X6_init_789 rfl ?_
  refine ev_bipush (v := 52) d_X6_init_790 (by decide) ?_
  refine ev_bipush (v := 32) d_X6_init_792 (by decide) ?_
  refine ev_iastF 53 d_X6_init_794 (by decide) ar (by decide) (by decide) rfl (by decide +kernel) rfl ?_
  refine ev_dup d_X6_init_795 rfl ?_
  refine ev_bipush (v := 53) d_X6_init_796 (by decide) ?_
  refine ev_bipush (v := 32) d_X6_init_798 (by decide) ?_
  refine ev_iastF 54 d_X6_init_800 (by decide) ar (by decide) (by decide) rfl (by decide +kernel) rfl ?_
  refine ev_dup d_X6_init_801 rfl ?_
  refine ev_bipush (v := 54) d_X6_init_802 (by decide) ?_
  refine ev_bipush (v := 32) d_X6_init_804 (by decide) ?_
  refine ev_iastF 55 d_X6_init_806 (by decide) ar (by decide) (by decide) rfl (by decide +kernel) rfl ?_
  refine ev_dup d_X6_init_807 rfl ?_
  refine ev_bipush (v := 55) d_X6_init_808 (by decide) ?_
  refine ev_bipush (v := 32) d_X6_init_810 (by decide) ?_
  refine ev_iastF 56 d_X6_init_812 (by decide) ar (by decide) (by decide) rfl (by decide +kernel) rfl ?_
  refine ev_dup d_X6_init_813 rfl ?_
  refine ev_bipush (v := 56) d_X6_init_814 (by decide) ?_
  refine ev_bipush (v := 100) d_X6_init_816 (by decide) ?_
  refine ev_iastF 57 d_X6_init_818 (by decide) ar (by decide) (by decide) rfl (by decide +kernel) rfl ?_
  refine ev_dup d_X6_init_819 rfl ?_
  refine ev_bipush (v := 57) d_X6_init_820 (by decide) ?_
  refine ev_bipush (v := 97) d_X6_init_822 (by decide) ?_
  refine ev_iastF 58 d_X6_init_824 (by decide) ar (by decide) (by decide) rfl (by decide +kernel) rfl ?_
  refine ev_dup d_X6_init_825 rfl ?_
  refine ev_bipush (v := 58) d_X6_init_826 (by decide) ?_
  refine ev_bipush (v := 121) d_X6_init_828 (by decide) ?_
  refine ev_iastF 59 d_X6_init_830 (by decide) ar (by decide) (by decide) rfl (by decide +kernel) rfl ?_
  refine ev_dup d_X6_init_831 rfl ?_
  refine ev_bipush (v := 59) d_X6_init_832 (by decide) ?_
  refine ev_bipush (v := 32) d_X6_init_834 (by decide) ?_
  refine ev_iastF 60 d_X6_init_836 (by decide) ar (by decide) (by decide) rfl (by decide +kernel) rfl ?_
  refine ev_dup d_X6_init_837 rfl ?_
  refine ev_bipush (v := 60) d_X6_init_838 (by decide) ?_
  refine ev_bipush (v := 32) d_X6_init_840 (by decide) ?_
  refine ev_iastF 61 d_X6_init_842 (by decide) ar (by decide) (by decide) rfl (by decide +kernel) rfl ?_
  refine ev_dup d_X6_init_843 rfl ?_
  refine ev_bipush (v := 61) d_X6_init_844 (by decide) ?_
  refine ev_bipush (v := 32) d_X6_init_846 (by decide) ?_
  refine ev_iastF 62 d_X6_init_848 (by decide) ar (by decide) (by decide) rfl (by decide +kernel) rfl ?_
  refine ev_dup d_X6_init_849 rfl ?_
  refine ev_bipush (v := 62) d_X6_init_850 (by decide) ?_
  refine ev_bipush (v := 32) d_X6_init_852 (by decide) ?_
  refine ev_iastF 63 d_X6_init_854 (by decide) ar (by decide) (by decide) rfl (by decide +kernel) rfl ?_
  refine ev_dup d_X6_init_855 rfl ?_
  refine ev_bipush (v := 63) d_X6_init_856 (by decide) ?_
  refine ev_bipush (v := 32) d_X6_init_858 (by decide) ?_
  refine ev_iastF 64 d_X6_init_860 (by decide) ar (by decide) (by decide) rfl (by decide +kernel) rfl ?_
  refine ev_dup d_X6_init_861 rfl ?_
  refine ev_bipush (v := 64) d_X6_init_862 (by decide) ?_
  refine ev_bipush (v := 109) d_X6_init_864 (by decide) ?_
  refine ev_iastF 65 d_X6_init_866 (by decide) ar (by decide) (by decide) rfl (by decide +kernel) rfl ?_
  refine ev_dup d_X6_init_867 rfl ?_
  refine ev_bipush (v := 65) d_X6_init_868 (by decide) ?_
  refine ev_bipush (v := 111) d_X6_init_870 (by decide) ?_
  refine ev_iastF 66 d_X6_init_872 (by decide) ar (by decide) (by decide) rfl (by decide +kernel) rfl ?_
  refine ev_dup d_X6_init_873 rfl ?_
  refine ev_bipush (v := 66) d_X6_init_874 (by decide) ?_
  refine ev_bipush (v := 114) d_X6_init_876 (by decide) ?_
  refine ev_iastF 67 d_X6_init_878 (by decide) ar (by decide) (by decide) rfl (by decide +kernel) rfl ?_
  refine ev_dup d_X6_init_879 rfl ?_
  refine ev_bipush (v := 67) d_X6_init_880 (by decide) ?_
  refine ev_bipush (v := 101) d_X6_init_882 (by decide) ?_
  refine ev_iastF 68 d_X6_init_884 (by decide) ar (by decide) (by decide) rfl (by decide +kernel) rfl ?_
  refine ev_dup d_X6_init_885 rfl ?_
  refine ev_bipush (v := 68) d_X6_init_886 (by decide) ?_
  refine ev_bipush (v := 32) d_X6_init_888 (by decide) ?_
  refine ev_iastF 69 d_X6_init_890 (by decide) ar (by decide) (by decide) rfl (by decide +kernel) rfl ?_
  refine ev_dup d_X6_init_891 rfl ?_
  refine ev_bipush (v := 69) d_X6_init_892 (by decide) ?_
  refine ev_bipush (v := 32) d_X6_init_894 (by decide) ?_
  refine ev_iastF 70 d_X6_init_896 (by decide) ar (by decide) (by decide) rfl (by decide +kernel) rfl ?_
  refine ev_dup d_X6_init_897 rfl ?_
  refine ev_bipush (v := 70) d_X6_init_898 (by decide) ?_
  refine ev_bipush (v := 32) d_X6_init_900 (by decide) ?_
  refine ev_iastF 71 d_X6_init_902 (by decide) ar (by decide) (by decide) rfl (by decide +kernel) rfl ?_
  refine ev_dup d_X6_init_903 rfl ?_
  refine ev_bipush (v := 71) d_X6_init_904 (by decide) ?_
  refine ev_bipush (v := 32) d_X6_init_906 (by decide) ?_
  refine ev_iastF 72 d_X6_init_908 (by decide) ar (by decide) (by decide) rfl (by decide +kernel) rfl ?_
  refine ev_dup d_X6_init_909 rfl ?_
  refine ev_bipush (v := 72) d_X6_init_910 (by decide) ?_
  refine ev_bipush (v := 111) d_X6_init_912 (by decide) ?_
  refine ev_iastF 73 d_X6_init_914 (by decide) ar (by decide) (by decide) rfl (by decide +kernel) rfl ?_
  refine ev_dup d_X6_init_915 rfl ?_
  refine ev_bipush (v := 73) d_X6_init_916 (by decide) ?_
  refine ev_bipush (v := 114) d_X6_init_918 (by decide) ?_
  refine ev_iastF 74 d_X6_init_920 (by decide) ar (by decide) (by decide) rfl (by decide +kernel) rfl ?_
  refine ev_dup d_X6_init_921 rfl ?_
  refine ev_bipush (v := 74) d_X6_init_922 (by decide) ?_
  refine ev_bipush (v := 32) d_X6_init_924 (by decide) ?_
  refine ev_iastF 75 d_X6_init_926 (by decide) ar (by decide) (by decide) rfl (by decide +kernel) rfl ?_
  refine ev_dup d_X6_init_927 rfl ?_
  refine ev_bipush (v := 75) d_X6_init_928 (by decide) ?_
  refine ev_bipush (v := 32) d_X6_init_930 (by decide) ?_
  refine ev_iastF 76 d_X6_init_932 (by decide) ar (by decide) (by decide) rfl (by decide +kernel) rfl ?_
  refine ev_dup d_X6_init_933 rfl ?_
  refine ev_bipush (v := 76) d_X6_init_934 (by decide) ?_
  refine ev_bipush (v := 32) d_X6_init_936 (by decide) ?_
  refine ev_iastF 77 d_X6_init_938 (by decide) ar (by decide) (by decide) rfl (by decide +kernel) rfl ?_
  refine ev_dup d_X6_init_939 rfl ?_
  refine ev_bipush (v := 77) d_X6_init_940 (by decide) ?_
  refine ev_bipush (v := 32) d_X6_init_942 (by decide) ?_
  refine ev_iastF 78 d_X6_init_944 (by decide) ar (by decide) (by decide) rfl (by decide +kernel) rfl ?_
  refine ev_dup d_X6_init_945 rfl ?_
  refine ev_bipush (v := 78) d_X6_init_946 (by decide) ?_
  refine ev_bipush (v := 32) d_X6_init_948 (by decide) ?_
  refine ev_iastF 79 d_X6_init_950 (by decide) ar (by decide) (by decide) rfl (by decide +kernel) rfl ?_
  refine ev_dup d_X6_init_951 rfl ?_
  refine ev_bipush (v := 79) d_X6_init_952 (by decide) ?_
  refine ev_bipush (v := 32) d_X6_init_954 (by decide) ?_
  refine ev_iastF 80 d_X6_init_956 (by decide) ar (by decide) (by decide) rfl (by decide +kernel) rfl ?_
  refine ev_dup d_X6_init_957 rfl ?_
  refine ev_bipush (v := 80) d_X6_init_958 (by decide) ?_
  refine ev_bipush (v := 97) d_X6_init_960 (by decide) ?_
  refine ev_iastF 81 d_X6_init_962 (by decide) ar (by decide) (by decide) rfl (by decide +kernel) rfl ?_
  refine ev_dup d_X6_init_963 rfl ?_
  refine ev_bipush (v := 81) d_X6_init_964 (by decide) ?_
  refine ev_bipush (v := 110) d_X6_init_966 (by decide) ?_
  refine ev_iastF 82 d_X6_init_968 (by decide) ar (by decide) (by decide) rfl (by decide +kernel) rfl ?_
  refine ev_dup d_X6_init_969 rfl ?_
  refine ev_bipush (v := 82) d_X6_init_970 (by decide) ?_
  refine ev_bipush (v := 100) d_X6_init_972 (by decide) ?_
  refine ev_iastF 83 d_X6_init_974 (by decide) ar (by decide) (by decide) rfl (by decide +kernel) rfl ?_
  refine ev_dup d_X6_init_975 rfl ?_
  refine ev_bipush (v := 83) d_X6_init_976 (by decide) ?_
  refine ev_bipush (v := 32) d_X6_init_978 (by decide) ?_
  refine ev_iastF 84 d_X6_init_980 (by decide) ar (by decide) (by decide) rfl (by decide +kernel) rfl ?_
  refine ev_dup d_X6_init_981 rfl ?_
  refine ev_bipush (v := 84) d_X6_init_982 (by decide) ?_
  refine ev_bipush (v := 32) d_X6_init_984 (by decide) ?_
  refine ev_iastF 85 d_X6_init_986 (by decide) ar (by decide) (by decide) rfl (by decide +kernel) rfl ?_
  refine ev_dup d_X6_init_987 rfl ?_
  refine ev_bipush (v := 85) d_X6_init_988 (by decide) ?_
  refine ev_bipush (v := 32) d_X6_init_990 (by decide) ?_
  refine ev_iastF 86 d_X6_init_992 (by decide) ar (by decide) (by decide) rfl (by decide +kernel) rfl ?_
  refine ev_dup d_X6_init_993 rfl ?_
  refine ev_bipush (v := 86) d_X6_init_994 (by decide) ?_
  refine ev_bipush (v := 32) d_X6_init_996 (by decide) ?_
  refine ev_iastF 87 d_X6_init_998 (by decide) ar (by decide) (by decide) rfl (by decide +kernel) rfl ?_
  refine ev_dup d_X6_init_999 rfl ?_
  refine ev_bipush (v := 87) d_X6_init_1000 (by decide) ?_
  refine ev_bipush (v := 32) d_X6_init_1002 (by decide) ?_
  refine ev_iastF 88 d_X6_init_1004 (by decide) ar (by decide) (by decide) rfl (by decide +kernel) rfl ?_
  refine ev_dup d_X6_init_1005 rfl ?_
  refine ev_bipush (v := 88) d_X6_init_1006 (by decide) ?_
  refine ev_bipush (v := 110) d_X6_init_1008 (by decide) ?_
  refine ev_iastF 89 d_X6_init_1010 (by decide) ar (by decide) (by decide) rfl (by decide +kernel) rfl ?_
  refine ev_dup d_X6_init_1011 rfl ?_
  refine ev_bipush (v := 89) d_X6_init_1012 (by decide) ?_
  refine ev_bipush (v := 111) d_X6_init_1014 (by decide) ?_
  refine ev_iastF 90 d_X6_init_1016 (by decide) ar (by decide) (by decide) rfl (by decide +kernel) rfl ?_
  refine ev_dup d_X6_init_1017 rfl ?_
  refine ev_bipush (v := 90) d_X6_init_1018 (by decide) ?_
  refine ev_bipush (v := 116) d_X6_init_1020 (by decide) ?_
  refine ev_iastF 91 d_X6_init_1022 (by decide) ar (by decide) (by decide) rfl (by decide +kernel) rfl ?_
  refine ev_dup d_X6_init_1023 rfl ?_
  refine ev_bipush (v := 91) d_X6_init_1024 (by decide) ?_
  refine ev_bipush (v := 32) d_X6_init_1026 (by decide) ?_
  refine ev_iastF 92 d_X6_init_1028 (by decide) ar (by decide) (by decide) rfl (by decide +kernel) rfl ?_
  refine ev_dup d_X6_init_1029 rfl ?_
  refine ev_bipush (v := 92) d_X6_init_1030 (by decide) ?_
  refine ev_bipush (v := 32) d_X6_init_1032 (by decide) ?_
  refine ev_iastF 93 d_X6_init_1034 (by decide) ar (by decide) (by decide) rfl (by decide +kernel) rfl ?_
  refine ev_dup d_X6_init_1035 rfl ?_
  refine ev_bipush (v := 93) d_X6_init_1036 (by decide) ?_
  refine ev_bipush (v := 32) d_X6_init_1038 (by decide) ?_
  refine ev_iastF 94 d_X6_init_1040 (by decide) ar (by decide) (by decide) rfl (by decide +kernel) rfl ?_
  refine ev_dup d_X6_init_1041 rfl ?_
  refine ev_bipush (v := 94) d_X6_init_1042 (by decide) ?_
  refine ev_bipush (v := 32) d_X6_init_1044 (by decide) ?_
  refine ev_iastF 95 d_X6_init_1046 (by decide) ar (by decide) (by decide) rfl (by decide +kernel) rfl ?_
  refine ev_dup d_X6_init_1047 rfl ?_
  refine ev_bipush (v := 95) d_X6_init_1048 (by decide) ?_
  refine ev_bipush (v := 32) d_X6_init_1050 (by decide) ?_
  refine ev_iastF 96 d_X6_init_1052 (by decide) ar (by decide) (by decide) rfl (by decide +kernel) rfl ?_
  refine ev_putR (ci := 6) (k := 23) (n := 0) d_X6_init_1053 (by decide) rfl fl_IcedTooSoonModel_49 ⟨_, rfl, rfl⟩ fw_6_23 (by decide +kernel) (by decide +kernel) rfl rfl rfl rfl ?_
  exact kk
def kM15 : it_KK := it_on (it_new kM14 0 200) 45 24
set_option maxHeartbeats 4000000 in
set_option maxRecDepth 100000 in
theorem Mi_14 {g : it_G} {l : Launch} {S : it_SS} {P : Option Value → it_KK → it_SS → Prop} (kk : it_Ev g l 10 it_m_X6_init 15 1983 1065 [some (.ref 45), none] [] kM15 (it_zero S 60) P) : it_Ev g l 10 it_m_X6_init 14 1783 1056 [some (.ref 45), none] [] kM14 S P := by
  refine ev_aload_n d_X6_init_1056 rfl ?_
  refine ev_sipush (v := 200) d_X6_init_1057 (by decide) ?_
  refine ev_newa (N := 200) d_X6_init_1060 (by decide) ar_int (by decide) (by decide) (by decide) (by decide) (by decide) ?_
  show it_Ev g l 10 it_m_X6_init 15 1983 1062 [some (.ref 45), none] [.ref 60, .ref 45] (it_new kM14 0 200) (it_zero S 60) P
  refine ev_putR (ci := 6) (k := 24) (n := 0) d_X6_init_1062 (by decide) rfl fl_IcedTooSoonModel_52 ⟨_, rfl, rfl⟩ fw_6_24 (by decide +kernel) (by decide +kernel) rfl rfl rfl rfl ?_
  exact kk
def kM16 : it_KK := it_on (it_new kM15 0 200) 45 28
set_option maxHeartbeats 4000000 in
set_option maxRecDepth 100000 in
theorem Mi_15 {g : it_G} {l : Launch} {S : it_SS} {P : Option Value → it_KK → it_SS → Prop} (kk : it_Ev g l 10 it_m_X6_init 16 2183 1074 [some (.ref 45), none] [] kM16 (it_zero S 61) P) : it_Ev g l 10 it_m_X6_init 15 1983 1065 [some (.ref 45), none] [] kM15 S P := by
  refine ev_aload_n d_X6_init_1065 rfl ?_
  refine ev_sipush (v := 200) d_X6_init_1066 (by decide) ?_
  refine ev_newa (N := 200) d_X6_init_1069 (by decide) ar_int (by decide) (by decide) (by decide) (by decide) (by decide) ?_
  show it_Ev g l 10 it_m_X6_init 16 2183 1071 [some (.ref 45), none] [.ref 61, .ref 45] (it_new kM15 0 200) (it_zero S 61) P
  refine ev_putR (ci := 6) (k := 28) (n := 0) d_X6_init_1071 (by decide) rfl fl_IcedTooSoonModel_55 ⟨_, rfl, rfl⟩ fw_6_28 (by decide +kernel) (by decide +kernel) rfl rfl rfl rfl ?_
  exact kk
def kM17 : it_KK := it_on (it_new kM16 0 6) 45 29
set_option maxHeartbeats 4000000 in
set_option maxRecDepth 100000 in
theorem Mi_16 {g : it_G} {l : Launch} {S : it_SS} {P : Option Value → it_KK → it_SS → Prop} (kk : it_Ev g l 10 it_m_X6_init 17 2189 1082 [some (.ref 45), none] [] kM17 (it_zero S 62) P) : it_Ev g l 10 it_m_X6_init 16 2183 1074 [some (.ref 45), none] [] kM16 S P := by
  refine ev_aload_n d_X6_init_1074 rfl ?_
  refine ev_bipush (v := 6) d_X6_init_1075 (by decide) ?_
  refine ev_newa (N := 6) d_X6_init_1077 (by decide) ar_int (by decide) (by decide) (by decide) (by decide) (by decide) ?_
  show it_Ev g l 10 it_m_X6_init 17 2189 1079 [some (.ref 45), none] [.ref 62, .ref 45] (it_new kM16 0 6) (it_zero S 62) P
  refine ev_putR (ci := 6) (k := 29) (n := 0) d_X6_init_1079 (by decide) rfl fl_IcedTooSoonModel_58 ⟨_, rfl, rfl⟩ fw_6_29 (by decide +kernel) (by decide +kernel) rfl rfl rfl rfl ?_
  exact kk
def kM18 : it_KK := it_on (it_new kM17 0 43) 45 30
set_option maxHeartbeats 4000000 in
set_option maxRecDepth 100000 in
theorem Mi_17 {g : it_G} {l : Launch} {S : it_SS} {P : Option Value → it_KK → it_SS → Prop} (kk : it_Ev g l 10 it_m_X6_init 18 2232 1090 [some (.ref 45), none] [] kM18 (it_zero S 63) P) : it_Ev g l 10 it_m_X6_init 17 2189 1082 [some (.ref 45), none] [] kM17 S P := by
  refine ev_aload_n d_X6_init_1082 rfl ?_
  refine ev_bipush (v := 43) d_X6_init_1083 (by decide) ?_
  refine ev_newa (N := 43) d_X6_init_1085 (by decide) ar_int (by decide) (by decide) (by decide) (by decide) (by decide) ?_
  show it_Ev g l 10 it_m_X6_init 18 2232 1087 [some (.ref 45), none] [.ref 63, .ref 45] (it_new kM17 0 43) (it_zero S 63) P
  refine ev_putR (ci := 6) (k := 30) (n := 0) d_X6_init_1087 (by decide) rfl fl_IcedTooSoonModel_61 ⟨_, rfl, rfl⟩ fw_6_30 (by decide +kernel) (by decide +kernel) rfl rfl rfl rfl ?_
  exact kk
def kM19 : it_KK := it_on (it_new kM18 0 10) 45 32
set_option maxHeartbeats 4000000 in
set_option maxRecDepth 100000 in
theorem Mi_18 {g : it_G} {l : Launch} {S : it_SS} {P : Option Value → it_KK → it_SS → Prop} (kk : it_Ev g l 10 it_m_X6_init 19 2242 1098 [some (.ref 45), none] [] kM19 (it_zero S 64) P) : it_Ev g l 10 it_m_X6_init 18 2232 1090 [some (.ref 45), none] [] kM18 S P := by
  refine ev_aload_n d_X6_init_1090 rfl ?_
  refine ev_bipush (v := 10) d_X6_init_1091 (by decide) ?_
  refine ev_newa (N := 10) d_X6_init_1093 (by decide) ar_int (by decide) (by decide) (by decide) (by decide) (by decide) ?_
  show it_Ev g l 10 it_m_X6_init 19 2242 1095 [some (.ref 45), none] [.ref 64, .ref 45] (it_new kM18 0 10) (it_zero S 64) P
  refine ev_putR (ci := 6) (k := 32) (n := 0) d_X6_init_1095 (by decide) rfl fl_IcedTooSoonModel_64 ⟨_, rfl, rfl⟩ fw_6_32 (by decide +kernel) (by decide +kernel) rfl rfl rfl rfl ?_
  exact kk
