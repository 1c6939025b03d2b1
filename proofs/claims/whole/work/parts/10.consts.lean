def it_cg (sp dp n : Int32) (n0 n1 : Nat) : Bool := decide (0 ≤ sp) && decide (0 ≤ dp) && decide (0 ≤ n) && decide (sp.toNatClampNeg + n.toNatClampNeg ≤ n0) && decide (dp.toNatClampNeg + n.toNatClampNeg ≤ n1)
theorem it_cg_a {sp dp n : Int32} {n0 n1 : Nat} (h : it_cg sp dp n n0 n1 = true) : 0 ≤ sp ∧ 0 ≤ dp ∧ 0 ≤ n ∧ sp.toNatClampNeg + n.toNatClampNeg ≤ n0 ∧ dp.toNatClampNeg + n.toNatClampNeg ≤ n1 := by
  simp only [it_cg, Bool.and_eq_true, decide_eq_true_eq] at h
  exact ⟨h.1.1.1.1, h.1.1.1.2, h.1.1.2, h.1.2, h.2⟩
theorem it_cg_1 {sp dp n : Int32} {n0 n1 : Nat} (h : it_cg sp dp n n0 n1 = true) : ¬ sp < 0 := Int32.not_lt.mpr (it_cg_a h).1
theorem it_cg_2 {sp dp n : Int32} {n0 n1 : Nat} (h : it_cg sp dp n n0 n1 = true) : ¬ dp < 0 := Int32.not_lt.mpr (it_cg_a h).2.1
theorem it_cg_3 {sp dp n : Int32} {n0 n1 : Nat} (h : it_cg sp dp n n0 n1 = true) : ¬ n < 0 := Int32.not_lt.mpr (it_cg_a h).2.2.1
theorem it_cg_4 {sp dp n : Int32} {n0 n1 : Nat} (h : it_cg sp dp n n0 n1 = true) : sp.toNatClampNeg + n.toNatClampNeg ≤ n0 := (it_cg_a h).2.2.2.1
theorem it_cg_5 {sp dp n : Int32} {n0 n1 : Nat} (h : it_cg sp dp n n0 n1 = true) : dp.toNatClampNeg + n.toNatClampNeg ≤ n1 := (it_cg_a h).2.2.2.2
theorem kv_bipush_m100 : (Int8.ofInt (-100)).toInt32 = (-100) := by decide
theorem kv_bipush_m99 : (Int8.ofInt (-99)).toInt32 = (-99) := by decide
theorem kv_bipush_m14 : (Int8.ofInt (-14)).toInt32 = (-14) := by decide
theorem kv_bipush_m13 : (Int8.ofInt (-13)).toInt32 = (-13) := by decide
theorem kv_bipush_m12 : (Int8.ofInt (-12)).toInt32 = (-12) := by decide
theorem kv_bipush_m11 : (Int8.ofInt (-11)).toInt32 = (-11) := by decide
theorem kv_bipush_m7 : (Int8.ofInt (-7)).toInt32 = (-7) := by decide
theorem kv_bipush_m6 : (Int8.ofInt (-6)).toInt32 = (-6) := by decide
theorem kv_bipush_m5 : (Int8.ofInt (-5)).toInt32 = (-5) := by decide
theorem kv_bipush_m4 : (Int8.ofInt (-4)).toInt32 = (-4) := by decide
theorem kv_bipush_m3 : (Int8.ofInt (-3)).toInt32 = (-3) := by decide
theorem kv_bipush_m2 : (Int8.ofInt (-2)).toInt32 = (-2) := by decide
theorem kv_bipush_6 : (Int8.ofInt (6)).toInt32 = (6) := by decide
theorem kv_bipush_7 : (Int8.ofInt (7)).toInt32 = (7) := by decide
theorem kv_bipush_8 : (Int8.ofInt (8)).toInt32 = (8) := by decide
theorem kv_bipush_9 : (Int8.ofInt (9)).toInt32 = (9) := by decide
theorem kv_bipush_10 : (Int8.ofInt (10)).toInt32 = (10) := by decide
theorem kv_bipush_11 : (Int8.ofInt (11)).toInt32 = (11) := by decide
theorem kv_bipush_12 : (Int8.ofInt (12)).toInt32 = (12) := by decide
theorem kv_bipush_13 : (Int8.ofInt (13)).toInt32 = (13) := by decide
theorem kv_bipush_14 : (Int8.ofInt (14)).toInt32 = (14) := by decide
theorem kv_bipush_15 : (Int8.ofInt (15)).toInt32 = (15) := by decide
theorem kv_bipush_16 : (Int8.ofInt (16)).toInt32 = (16) := by decide
theorem kv_bipush_17 : (Int8.ofInt (17)).toInt32 = (17) := by decide
theorem kv_bipush_18 : (Int8.ofInt (18)).toInt32 = (18) := by decide
theorem kv_bipush_19 : (Int8.ofInt (19)).toInt32 = (19) := by decide
theorem kv_bipush_20 : (Int8.ofInt (20)).toInt32 = (20) := by decide
theorem kv_bipush_29 : (Int8.ofInt (29)).toInt32 = (29) := by decide
theorem kv_bipush_30 : (Int8.ofInt (30)).toInt32 = (30) := by decide
theorem kv_bipush_32 : (Int8.ofInt (32)).toInt32 = (32) := by decide
theorem kv_bipush_40 : (Int8.ofInt (40)).toInt32 = (40) := by decide
theorem kv_bipush_41 : (Int8.ofInt (41)).toInt32 = (41) := by decide
theorem kv_bipush_42 : (Int8.ofInt (42)).toInt32 = (42) := by decide
theorem kv_bipush_43 : (Int8.ofInt (43)).toInt32 = (43) := by decide
theorem kv_bipush_45 : (Int8.ofInt (45)).toInt32 = (45) := by decide
theorem kv_bipush_48 : (Int8.ofInt (48)).toInt32 = (48) := by decide
theorem kv_bipush_50 : (Int8.ofInt (50)).toInt32 = (50) := by decide
theorem kv_bipush_57 : (Int8.ofInt (57)).toInt32 = (57) := by decide
theorem kv_bipush_59 : (Int8.ofInt (59)).toInt32 = (59) := by decide
theorem kv_bipush_60 : (Int8.ofInt (60)).toInt32 = (60) := by decide
theorem kv_bipush_61 : (Int8.ofInt (61)).toInt32 = (61) := by decide
theorem kv_bipush_63 : (Int8.ofInt (63)).toInt32 = (63) := by decide
theorem kv_bipush_64 : (Int8.ofInt (64)).toInt32 = (64) := by decide
theorem kv_bipush_97 : (Int8.ofInt (97)).toInt32 = (97) := by decide
theorem kv_bipush_99 : (Int8.ofInt (99)).toInt32 = (99) := by decide
theorem kv_bipush_122 : (Int8.ofInt (122)).toInt32 = (122) := by decide
theorem kv_iconst_m1 : Int32.ofInt (-1) = (-1) := by decide
theorem kv_iconst_0 : Int32.ofInt (0) = (0) := by decide
theorem kv_iconst_1 : Int32.ofInt (1) = (1) := by decide
theorem kv_iconst_2 : Int32.ofInt (2) = (2) := by decide
theorem kv_iconst_3 : Int32.ofInt (3) = (3) := by decide
theorem kv_iconst_4 : Int32.ofInt (4) = (4) := by decide
theorem kv_iconst_5 : Int32.ofInt (5) = (5) := by decide
theorem kv_iconst_8 : Int32.ofInt (8) = (8) := by decide
theorem kv_iconst_16 : Int32.ofInt (16) = (16) := by decide
theorem kv_lconst_0 : Int64.ofNat ((0 : Fin 2) : Nat) = (0) := by decide
theorem kv_lconst_1 : Int64.ofNat ((1 : Fin 2) : Nat) = (1) := by decide
theorem kv_sipush_m7000 : (Int16.ofInt (-7000)).toInt32 = (-7000) := by decide
theorem kv_sipush_m6000 : (Int16.ofInt (-6000)).toInt32 = (-6000) := by decide
theorem kv_sipush_m5000 : (Int16.ofInt (-5000)).toInt32 = (-5000) := by decide
theorem kv_sipush_m1300 : (Int16.ofInt (-1300)).toInt32 = (-1300) := by decide
theorem kv_sipush_m1200 : (Int16.ofInt (-1200)).toInt32 = (-1200) := by decide
theorem kv_sipush_m1100 : (Int16.ofInt (-1100)).toInt32 = (-1100) := by decide
theorem kv_sipush_m1000 : (Int16.ofInt (-1000)).toInt32 = (-1000) := by decide
theorem kv_sipush_m999 : (Int16.ofInt (-999)).toInt32 = (-999) := by decide
theorem kv_sipush_m200 : (Int16.ofInt (-200)).toInt32 = (-200) := by decide
theorem kv_sipush_160 : (Int16.ofInt (160)).toInt32 = (160) := by decide
theorem kv_sipush_200 : (Int16.ofInt (200)).toInt32 = (200) := by decide
theorem kv_sipush_255 : (Int16.ofInt (255)).toInt32 = (255) := by decide
theorem kv_sipush_256 : (Int16.ofInt (256)).toInt32 = (256) := by decide
theorem kv_sipush_999 : (Int16.ofInt (999)).toInt32 = (999) := by decide
theorem kv_sipush_1000 : (Int16.ofInt (1000)).toInt32 = (1000) := by decide
theorem kv_sipush_1024 : (Int16.ofInt (1024)).toInt32 = (1024) := by decide
theorem kv_sipush_10000 : (Int16.ofInt (10000)).toInt32 = (10000) := by decide
set_option maxRecDepth 50000 in
theorem mp_IcedTooSoon_256 : Cond.methodLink "IcedTooSoon" 256 Lib.Math.min.name ∈ it_tb ∧ Cond.static Lib.Math.min.name ∈ it_tb ∧ Cond.initialized "java/lang/Math" ∈ it_tb ∧ Cond.code Lib.Math.min.name Lib.Math.min.code 2 (some .int) ∈ it_tb := ⟨it_in_tb (List.mem_of_getElem? (i := 513) (by decide +kernel)) rfl, it_in_tb (List.mem_of_getElem? (i := 313) (by decide +kernel)) rfl, it_in_tb (List.mem_of_getElem? (i := 64) (by decide +kernel)) rfl, it_in_tb (List.mem_of_getElem? (i := 314) (by decide +kernel)) rfl⟩
set_option maxRecDepth 50000 in
theorem mp_IcedTooSoon_261 : Cond.methodLink "IcedTooSoon" 261 Lib.Math.max.name ∈ it_tb ∧ Cond.static Lib.Math.max.name ∈ it_tb ∧ Cond.initialized "java/lang/Math" ∈ it_tb ∧ Cond.code Lib.Math.max.name Lib.Math.max.code 2 (some .int) ∈ it_tb := ⟨it_in_tb (List.mem_of_getElem? (i := 514) (by decide +kernel)) rfl, it_in_tb (List.mem_of_getElem? (i := 310) (by decide +kernel)) rfl, it_in_tb (List.mem_of_getElem? (i := 64) (by decide +kernel)) rfl, it_in_tb (List.mem_of_getElem? (i := 311) (by decide +kernel)) rfl⟩
set_option maxRecDepth 50000 in
theorem mp_IcedTooSoon_272 : Cond.methodLink "IcedTooSoon" 272 Lib.Math.abs.name ∈ it_tb ∧ Cond.static Lib.Math.abs.name ∈ it_tb ∧ Cond.initialized "java/lang/Math" ∈ it_tb ∧ Cond.code Lib.Math.abs.name Lib.Math.abs.code 1 (some .int) ∈ it_tb := ⟨it_in_tb (List.mem_of_getElem? (i := 686) (by decide +kernel)) rfl, it_in_tb (List.mem_of_getElem? (i := 687) (by decide +kernel)) rfl, it_in_tb (List.mem_of_getElem? (i := 64) (by decide +kernel)) rfl, it_in_tb (List.mem_of_getElem? (i := 688) (by decide +kernel)) rfl⟩
set_option maxRecDepth 50000 in
theorem mp_IcedTooSoon_House_74 : Cond.methodLink "IcedTooSoon$House" 74 Lib.Math.min.name ∈ it_tb ∧ Cond.static Lib.Math.min.name ∈ it_tb ∧ Cond.initialized "java/lang/Math" ∈ it_tb ∧ Cond.code Lib.Math.min.name Lib.Math.min.code 2 (some .int) ∈ it_tb := ⟨it_in_tb (List.mem_of_getElem? (i := 538) (by decide +kernel)) rfl, it_in_tb (List.mem_of_getElem? (i := 313) (by decide +kernel)) rfl, it_in_tb (List.mem_of_getElem? (i := 64) (by decide +kernel)) rfl, it_in_tb (List.mem_of_getElem? (i := 314) (by decide +kernel)) rfl⟩
set_option maxRecDepth 50000 in
theorem mp_IcedTooSoon_House_83 : Cond.methodLink "IcedTooSoon$House" 83 Lib.Math.max.name ∈ it_tb ∧ Cond.static Lib.Math.max.name ∈ it_tb ∧ Cond.initialized "java/lang/Math" ∈ it_tb ∧ Cond.code Lib.Math.max.name Lib.Math.max.code 2 (some .int) ∈ it_tb := ⟨it_in_tb (List.mem_of_getElem? (i := 576) (by decide +kernel)) rfl, it_in_tb (List.mem_of_getElem? (i := 310) (by decide +kernel)) rfl, it_in_tb (List.mem_of_getElem? (i := 64) (by decide +kernel)) rfl, it_in_tb (List.mem_of_getElem? (i := 311) (by decide +kernel)) rfl⟩
