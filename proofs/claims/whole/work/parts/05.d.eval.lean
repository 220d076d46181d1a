/-! the constructors' instructions as a table -/
def ab_d0 : List (Nat × Instr × Nat) := [(0, .aload_n 0, 1), (1, .invokespecial 3, 3), (4, .aload_n 0, 1), (5, .sipush 256, 3), (8, .newarray .int, 2), (10, .putfield 9, 3), (13, .aload_n 0, 1), (14, .sipush 256, 3), (17, .newarray .int, 2), (19, .putfield 15, 3), (22, .aload_n 0, 1), (23, .aload_n 1, 1), (24, .putfield 18, 3), (27, .return_, 1)]
theorem hc0 : ab_code 0 = cX0_init := rfl
set_option maxRecDepth 100000 in
theorem ab_dk0 : ∀ r ∈ ab_d0, decode (ab_code 0) r.1 = .ok (r.2.1, r.2.2) := ab_fa_all (⟨ab_dc hc0 dX0_init_0, ab_dc hc0 dX0_init_1, ab_dc hc0 dX0_init_4, ab_dc hc0 dX0_init_5, ab_dc hc0 dX0_init_8, ab_dc hc0 dX0_init_10, ab_dc hc0 dX0_init_13, ab_dc hc0 dX0_init_14, ab_dc hc0 dX0_init_17, ab_dc hc0 dX0_init_19, ab_dc hc0 dX0_init_22, ab_dc hc0 dX0_init_23, ab_dc hc0 dX0_init_24, ab_dc hc0 dX0_init_27, trivial⟩ : ab_fa (fun r : Nat × Instr × Nat => decode (ab_code 0) r.1 = .ok (r.2.1, r.2.2)) ab_d0)
def ab_d2 : List (Nat × Instr × Nat) := [(0, .aload_n 0, 1), (1, .invokespecial 3, 3), (4, .aload_n 0, 1), (5, .bipush 8, 2), (7, .anewarray 9, 3), (10, .putfield 11, 3), (13, .aload_n 0, 1), (14, .bipush 40, 2), (16, .anewarray 17, 3), (19, .putfield 19, 3), (22, .aload_n 0, 1), (23, .iconst 0, 1), (24, .putfield 23, 3), (27, .aload_n 0, 1), (28, .iconst 0, 1), (29, .putfield 27, 3), (32, .aload_n 0, 1), (33, .iconst 0, 1), (34, .putfield 30, 3), (37, .aload_n 0, 1), (38, .iconst 0, 1), (39, .putfield 33, 3), (42, .aload_n 0, 1), (43, .iconst 0, 1), (44, .putfield 36, 3), (47, .aload_n 0, 1), (48, .iconst 0, 1), (49, .putfield 39, 3), (52, .aload_n 0, 1), (53, .iconst 1, 1), (54, .putfield 42, 3), (57, .aload_n 0, 1), (58, .bipush 7, 2), (60, .putfield 46, 3), (63, .aload_n 0, 1), (64, .iconst 0, 1), (65, .putfield 49, 3), (68, .aload_n 0, 1), (69, .iconst 0, 1), (70, .putfield 52, 3), (73, .aload_n 0, 1), (74, .iconst 0, 1), (75, .putfield 55, 3), (78, .aload_n 0, 1), (79, .aload_n 1, 1), (80, .putfield 58, 3), (83, .iconst 0, 1), (84, .istore_n 2, 1), (85, .iload_n 2, 1), (86, .bipush 8, 2), (88, .if_icmp .ge 22, 3), (91, .aload_n 0, 1), (92, .getfield 11, 3), (95, .iload_n 2, 1), (96, .new 9, 3), (99, .dup, 1), (100, .invokespecial 62, 3), (103, .aastore, 1), (104, .iinc 2 1, 3), (107, .goto (-22), 3), (110, .iconst 0, 1), (111, .istore_n 2, 1), (112, .iload_n 2, 1), (113, .bipush 40, 2), (115, .if_icmp .ge 22, 3), (118, .aload_n 0, 1), (119, .getfield 19, 3), (122, .iload_n 2, 1), (123, .new 17, 3), (126, .dup, 1), (127, .invokespecial 63, 3), (130, .aastore, 1), (131, .iinc 2 1, 3), (134, .goto (-22), 3), (137, .return_, 1)]
theorem hc2 : ab_code 2 = cX1_init := rfl
set_option maxRecDepth 100000 in
theorem ab_dk2 : ∀ r ∈ ab_d2, decode (ab_code 2) r.1 = .ok (r.2.1, r.2.2) := ab_fa_all (⟨ab_dc hc2 dX1_init_0, ab_dc hc2 dX1_init_1, ab_dc hc2 dX1_init_4, ab_dc hc2 dX1_init_5, ab_dc hc2 dX1_init_7, ab_dc hc2 dX1_init_10, ab_dc hc2 dX1_init_13, ab_dc hc2 dX1_init_14, ab_dc hc2 dX1_init_16, ab_dc hc2 dX1_init_19, ab_dc hc2 dX1_init_22, ab_dc hc2 dX1_init_23, ab_dc hc2 dX1_init_24, ab_dc hc2 dX1_init_27, ab_dc hc2 dX1_init_28, ab_dc hc2 dX1_init_29, ab_dc hc2 dX1_init_32, ab_dc hc2 dX1_init_33, ab_dc hc2 dX1_init_34, ab_dc hc2 dX1_init_37, ab_dc hc2 dX1_init_38, ab_dc hc2 dX1_init_39, ab_dc hc2 dX1_init_42, ab_dc hc2 dX1_init_43, ab_dc hc2 dX1_init_44, ab_dc hc2 dX1_init_47, ab_dc hc2 dX1_init_48, ab_dc hc2 dX1_init_49, ab_dc hc2 dX1_init_52, ab_dc hc2 dX1_init_53, ab_dc hc2 dX1_init_54, ab_dc hc2 dX1_init_57, ab_dc hc2 dX1_init_58, ab_dc hc2 dX1_init_60, ab_dc hc2 dX1_init_63, ab_dc hc2 dX1_init_64, ab_dc hc2 dX1_init_65, ab_dc hc2 dX1_init_68, ab_dc hc2 dX1_init_69, ab_dc hc2 dX1_init_70, ab_dc hc2 dX1_init_73, ab_dc hc2 dX1_init_74, ab_dc hc2 dX1_init_75, ab_dc hc2 dX1_init_78, ab_dc hc2 dX1_init_79, ab_dc hc2 dX1_init_80, ab_dc hc2 dX1_init_83, ab_dc hc2 dX1_init_84, ab_dc hc2 dX1_init_85, ab_dc hc2 dX1_init_86, ab_dc hc2 dX1_init_88, ab_dc hc2 dX1_init_91, ab_dc hc2 dX1_init_92, ab_dc hc2 dX1_init_95, ab_dc hc2 dX1_init_96, ab_dc hc2 dX1_init_99, ab_dc hc2 dX1_init_100, ab_dc hc2 dX1_init_103, ab_dc hc2 dX1_init_104, ab_dc hc2 dX1_init_107, ab_dc hc2 dX1_init_110, ab_dc hc2 dX1_init_111, ab_dc hc2 dX1_init_112, ab_dc hc2 dX1_init_113, ab_dc hc2 dX1_init_115, ab_dc hc2 dX1_init_118, ab_dc hc2 dX1_init_119, ab_dc hc2 dX1_init_122, ab_dc hc2 dX1_init_123, ab_dc hc2 dX1_init_126, ab_dc hc2 dX1_init_127, ab_dc hc2 dX1_init_130, ab_dc hc2 dX1_init_131, ab_dc hc2 dX1_init_134, ab_dc hc2 dX1_init_137, trivial⟩ : ab_fa (fun r : Nat × Instr × Nat => decode (ab_code 2) r.1 = .ok (r.2.1, r.2.2)) ab_d2)
def ab_d34 : List (Nat × Instr × Nat) := [(0, .aload_n 0, 1), (1, .invokespecial 1, 3), (4, .aload_n 0, 1), (5, .iconst 0, 1), (6, .putfield 7, 3), (9, .aload_n 0, 1), (10, .iconst 0, 1), (11, .putfield 13, 3), (14, .aload_n 0, 1), (15, .aload_n 1, 1), (16, .putfield 16, 3), (19, .aload_n 0, 1), (20, .aload_n 2, 1), (21, .putfield 20, 3), (24, .return_, 1)]
theorem hc34 : ab_code 34 = cX2_init := rfl
set_option maxRecDepth 100000 in
theorem ab_dk34 : ∀ r ∈ ab_d34, decode (ab_code 34) r.1 = .ok (r.2.1, r.2.2) := ab_fa_all (⟨ab_dc hc34 dX2_init_0, ab_dc hc34 dX2_init_1, ab_dc hc34 dX2_init_4, ab_dc hc34 dX2_init_5, ab_dc hc34 dX2_init_6, ab_dc hc34 dX2_init_9, ab_dc hc34 dX2_init_10, ab_dc hc34 dX2_init_11, ab_dc hc34 dX2_init_14, ab_dc hc34 dX2_init_15, ab_dc hc34 dX2_init_16, ab_dc hc34 dX2_init_19, ab_dc hc34 dX2_init_20, ab_dc hc34 dX2_init_21, ab_dc hc34 dX2_init_24, trivial⟩ : ab_fa (fun r : Nat × Instr × Nat => decode (ab_code 34) r.1 = .ok (r.2.1, r.2.2)) ab_d34)
def ab_d36 : List (Nat × Instr × Nat) := [(0, .aload_n 0, 1), (1, .invokespecial 1, 3), (4, .aload_n 0, 1), (5, .new 7, 3), (8, .dup, 1), (9, .invokespecial 9, 3), (12, .putfield 10, 3), (15, .aload_n 0, 1), (16, .iconst 0, 1), (17, .putfield 16, 3), (20, .return_, 1)]
theorem hc36 : ab_code 36 = cX3_init := rfl
set_option maxRecDepth 100000 in
theorem ab_dk36 : ∀ r ∈ ab_d36, decode (ab_code 36) r.1 = .ok (r.2.1, r.2.2) := ab_fa_all (⟨ab_dc hc36 dX3_init_0, ab_dc hc36 dX3_init_1, ab_dc hc36 dX3_init_4, ab_dc hc36 dX3_init_5, ab_dc hc36 dX3_init_8, ab_dc hc36 dX3_init_9, ab_dc hc36 dX3_init_12, ab_dc hc36 dX3_init_15, ab_dc hc36 dX3_init_16, ab_dc hc36 dX3_init_17, ab_dc hc36 dX3_init_20, trivial⟩ : ab_fa (fun r : Nat × Instr × Nat => decode (ab_code 36) r.1 = .ok (r.2.1, r.2.2)) ab_d36)
def ab_d37 : List (Nat × Instr × Nat) := [(0, .aload_n 0, 1), (1, .invokespecial 3, 3), (4, .aload_n 0, 1), (5, .bipush 8, 2), (7, .bipush 8, 2), (9, .multianewarray 9 2, 4), (13, .putfield 11, 3), (16, .aload_n 0, 1), (17, .bipush 8, 2), (19, .newarray .int, 2), (21, .putfield 16, 3), (24, .aload_n 0, 1), (25, .bipush 12, 2), (27, .newarray .int, 2), (29, .putfield 20, 3), (32, .aload_n 0, 1), (33, .iconst 0, 1), (34, .putfield 23, 3), (37, .aload_n 0, 1), (38, .iconst 1, 1), (39, .putfield 27, 3), (42, .aload_n 0, 1), (43, .iconst 0, 1), (44, .putfield 30, 3), (47, .return_, 1)]
theorem hc37 : ab_code 37 = cX4_init := rfl
set_option maxRecDepth 100000 in
theorem ab_dk37 : ∀ r ∈ ab_d37, decode (ab_code 37) r.1 = .ok (r.2.1, r.2.2) := ab_fa_all (⟨ab_dc hc37 dX4_init_0, ab_dc hc37 dX4_init_1, ab_dc hc37 dX4_init_4, ab_dc hc37 dX4_init_5, ab_dc hc37 dX4_init_7, ab_dc hc37 dX4_init_9, ab_dc hc37 dX4_init_13, ab_dc hc37 dX4_init_16, ab_dc hc37 dX4_init_17, ab_dc hc37 dX4_init_19, ab_dc hc37 dX4_init_21, ab_dc hc37 dX4_init_24, ab_dc hc37 dX4_init_25, ab_dc hc37 dX4_init_27, ab_dc hc37 dX4_init_29, ab_dc hc37 dX4_init_32, ab_dc hc37 dX4_init_33, ab_dc hc37 dX4_init_34, ab_dc hc37 dX4_init_37, ab_dc hc37 dX4_init_38, ab_dc hc37 dX4_init_39, ab_dc hc37 dX4_init_42, ab_dc hc37 dX4_init_43, ab_dc hc37 dX4_init_44, ab_dc hc37 dX4_init_47, trivial⟩ : ab_fa (fun r : Nat × Instr × Nat => decode (ab_code 37) r.1 = .ok (r.2.1, r.2.2)) ab_d37)
def ab_d46 : List (Nat × Instr × Nat) := [(0, .aload_n 0, 1), (1, .invokespecial 3, 3), (4, .aload_n 0, 1), (5, .bipush 6, 2), (7, .newarray .int, 2), (9, .putfield 9, 3), (12, .aload_n 0, 1), (13, .iconst 0, 1), (14, .putfield 15, 3), (17, .aload_n 0, 1), (18, .bipush 6, 2), (20, .newarray .int, 2), (22, .putfield 19, 3), (25, .aload_n 0, 1), (26, .bipush 8, 2), (28, .newarray .int, 2), (30, .putfield 22, 3), (33, .aload_n 0, 1), (34, .iconst 0, 1), (35, .putfield 25, 3), (38, .aload_n 0, 1), (39, .aload_n 1, 1), (40, .putfield 28, 3), (43, .aload_n 0, 1), (44, .aload_n 2, 1), (45, .putfield 32, 3), (48, .return_, 1)]
theorem hc46 : ab_code 46 = cX5_init := rfl
set_option maxRecDepth 100000 in
theorem ab_dk46 : ∀ r ∈ ab_d46, decode (ab_code 46) r.1 = .ok (r.2.1, r.2.2) := ab_fa_all (⟨ab_dc hc46 dX5_init_0, ab_dc hc46 dX5_init_1, ab_dc hc46 dX5_init_4, ab_dc hc46 dX5_init_5, ab_dc hc46 dX5_init_7, ab_dc hc46 dX5_init_9, ab_dc hc46 dX5_init_12, ab_dc hc46 dX5_init_13, ab_dc hc46 dX5_init_14, ab_dc hc46 dX5_init_17, ab_dc hc46 dX5_init_18, ab_dc hc46 dX5_init_20, ab_dc hc46 dX5_init_22, ab_dc hc46 dX5_init_25, ab_dc hc46 dX5_init_26, ab_dc hc46 dX5_init_28, ab_dc hc46 dX5_init_30, ab_dc hc46 dX5_init_33, ab_dc hc46 dX5_init_34, ab_dc hc46 dX5_init_35, ab_dc hc46 dX5_init_38, ab_dc hc46 dX5_init_39, ab_dc hc46 dX5_init_40, ab_dc hc46 dX5_init_43, ab_dc hc46 dX5_init_44, ab_dc hc46 dX5_init_45, ab_dc hc46 dX5_init_48, trivial⟩ : ab_fa (fun r : Nat × Instr × Nat => decode (ab_code 46) r.1 = .ok (r.2.1, r.2.2)) ab_d46)
def ab_d51 : List (Nat × Instr × Nat) := [(0, .aload_n 0, 1), (1, .invokespecial 3, 3), (4, .aload_n 0, 1), (5, .iconst 0, 1), (6, .putfield 9, 3), (9, .aload_n 0, 1), (10, .bipush (-4), 2), (12, .putfield 15, 3), (15, .aload_n 0, 1), (16, .iconst 0, 1), (17, .putfield 18, 3), (20, .aload_n 0, 1), (21, .iconst 0, 1), (22, .putfield 21, 3), (25, .aload_n 0, 1), (26, .iconst 0, 1), (27, .putfield 24, 3), (30, .return_, 1)]
theorem hc51 : ab_code 51 = cX6_init := rfl
set_option maxRecDepth 100000 in
theorem ab_dk51 : ∀ r ∈ ab_d51, decode (ab_code 51) r.1 = .ok (r.2.1, r.2.2) := ab_fa_all (⟨ab_dc hc51 dX6_init_0, ab_dc hc51 dX6_init_1, ab_dc hc51 dX6_init_4, ab_dc hc51 dX6_init_5, ab_dc hc51 dX6_init_6, ab_dc hc51 dX6_init_9, ab_dc hc51 dX6_init_10, ab_dc hc51 dX6_init_12, ab_dc hc51 dX6_init_15, ab_dc hc51 dX6_init_16, ab_dc hc51 dX6_init_17, ab_dc hc51 dX6_init_20, ab_dc hc51 dX6_init_21, ab_dc hc51 dX6_init_22, ab_dc hc51 dX6_init_25, ab_dc hc51 dX6_init_26, ab_dc hc51 dX6_init_27, ab_dc hc51 dX6_init_30, trivial⟩ : ab_fa (fun r : Nat × Instr × Nat => decode (ab_code 51) r.1 = .ok (r.2.1, r.2.2)) ab_d51)
def ab_d52 : List (Nat × Instr × Nat) := [(0, .aload_n 0, 1), (1, .invokespecial 1, 3), (4, .aload_n 0, 1), (5, .iconst 0, 1), (6, .putfield 7, 3), (9, .aload_n 0, 1), (10, .iconst 0, 1), (11, .putfield 13, 3), (14, .aload_n 0, 1), (15, .iconst 0, 1), (16, .putfield 16, 3), (19, .aload_n 0, 1), (20, .iconst 0, 1), (21, .putfield 19, 3), (24, .aload_n 0, 1), (25, .iconst 0, 1), (26, .putfield 22, 3), (29, .aload_n 0, 1), (30, .iconst 0, 1), (31, .putfield 25, 3), (34, .aload_n 0, 1), (35, .iconst 0, 1), (36, .putfield 28, 3), (39, .aload_n 0, 1), (40, .iconst 0, 1), (41, .putfield 31, 3), (44, .return_, 1)]
theorem hc52 : ab_code 52 = cX7_init := rfl
set_option maxRecDepth 100000 in
theorem ab_dk52 : ∀ r ∈ ab_d52, decode (ab_code 52) r.1 = .ok (r.2.1, r.2.2) := ab_fa_all (⟨ab_dc hc52 dX7_init_0, ab_dc hc52 dX7_init_1, ab_dc hc52 dX7_init_4, ab_dc hc52 dX7_init_5, ab_dc hc52 dX7_init_6, ab_dc hc52 dX7_init_9, ab_dc hc52 dX7_init_10, ab_dc hc52 dX7_init_11, ab_dc hc52 dX7_init_14, ab_dc hc52 dX7_init_15, ab_dc hc52 dX7_init_16, ab_dc hc52 dX7_init_19, ab_dc hc52 dX7_init_20, ab_dc hc52 dX7_init_21, ab_dc hc52 dX7_init_24, ab_dc hc52 dX7_init_25, ab_dc hc52 dX7_init_26, ab_dc hc52 dX7_init_29, ab_dc hc52 dX7_init_30, ab_dc hc52 dX7_init_31, ab_dc hc52 dX7_init_34, ab_dc hc52 dX7_init_35, ab_dc hc52 dX7_init_36, ab_dc hc52 dX7_init_39, ab_dc hc52 dX7_init_40, ab_dc hc52 dX7_init_41, ab_dc hc52 dX7_init_44, trivial⟩ : ab_fa (fun r : Nat × Instr × Nat => decode (ab_code 52) r.1 = .ok (r.2.1, r.2.2)) ab_d52)
def ab_d55 : List (Nat × Instr × Nat) := [(0, .aload_n 0, 1), (1, .invokespecial 3, 3), (4, .aload_n 0, 1), (5, .bipush 40, 2), (7, .newarray .int, 2), (9, .putfield 9, 3), (12, .aload_n 0, 1), (13, .iconst 0, 1), (14, .putfield 15, 3), (17, .aload_n 0, 1), (18, .iconst (-1), 1), (19, .putfield 19, 3), (22, .return_, 1)]
theorem hc55 : ab_code 55 = cX8_init := rfl
set_option maxRecDepth 100000 in
theorem ab_dk55 : ∀ r ∈ ab_d55, decode (ab_code 55) r.1 = .ok (r.2.1, r.2.2) := ab_fa_all (⟨ab_dc hc55 dX8_init_0, ab_dc hc55 dX8_init_1, ab_dc hc55 dX8_init_4, ab_dc hc55 dX8_init_5, ab_dc hc55 dX8_init_7, ab_dc hc55 dX8_init_9, ab_dc hc55 dX8_init_12, ab_dc hc55 dX8_init_13, ab_dc hc55 dX8_init_14, ab_dc hc55 dX8_init_17, ab_dc hc55 dX8_init_18, ab_dc hc55 dX8_init_19, ab_dc hc55 dX8_init_22, trivial⟩ : ab_fa (fun r : Nat × Instr × Nat => decode (ab_code 55) r.1 = .ok (r.2.1, r.2.2)) ab_d55)
def ab_d59 : List (Nat × Instr × Nat) := [(0, .aload_n 0, 1), (1, .invokespecial 3, 3), (4, .aload_n 0, 1), (5, .new 9, 3), (8, .dup, 1), (9, .invokespecial 11, 3), (12, .putfield 12, 3), (15, .aload_n 0, 1), (16, .iconst 0, 1), (17, .putfield 18, 3), (20, .aload_n 0, 1), (21, .iconst 0, 1), (22, .putfield 22, 3), (25, .aload_n 0, 1), (26, .iconst 0, 1), (27, .putfield 25, 3), (30, .aload_n 0, 1), (31, .aload_n 1, 1), (32, .putfield 29, 3), (35, .return_, 1)]
theorem hc59 : ab_code 59 = cX9_init := rfl
set_option maxRecDepth 100000 in
theorem ab_dk59 : ∀ r ∈ ab_d59, decode (ab_code 59) r.1 = .ok (r.2.1, r.2.2) := ab_fa_all (⟨ab_dc hc59 dX9_init_0, ab_dc hc59 dX9_init_1, ab_dc hc59 dX9_init_4, ab_dc hc59 dX9_init_5, ab_dc hc59 dX9_init_8, ab_dc hc59 dX9_init_9, ab_dc hc59 dX9_init_12, ab_dc hc59 dX9_init_15, ab_dc hc59 dX9_init_16, ab_dc hc59 dX9_init_17, ab_dc hc59 dX9_init_20, ab_dc hc59 dX9_init_21, ab_dc hc59 dX9_init_22, ab_dc hc59 dX9_init_25, ab_dc hc59 dX9_init_26, ab_dc hc59 dX9_init_27, ab_dc hc59 dX9_init_30, ab_dc hc59 dX9_init_31, ab_dc hc59 dX9_init_32, ab_dc hc59 dX9_init_35, trivial⟩ : ab_fa (fun r : Nat × Instr × Nat => decode (ab_code 59) r.1 = .ok (r.2.1, r.2.2)) ab_d59)
def ab_d69 : List (Nat × Instr × Nat) := [(0, .aload_n 0, 1), (1, .invokespecial 3, 3), (4, .aload_n 0, 1), (5, .sipush 320, 3), (8, .newarray .byte, 2), (10, .putfield 9, 3), (13, .aload_n 0, 1), (14, .iconst 0, 1), (15, .putfield 15, 3), (18, .aload_n 0, 1), (19, .iconst 0, 1), (20, .putfield 19, 3), (23, .aload_n 0, 1), (24, .iconst 0, 1), (25, .putfield 22, 3), (28, .aload_n 0, 1), (29, .iconst 0, 1), (30, .putfield 25, 3), (33, .aload_n 0, 1), (34, .iconst 0, 1), (35, .putfield 28, 3), (38, .return_, 1)]
theorem hc69 : ab_code 69 = cX10_init := rfl
set_option maxRecDepth 100000 in
theorem ab_dk69 : ∀ r ∈ ab_d69, decode (ab_code 69) r.1 = .ok (r.2.1, r.2.2) := ab_fa_all (⟨ab_dc hc69 dX10_init_0, ab_dc hc69 dX10_init_1, ab_dc hc69 dX10_init_4, ab_dc hc69 dX10_init_5, ab_dc hc69 dX10_init_8, ab_dc hc69 dX10_init_10, ab_dc hc69 dX10_init_13, ab_dc hc69 dX10_init_14, ab_dc hc69 dX10_init_15, ab_dc hc69 dX10_init_18, ab_dc hc69 dX10_init_19, ab_dc hc69 dX10_init_20, ab_dc hc69 dX10_init_23, ab_dc hc69 dX10_init_24, ab_dc hc69 dX10_init_25, ab_dc hc69 dX10_init_28, ab_dc hc69 dX10_init_29, ab_dc hc69 dX10_init_30, ab_dc hc69 dX10_init_33, ab_dc hc69 dX10_init_34, ab_dc hc69 dX10_init_35, ab_dc hc69 dX10_init_38, trivial⟩ : ab_fa (fun r : Nat × Instr × Nat => decode (ab_code 69) r.1 = .ok (r.2.1, r.2.2)) ab_d69)
def ab_d78 : List (Nat × Instr × Nat) := [(0, .aload_n 0, 1), (1, .invokespecial 1, 3), (4, .aload_n 0, 1), (5, .new 7, 3), (8, .dup, 1), (9, .invokespecial 9, 3), (12, .putfield 10, 3), (15, .aload_n 0, 1), (16, .new 16, 3), (19, .dup, 1), (20, .aload_n 0, 1), (21, .getfield 10, 3), (24, .invokespecial 18, 3), (27, .putfield 21, 3), (30, .aload_n 0, 1), (31, .new 25, 3), (34, .dup, 1), (35, .invokespecial 27, 3), (38, .putfield 28, 3), (41, .aload_n 0, 1), (42, .iconst 2, 1), (43, .anewarray 32, 3), (46, .putfield 34, 3), (49, .aload_n 0, 1), (50, .iconst 4, 1), (51, .anewarray 38, 3), (54, .putfield 40, 3), (57, .aload_n 0, 1), (58, .new 44, 3), (61, .dup, 1), (62, .aload_n 0, 1), (63, .getfield 28, 3), (66, .invokespecial 46, 3), (69, .putfield 49, 3), (72, .aload_n 0, 1), (73, .new 53, 3), (76, .dup, 1), (77, .aload_n 0, 1), (78, .getfield 28, 3), (81, .aload_n 0, 1), (82, .getfield 49, 3), (85, .invokespecial 55, 3), (88, .putfield 58, 3), (91, .aload_n 0, 1), (92, .new 62, 3), (95, .dup, 1), (96, .aload_n 0, 1), (97, .getfield 28, 3), (100, .aload_n 0, 1), (101, .getfield 49, 3), (104, .invokespecial 64, 3), (107, .putfield 65, 3), (110, .aload_n 0, 1), (111, .new 69, 3), (114, .dup, 1), (115, .aload_n 0, 1), (116, .getfield 28, 3), (119, .invokespecial 71, 3), (122, .putfield 72, 3), (125, .aload_n 0, 1), (126, .iconst 0, 1), (127, .putfield 76, 3), (130, .iconst 0, 1), (131, .istore_n 1, 1), (132, .iload_n 1, 1), (133, .iconst 2, 1), (134, .if_icmp .ge 22, 3), (137, .aload_n 0, 1), (138, .getfield 34, 3), (141, .iload_n 1, 1), (142, .new 32, 3), (145, .dup, 1), (146, .invokespecial 80, 3), (149, .aastore, 1), (150, .iinc 1 1, 3), (153, .goto (-21), 3), (156, .iconst 0, 1), (157, .istore_n 1, 1), (158, .iload_n 1, 1), (159, .iconst 4, 1), (160, .if_icmp .ge 22, 3), (163, .aload_n 0, 1), (164, .getfield 40, 3), (167, .iload_n 1, 1), (168, .new 38, 3), (171, .dup, 1), (172, .invokespecial 81, 3), (175, .aastore, 1), (176, .iinc 1 1, 3), (179, .goto (-21), 3), (182, .return_, 1)]
theorem hc78 : ab_code 78 = cX11_init := rfl
set_option maxRecDepth 100000 in
theorem ab_dk78 : ∀ r ∈ ab_d78, decode (ab_code 78) r.1 = .ok (r.2.1, r.2.2) := ab_fa_all (⟨ab_dc hc78 dX11_init_0, ab_dc hc78 dX11_init_1, ab_dc hc78 dX11_init_4, ab_dc hc78 dX11_init_5, ab_dc hc78 dX11_init_8, ab_dc hc78 dX11_init_9, ab_dc hc78 dX11_init_12, ab_dc hc78 dX11_init_15, ab_dc hc78 dX11_init_16, ab_dc hc78 dX11_init_19, ab_dc hc78 dX11_init_20, ab_dc hc78 dX11_init_21, ab_dc hc78 dX11_init_24, ab_dc hc78 dX11_init_27, ab_dc hc78 dX11_init_30, ab_dc hc78 dX11_init_31, ab_dc hc78 dX11_init_34, ab_dc hc78 dX11_init_35, ab_dc hc78 dX11_init_38, ab_dc hc78 dX11_init_41, ab_dc hc78 dX11_init_42, ab_dc hc78 dX11_init_43, ab_dc hc78 dX11_init_46, ab_dc hc78 dX11_init_49, ab_dc hc78 dX11_init_50, ab_dc hc78 dX11_init_51, ab_dc hc78 dX11_init_54, ab_dc hc78 dX11_init_57, ab_dc hc78 dX11_init_58, ab_dc hc78 dX11_init_61, ab_dc hc78 dX11_init_62, ab_dc hc78 dX11_init_63, ab_dc hc78 dX11_init_66, ab_dc hc78 dX11_init_69, ab_dc hc78 dX11_init_72, ab_dc hc78 dX11_init_73, ab_dc hc78 dX11_init_76, ab_dc hc78 dX11_init_77, ab_dc hc78 dX11_init_78, ab_dc hc78 dX11_init_81, ab_dc hc78 dX11_init_82, ab_dc hc78 dX11_init_85, ab_dc hc78 dX11_init_88, ab_dc hc78 dX11_init_91, ab_dc hc78 dX11_init_92, ab_dc hc78 dX11_init_95, ab_dc hc78 dX11_init_96, ab_dc hc78 dX11_init_97, ab_dc hc78 dX11_init_100, ab_dc hc78 dX11_init_101, ab_dc hc78 dX11_init_104, ab_dc hc78 dX11_init_107, ab_dc hc78 dX11_init_110, ab_dc hc78 dX11_init_111, ab_dc hc78 dX11_init_114, ab_dc hc78 dX11_init_115, ab_dc hc78 dX11_init_116, ab_dc hc78 dX11_init_119, ab_dc hc78 dX11_init_122, ab_dc hc78 dX11_init_125, ab_dc hc78 dX11_init_126, ab_dc hc78 dX11_init_127, ab_dc hc78 dX11_init_130, ab_dc hc78 dX11_init_131, ab_dc hc78 dX11_init_132, ab_dc hc78 dX11_init_133, ab_dc hc78 dX11_init_134, ab_dc hc78 dX11_init_137, ab_dc hc78 dX11_init_138, ab_dc hc78 dX11_init_141, ab_dc hc78 dX11_init_142, ab_dc hc78 dX11_init_145, ab_dc hc78 dX11_init_146, ab_dc hc78 dX11_init_149, ab_dc hc78 dX11_init_150, ab_dc hc78 dX11_init_153, ab_dc hc78 dX11_init_156, ab_dc hc78 dX11_init_157, ab_dc hc78 dX11_init_158, ab_dc hc78 dX11_init_159, ab_dc hc78 dX11_init_160, ab_dc hc78 dX11_init_163, ab_dc hc78 dX11_init_164, ab_dc hc78 dX11_init_167, ab_dc hc78 dX11_init_168, ab_dc hc78 dX11_init_171, ab_dc hc78 dX11_init_172, ab_dc hc78 dX11_init_175, ab_dc hc78 dX11_init_176, ab_dc hc78 dX11_init_179, ab_dc hc78 dX11_init_182, trivial⟩ : ab_fa (fun r : Nat × Instr × Nat => decode (ab_code 78) r.1 = .ok (r.2.1, r.2.2)) ab_d78)
def ab_d119 : List (Nat × Instr × Nat) := [(0, .aload_n 0, 1), (1, .invokespecial 1, 3), (4, .aload_n 0, 1), (5, .sipush 320, 3), (8, .newarray .int, 2), (10, .putfield 7, 3), (13, .aload_n 0, 1), (14, .bipush 6, 2), (16, .newarray .int, 2), (18, .dup, 1), (19, .iconst 0, 1), (20, .iconst 0, 1), (21, .iastore, 1), (22, .dup, 1), (23, .iconst 1, 1), (24, .iconst 3, 1), (25, .iastore, 1), (26, .dup, 1), (27, .iconst 2, 1), (28, .bipush 8, 2), (30, .iastore, 1), (31, .dup, 1), (32, .iconst 3, 1), (33, .bipush 13, 2), (35, .iastore, 1), (36, .dup, 1), (37, .iconst 4, 1), (38, .bipush 17, 2), (40, .iastore, 1), (41, .dup, 1), (42, .iconst 5, 1), (43, .bipush 21, 2), (45, .iastore, 1), (46, .putfield 13, 3), (49, .aload_n 0, 1), (50, .bipush 21, 2), (52, .newarray .int, 2), (54, .dup, 1), (55, .iconst 0, 1), (56, .bipush 111, 2), (58, .iastore, 1), (59, .dup, 1), (60, .iconst 1, 1), (61, .bipush 110, 2), (63, .iastore, 1), (64, .dup, 1), (65, .iconst 2, 1), (66, .bipush 101, 2), (68, .iastore, 1), (69, .dup, 1), (70, .iconst 3, 1), (71, .bipush 98, 2), (73, .iastore, 1), (74, .dup, 1), (75, .iconst 4, 1), (76, .bipush 101, 2), (78, .iastore, 1), (79, .dup, 1), (80, .iconst 5, 1), (81, .bipush 103, 2), (83, .iastore, 1), (84, .dup, 1), (85, .bipush 6, 2), (87, .bipush 105, 2), (89, .iastore, 1), (90, .dup, 1), (91, .bipush 7, 2), (93, .bipush 110, 2), (95, .iastore, 1), (96, .dup, 1), (97, .bipush 8, 2), (99, .bipush 112, 2), (101, .iastore, 1), (102, .dup, 1), (103, .bipush 9, 2), (105, .bipush 117, 2), (107, .iastore, 1), (108, .dup, 1), (109, .bipush 10, 2), (111, .bipush 114, 2), (113, .iastore, 1), (114, .dup, 1), (115, .bipush 11, 2), (117, .bipush 115, 2), (119, .iastore, 1), (120, .dup, 1), (121, .bipush 12, 2), (123, .bipush 101, 2), (125, .iastore, 1), (126, .dup, 1), (127, .bipush 13, 2), (129, .bipush 112, 2), (131, .iastore, 1), (132, .dup, 1), (133, .bipush 14, 2), (135, .bipush 97, 2), (137, .iastore, 1), (138, .dup, 1), (139, .bipush 15, 2), (141, .bipush 114, 2), (143, .iastore, 1), (144, .dup, 1), (145, .bipush 16, 2), (147, .bipush 116, 2), (149, .iastore, 1), (150, .dup, 1), (151, .bipush 17, 2), (153, .bipush 112, 2), (155, .iastore, 1), (156, .dup, 1), (157, .bipush 18, 2), (159, .bipush 111, 2), (161, .iastore, 1), (162, .dup, 1), (163, .bipush 19, 2), (165, .bipush 111, 2), (167, .iastore, 1), (168, .dup, 1), (169, .bipush 20, 2), (171, .bipush 114, 2), (173, .iastore, 1), (174, .putfield 16, 3), (177, .aload_n 0, 1), (178, .sipush 300, 3), (181, .newarray .int, 2), (183, .putfield 19, 3), (186, .aload_n 0, 1), (187, .bipush 74, 2), (189, .newarray .int, 2), (191, .putfield 22, 3), (194, .aload_n 0, 1), (195, .bipush 8, 2), (197, .newarray .boolean, 2), (199, .putfield 25, 3), (202, .aload_n 0, 1), (203, .bipush 8, 2), (205, .newarray .int, 2), (207, .putfield 29, 3), (210, .aload_n 0, 1), (211, .bipush 8, 2), (213, .newarray .int, 2), (215, .putfield 32, 3), (218, .aload_n 0, 1), (219, .bipush 8, 2), (221, .newarray .int, 2), (223, .putfield 35, 3), (226, .aload_n 0, 1), (227, .bipush 8, 2), (229, .newarray .int, 2), (231, .putfield 38, 3), (234, .aload_n 0, 1), (235, .bipush 8, 2), (237, .newarray .int, 2), (239, .putfield 41, 3), (242, .aload_n 0, 1), (243, .bipush 8, 2), (245, .newarray .int, 2), (247, .putfield 44, 3), (250, .aload_n 0, 1), (251, .bipush 8, 2), (253, .newarray .int, 2), (255, .putfield 47, 3), (258, .aload_n 0, 1), (259, .bipush 8, 2), (261, .newarray .int, 2), (263, .putfield 50, 3), (266, .aload_n 0, 1), (267, .bipush 8, 2), (269, .newarray .int, 2), (271, .putfield 53, 3), (274, .aload_n 0, 1), (275, .bipush 8, 2), (277, .newarray .int, 2), (279, .putfield 56, 3), (282, .aload_n 0, 1), (283, .sipush 200, 3), (286, .newarray .int, 2), (288, .putfield 59, 3), (291, .aload_n 0, 1), (292, .bipush 40, 2), (294, .newarray .int, 2), (296, .putfield 62, 3), (299, .aload_n 0, 1), (300, .bipush 6, 2), (302, .newarray .int, 2), (304, .putfield 65, 3), (307, .aload_n 0, 1), (308, .bipush 6, 2), (310, .newarray .int, 2), (312, .putfield 68, 3), (315, .aload_n 0, 1), (316, .bipush 60, 2), (318, .newarray .int, 2), (320, .putfield 71, 3), (323, .aload_n 0, 1), (324, .sipush 256, 3), (327, .newarray .int, 2), (329, .putfield 74, 3), (332, .aload_n 0, 1), (333, .iconst 2, 1), (334, .newarray .boolean, 2), (336, .putfield 77, 3), (339, .aload_n 0, 1), (340, .iconst 4, 1), (341, .newarray .int, 2), (343, .dup, 1), (344, .iconst 0, 1), (345, .bipush (-4), 2), (347, .iastore, 1), (348, .dup, 1), (349, .iconst 1, 1), (350, .bipush (-4), 2), (352, .iastore, 1), (353, .dup, 1), (354, .iconst 2, 1), (355, .bipush (-4), 2), (357, .iastore, 1), (358, .dup, 1), (359, .iconst 3, 1), (360, .bipush (-4), 2), (362, .iastore, 1), (363, .putfield 80, 3), (366, .aload_n 0, 1), (367, .iconst 4, 1), (368, .newarray .int, 2), (370, .putfield 83, 3), (373, .aload_n 0, 1), (374, .sipush 160, 3), (377, .newarray .int, 2), (379, .putfield 86, 3), (382, .return_, 1)]
theorem hc119 : ab_code 119 = cX12_init := rfl
set_option maxRecDepth 100000 in
theorem ab_dk119 : ∀ r ∈ ab_d119, decode (ab_code 119) r.1 = .ok (r.2.1, r.2.2) := ab_fa_all (⟨ab_dc hc119 dX12_init_0, ab_dc hc119 dX12_init_1, ab_dc hc119 dX12_init_4, ab_dc hc119 dX12_init_5, ab_dc hc119 dX12_init_8, ab_dc hc119 dX12_init_10, ab_dc hc119 dX12_init_13, ab_dc hc119 dX12_init_14, ab_dc hc119 dX12_init_16, ab_dc hc119 dX12_init_18, ab_dc hc119 dX12_init_19, ab_dc hc119 dX12_init_20, ab_dc hc119 dX12_init_21, ab_dc hc119 dX12_init_22, ab_dc hc119 dX12_init_23, ab_dc hc119 dX12_init_24, ab_dc hc119 dX12_init_25, ab_dc hc119 dX12_init_26, ab_dc hc119 dX12_init_27, ab_dc hc119 dX12_init_28, ab_dc hc119 dX12_init_30, ab_dc hc119 dX12_init_31, ab_dc hc119 dX12_init_32, ab_dc hc119 dX12_init_33, ab_dc hc119 dX12_init_35, ab_dc hc119 dX12_init_36, ab_dc hc119 dX12_init_37, ab_dc hc119 dX12_init_38, ab_dc hc119 dX12_init_40, ab_dc hc119 dX12_init_41, ab_dc hc119 dX12_init_42, ab_dc hc119 dX12_init_43, ab_dc hc119 dX12_init_45, ab_dc hc119 dX12_init_46, ab_dc hc119 dX12_init_49, ab_dc hc119 dX12_init_50, ab_dc hc119 dX12_init_52, ab_dc hc119 dX12_init_54, ab_dc hc119 dX12_init_55, ab_dc hc119 dX12_init_56, ab_dc hc119 dX12_init_58, ab_dc hc119 dX12_init_59, ab_dc hc119 dX12_init_60, ab_dc hc119 dX12_init_61, ab_dc hc119 dX12_init_63, ab_dc hc119 dX12_init_64, ab_dc hc119 dX12_init_65, ab_dc hc119 dX12_init_66, ab_dc hc119 dX12_init_68, ab_dc hc119 dX12_init_69, ab_dc hc119 dX12_init_70, ab_dc hc119 dX12_init_71, ab_dc hc119 dX12_init_73, ab_dc hc119 dX12_init_74, ab_dc hc119 dX12_init_75, ab_dc hc119 dX12_init_76, ab_dc hc119 dX12_init_78, ab_dc hc119 dX12_init_79, ab_dc hc119 dX12_init_80, ab_dc hc119 dX12_init_81, ab_dc hc119 dX12_init_83, ab_dc hc119 dX12_init_84, ab_dc hc119 dX12_init_85, ab_dc hc119 dX12_init_87, ab_dc hc119 dX12_init_89, ab_dc hc119 dX12_init_90, ab_dc hc119 dX12_init_91, ab_dc hc119 dX12_init_93, ab_dc hc119 dX12_init_95, ab_dc hc119 dX12_init_96, ab_dc hc119 dX12_init_97, ab_dc hc119 dX12_init_99, ab_dc hc119 dX12_init_101, ab_dc hc119 dX12_init_102, ab_dc hc119 dX12_init_103, ab_dc hc119 dX12_init_105, ab_dc hc119 dX12_init_107, ab_dc hc119 dX12_init_108, ab_dc hc119 dX12_init_109, ab_dc hc119 dX12_init_111, ab_dc hc119 dX12_init_113, ab_dc hc119 dX12_init_114, ab_dc hc119 dX12_init_115, ab_dc hc119 dX12_init_117, ab_dc hc119 dX12_init_119, ab_dc hc119 dX12_init_120, ab_dc hc119 dX12_init_121, ab_dc hc119 dX12_init_123, ab_dc hc119 dX12_init_125, ab_dc hc119 dX12_init_126, ab_dc hc119 dX12_init_127, ab_dc hc119 dX12_init_129, ab_dc hc119 dX12_init_131, ab_dc hc119 dX12_init_132, ab_dc hc119 dX12_init_133, ab_dc hc119 dX12_init_135, ab_dc hc119 dX12_init_137, ab_dc hc119 dX12_init_138, ab_dc hc119 dX12_init_139, ab_dc hc119 dX12_init_141, ab_dc hc119 dX12_init_143, ab_dc hc119 dX12_init_144, ab_dc hc119 dX12_init_145, ab_dc hc119 dX12_init_147, ab_dc hc119 dX12_init_149, ab_dc hc119 dX12_init_150, ab_dc hc119 dX12_init_151, ab_dc hc119 dX12_init_153, ab_dc hc119 dX12_init_155, ab_dc hc119 dX12_init_156, ab_dc hc119 dX12_init_157, ab_dc hc119 dX12_init_159, ab_dc hc119 dX12_init_161, ab_dc hc119 dX12_init_162, ab_dc hc119 dX12_init_163, ab_dc hc119 dX12_init_165, ab_dc hc119 dX12_init_167, ab_dc hc119 dX12_init_168, ab_dc hc119 dX12_init_169, ab_dc hc119 dX12_init_171, ab_dc hc119 dX12_init_173, ab_dc hc119 dX12_init_174, ab_dc hc119 dX12_init_177, ab_dc hc119 dX12_init_178, ab_dc hc119 dX12_init_181, ab_dc hc119 dX12_init_183, ab_dc hc119 dX12_init_186, ab_dc hc119 dX12_init_187, ab_dc hc119 dX12_init_189, ab_dc hc119 dX12_init_191, ab_dc hc119 dX12_init_194, ab_dc hc119 dX12_init_195, ab_dc hc119 dX12_init_197, ab_dc hc119 dX12_init_199, ab_dc hc119 dX12_init_202, ab_dc hc119 dX12_init_203, ab_dc hc119 dX12_init_205, ab_dc hc119 dX12_init_207, ab_dc hc119 dX12_init_210, ab_dc hc119 dX12_init_211, ab_dc hc119 dX12_init_213, ab_dc hc119 dX12_init_215, ab_dc hc119 dX12_init_218, ab_dc hc119 dX12_init_219, ab_dc hc119 dX12_init_221, ab_dc hc119 dX12_init_223, ab_dc hc119 dX12_init_226, ab_dc hc119 dX12_init_227, ab_dc hc119 dX12_init_229, ab_dc hc119 dX12_init_231, ab_dc hc119 dX12_init_234, ab_dc hc119 dX12_init_235, ab_dc hc119 dX12_init_237, ab_dc hc119 dX12_init_239, ab_dc hc119 dX12_init_242, ab_dc hc119 dX12_init_243, ab_dc hc119 dX12_init_245, ab_dc hc119 dX12_init_247, ab_dc hc119 dX12_init_250, ab_dc hc119 dX12_init_251, ab_dc hc119 dX12_init_253, ab_dc hc119 dX12_init_255, ab_dc hc119 dX12_init_258, ab_dc hc119 dX12_init_259, ab_dc hc119 dX12_init_261, ab_dc hc119 dX12_init_263, ab_dc hc119 dX12_init_266, ab_dc hc119 dX12_init_267, ab_dc hc119 dX12_init_269, ab_dc hc119 dX12_init_271, ab_dc hc119 dX12_init_274, ab_dc hc119 dX12_init_275, ab_dc hc119 dX12_init_277, ab_dc hc119 dX12_init_279, ab_dc hc119 dX12_init_282, ab_dc hc119 dX12_init_283, ab_dc hc119 dX12_init_286, ab_dc hc119 dX12_init_288, ab_dc hc119 dX12_init_291, ab_dc hc119 dX12_init_292, ab_dc hc119 dX12_init_294, ab_dc hc119 dX12_init_296, ab_dc hc119 dX12_init_299, ab_dc hc119 dX12_init_300, ab_dc hc119 dX12_init_302, ab_dc hc119 dX12_init_304, ab_dc hc119 dX12_init_307, ab_dc hc119 dX12_init_308, ab_dc hc119 dX12_init_310, ab_dc hc119 dX12_init_312, ab_dc hc119 dX12_init_315, ab_dc hc119 dX12_init_316, ab_dc hc119 dX12_init_318, ab_dc hc119 dX12_init_320, ab_dc hc119 dX12_init_323, ab_dc hc119 dX12_init_324, ab_dc hc119 dX12_init_327, ab_dc hc119 dX12_init_329, ab_dc hc119 dX12_init_332, ab_dc hc119 dX12_init_333, ab_dc hc119 dX12_init_334, ab_dc hc119 dX12_init_336, ab_dc hc119 dX12_init_339, ab_dc hc119 dX12_init_340, ab_dc hc119 dX12_init_341, ab_dc hc119 dX12_init_343, ab_dc hc119 dX12_init_344, ab_dc hc119 dX12_init_345, ab_dc hc119 dX12_init_347, ab_dc hc119 dX12_init_348, ab_dc hc119 dX12_init_349, ab_dc hc119 dX12_init_350, ab_dc hc119 dX12_init_352, ab_dc hc119 dX12_init_353, ab_dc hc119 dX12_init_354, ab_dc hc119 dX12_init_355, ab_dc hc119 dX12_init_357, ab_dc hc119 dX12_init_358, ab_dc hc119 dX12_init_359, ab_dc hc119 dX12_init_360, ab_dc hc119 dX12_init_362, ab_dc hc119 dX12_init_363, ab_dc hc119 dX12_init_366, ab_dc hc119 dX12_init_367, ab_dc hc119 dX12_init_368, ab_dc hc119 dX12_init_370, ab_dc hc119 dX12_init_373, ab_dc hc119 dX12_init_374, ab_dc hc119 dX12_init_377, ab_dc hc119 dX12_init_379, ab_dc hc119 dX12_init_382, trivial⟩ : ab_fa (fun r : Nat × Instr × Nat => decode (ab_code 119) r.1 = .ok (r.2.1, r.2.2)) ab_d119)
def ab_d205 : List (Nat × Instr × Nat) := [(0, .new 7, 3), (3, .dup, 1), (4, .invokespecial 9, 3), (7, .astore_n 1, 1), (8, .new 10, 3), (11, .dup, 1), (12, .invokespecial 12, 3), (15, .astore_n 2, 1), (16, .iconst 0, 1), (17, .istore_n 3, 1)]
set_option maxRecDepth 100000 in
theorem ab_dk205 : ∀ r ∈ ab_d205, decode (ab_code 205) r.1 = .ok (r.2.1, r.2.2) := ab_fa_all (⟨ab_dc hc205 dL_law_0, ab_dc hc205 dL_law_3, ab_dc hc205 dL_law_4, ab_dc hc205 dL_law_7, ab_dc hc205 dL_law_8, ab_dc hc205 dL_law_11, ab_dc hc205 dL_law_12, ab_dc hc205 dL_law_15, ab_dc hc205 dL_law_16, ab_dc hc205 dL_law_17, trivial⟩ : ab_fa (fun r : Nat × Instr × Nat => decode (ab_code 205) r.1 = .ok (r.2.1, r.2.2)) ab_d205)
def ab_dl (mi pc : Nat) : Option (Instr × Nat) := match mi with
  | 0 => (ab_d0.find? fun r => Nat.beq r.1 pc).map fun r => r.2
  | 2 => (ab_d2.find? fun r => Nat.beq r.1 pc).map fun r => r.2
  | 34 => (ab_d34.find? fun r => Nat.beq r.1 pc).map fun r => r.2
  | 36 => (ab_d36.find? fun r => Nat.beq r.1 pc).map fun r => r.2
  | 37 => (ab_d37.find? fun r => Nat.beq r.1 pc).map fun r => r.2
  | 46 => (ab_d46.find? fun r => Nat.beq r.1 pc).map fun r => r.2
  | 51 => (ab_d51.find? fun r => Nat.beq r.1 pc).map fun r => r.2
  | 52 => (ab_d52.find? fun r => Nat.beq r.1 pc).map fun r => r.2
  | 55 => (ab_d55.find? fun r => Nat.beq r.1 pc).map fun r => r.2
  | 59 => (ab_d59.find? fun r => Nat.beq r.1 pc).map fun r => r.2
  | 69 => (ab_d69.find? fun r => Nat.beq r.1 pc).map fun r => r.2
  | 78 => (ab_d78.find? fun r => Nat.beq r.1 pc).map fun r => r.2
  | 119 => (ab_d119.find? fun r => Nat.beq r.1 pc).map fun r => r.2
  | 205 => (ab_d205.find? fun r => Nat.beq r.1 pc).map fun r => r.2
  | _ => none
theorem ab_dl_find {l : List (Nat × Instr × Nat)} {pc mi : Nat} {i : Instr} {len : Nat} (hl : ∀ r ∈ l, decode (ab_code mi) r.1 = .ok (r.2.1, r.2.2)) (h : (l.find? fun r => Nat.beq r.1 pc).map (fun r => r.2) = some (i, len)) : decode (ab_code mi) pc = .ok (i, len) := by
  cases hf : l.find? fun r => Nat.beq r.1 pc with
  | none =>
    rw [hf] at h
    cases h
  | some r =>
    rw [hf] at h
    have e : r.2 = (i, len) := Option.some.inj h
    have h1 := hl r (List.mem_of_find?_eq_some hf)
    have h2 : Nat.beq r.1 pc = true := by
      have h3 := List.find?_some hf
      exact h3
    rw [Nat.eq_of_beq_eq_true h2, e] at h1
    exact h1
theorem ab_dl_ok {mi pc : Nat} {i : Instr} {len : Nat} (h : ab_dl mi pc = some (i, len)) : decode (ab_code mi) pc = .ok (i, len) := by
  unfold ab_dl at h
  split at h
  · exact ab_dl_find ab_dk0 h
  · exact ab_dl_find ab_dk2 h
  · exact ab_dl_find ab_dk34 h
  · exact ab_dl_find ab_dk36 h
  · exact ab_dl_find ab_dk37 h
  · exact ab_dl_find ab_dk46 h
  · exact ab_dl_find ab_dk51 h
  · exact ab_dl_find ab_dk52 h
  · exact ab_dl_find ab_dk55 h
  · exact ab_dl_find ab_dk59 h
  · exact ab_dl_find ab_dk69 h
  · exact ab_dl_find ab_dk78 h
  · exact ab_dl_find ab_dk119 h
  · exact ab_dl_find ab_dk205 h
  · cases h
def ab_ev : Nat → Nat → Nat → List ab_Ds → ab_M → Nat → ab_Lo → List Value → Option (List ab_Ds × ab_M × Option Value)
  | 0, _, _, _, _, _, _, _ => none
  | n + 1, mi, d, L, M, pc, ls, st => match ab_dl mi pc with
    | none => none
    | some (i, len) => match ab_s2 none mi L M pc ls st i len with
      | none => none
      | some (.inl (L2, (pc2, ls2, st2), M2)) => if (!ab_mk i || ab_gr L L2) = true then ab_ev n mi d L2 M2 pc2 ls2 st2 else none
      | some (.inr (.inl (m2, As, (pc2, ls2, st2)))) => if Nat.ble (ab_dk m2 As + 1) d = true ∧ Nat.ble (ab_lay As).length (ab_nL m2) = true then (match ab_ev n m2 (ab_dk m2 As) L M 0 (ab_en (ab_nL m2) As) [] with
        | none => none
        | some (L2, M2, r) => ab_ev n mi d L2 M2 pc2 ls2 (ab_pr r st2)) else none
      | some (.inr (.inr r)) => some (L, M, r)
theorem ab_gr_mk {L L2 : List ab_Ds} (h : L.length ≤ L2.length ∧ ab_sz L ≤ ab_sz L2) : ab_gr L L2 = true := by
  unfold ab_gr
  rw [Bool.and_eq_true]
  exact ⟨Nat.ble_eq_true_of_le h.1, Nat.ble_eq_true_of_le h.2⟩
theorem ab_gr_step {mi : Nat} {L L2 : List ab_Ds} {M M2 : ab_M} {pc pc2 : Nat} {ls ls2 : ab_Lo} {st st2 : List Value} {i : Instr} {len : Nat} (hd : decode (ab_code mi) pc = .ok (i, len)) (hs : ab_s2 none mi L M pc ls st i len = some (.inl (L2, (pc2, ls2, st2), M2))) (hg : (!ab_mk i || ab_gr L L2) = true) : ab_gr L L2 = true := by
  cases hk : ab_mk i with
  | true =>
    rw [hk] at hg
    simpa using hg
  | false =>
    have hst : ab_step none mi L M pc ls st = some (.inl (L2, (pc2, ls2, st2), M2)) := by
      unfold ab_step
      rw [hd]
      exact hs
    obtain ⟨i2, len2, hd2, hI⟩ := ab_step_plain hst
    rw [hd] at hd2
    cases hd2
    have := ab_sI_same (scr := none) (mi := mi) (L := L) (M := M) (pc := pc) (ls := ls) (st := st) (len := len) hk _ hI
    simp only at this
    rw [this]
    exact ab_gr_rfl L
theorem ab_ev_run : ∀ (n mi d : Nat) (L : List ab_Ds) (M : ab_M) (pc : Nat) (ls : ab_Lo) (st : List Value) (r : List ab_Ds × ab_M × Option Value), ab_ev n mi d L M pc ls st = some r → ab_run none n mi d L M pc ls st = some r := by
  intro n
  induction n with
  | zero =>
    intro mi d L M pc ls st r h
    cases h
  | succ n ih =>
    intro mi d L M pc ls st r h
    rw [ab_ev] at h
    rw [ab_run]
    cases hdl : ab_dl mi pc with
    | none =>
      rw [hdl] at h
      cases h
    | some q =>
      obtain ⟨i, len⟩ := q
      rw [hdl] at h
      have hd := ab_dl_ok hdl
      have hst : ab_step none mi L M pc ls st = ab_s2 none mi L M pc ls st i len := by
        unfold ab_step
        rw [hd]
      rw [hst]
      simp only at h
      split at h
      · cases h
      · rename_i L2 pc2 ls2 st2 M2 hs
        rw [hs]
        by_cases hg : (!ab_mk i || ab_gr L L2) = true
        · rw [if_pos hg] at h
          have hg2 := ab_gr_step hd hs hg
          show (if ab_gr L L2 = true then ab_run none n mi d L2 M2 pc2 ls2 st2 else none) = _
          rw [if_pos hg2]
          exact ih _ _ _ _ _ _ _ _ h
        · rw [if_neg hg] at h
          cases h
      · rename_i m2 As pc2 ls2 st2 hs
        rw [hs]
        show (if Nat.ble (ab_dk m2 As + 1) d = true ∧ Nat.ble (ab_lay As).length (ab_nL m2) = true then (match ab_run none n m2 (ab_dk m2 As) L M 0 (ab_en (ab_nL m2) As) [] with
          | none => none
          | some (L2, M2, r) => if ab_gr L L2 = true then ab_run none n mi d L2 M2 pc2 ls2 (ab_pr r st2) else none) else none) = _
        by_cases hq : Nat.ble (ab_dk m2 As + 1) d = true ∧ Nat.ble (ab_lay As).length (ab_nL m2) = true
        · rw [if_pos hq] at h ⊢
          split at h
          · cases h
          · rename_i L2 M2 r2 hc
            have hr := ih _ _ _ _ _ _ _ _ hc
            rw [hr]
            show (if ab_gr L L2 = true then ab_run none n mi d L2 M2 pc2 ls2 (ab_pr r2 st2) else none) = _
            rw [if_pos (ab_gr_mk (ab_run_gr _ _ _ _ _ _ _ _ _ _ _ _ hr))]
            exact ih _ _ _ _ _ _ _ _ h
        · rw [if_neg hq] at h
          cases h
      · rename_i r9 hs
        rw [hs]
        exact h
/-- k steps of one frame, its calls with fuel f -/
def ab_to (f : Nat) : Nat → Nat → Nat → List ab_Ds → ab_M → Nat → ab_Lo → List Value → Option (List ab_Ds × ab_M × ab_Fr)
  | 0, _, _, L, M, pc, ls, st => some (L, M, (pc, ls, st))
  | k + 1, mi, d, L, M, pc, ls, st => match ab_dl mi pc with
    | none => none
    | some (i, len) => match ab_s2 none mi L M pc ls st i len with
      | some (.inl (L2, (pc2, ls2, st2), M2)) => if (!ab_mk i || ab_gr L L2) = true then ab_to f k mi d L2 M2 pc2 ls2 st2 else none
      | some (.inr (.inl (m2, As, (pc2, ls2, st2)))) => if Nat.ble (ab_dk m2 As + 1) d = true ∧ Nat.ble (ab_lay As).length (ab_nL m2) = true then (match ab_ev f m2 (ab_dk m2 As) L M 0 (ab_en (ab_nL m2) As) [] with
        | none => none
        | some (L2, M2, r) => ab_to f k mi d L2 M2 pc2 ls2 (ab_pr r st2)) else none
      | _ => none
theorem ab_to_run (scr : Option (List Int32)) (f : Nat) : ∀ (k mi d : Nat) (L : List ab_Ds) (M : ab_M) (pc : Nat) (ls : ab_Lo) (st : List Value) (L2 : List ab_Ds) (M2 : ab_M) (pc2 : Nat) (ls2 : ab_Lo) (st2 : List Value) (n : Nat) (r : List ab_Ds × ab_M × Option Value), ab_to f k mi d L M pc ls st = some (L2, M2, (pc2, ls2, st2)) → f ≤ n → ab_run scr n mi d L2 M2 pc2 ls2 st2 = some r → ab_run scr (n + k) mi d L M pc ls st = some r := by
  intro k
  induction k with
  | zero =>
    intro mi d L M pc ls st L2 M2 pc2 ls2 st2 n r h hf hr
    cases h
    exact hr
  | succ k ih =>
    intro mi d L M pc ls st L2 M2 pc2 ls2 st2 n r h hf hr
    rw [ab_to] at h
    rw [Nat.add_succ, ab_run]
    cases hdl : ab_dl mi pc with
    | none =>
      rw [hdl] at h
      cases h
    | some q =>
      obtain ⟨i, len⟩ := q
      rw [hdl] at h
      have hd := ab_dl_ok hdl
      have hst : ab_step none mi L M pc ls st = ab_s2 none mi L M pc ls st i len := by
        unfold ab_step
        rw [hd]
      simp only at h
      split at h
      · rename_i L3 pc3 ls3 st3 M3 hs
        rw [ab_step_none (hst.trans hs)]
        by_cases hg : (!ab_mk i || ab_gr L L3) = true
        · rw [if_pos hg] at h
          have hg2 := ab_gr_step hd hs hg
          show (if ab_gr L L3 = true then ab_run scr (n + k) mi d L3 M3 pc3 ls3 st3 else none) = _
          rw [if_pos hg2]
          exact ih _ _ _ _ _ _ _ _ _ _ _ _ _ _ h hf hr
        · rw [if_neg hg] at h
          cases h
      · rename_i m2 As pc3 ls3 st3 hs
        rw [ab_step_none (hst.trans hs)]
        show (if Nat.ble (ab_dk m2 As + 1) d = true ∧ Nat.ble (ab_lay As).length (ab_nL m2) = true then (match ab_run scr (n + k) m2 (ab_dk m2 As) L M 0 (ab_en (ab_nL m2) As) [] with
          | none => none
          | some (L2, M2, r) => if ab_gr L L2 = true then ab_run scr (n + k) mi d L2 M2 pc3 ls3 (ab_pr r st3) else none) else none) = _
        by_cases hq : Nat.ble (ab_dk m2 As + 1) d = true ∧ Nat.ble (ab_lay As).length (ab_nL m2) = true
        · rw [if_pos hq] at h ⊢
          split at h
          · cases h
          · rename_i L3 M3 r3 hc
            have hrun := ab_run_none scr _ _ _ _ _ _ _ _ _ (ab_ev_run _ _ _ _ _ _ _ _ _ hc)
            rw [ab_run_le (show f ≤ n + k by omega) hrun]
            show (if ab_gr L L3 = true then ab_run scr (n + k) mi d L3 M3 pc3 ls3 (ab_pr r3 st3) else none) = _
            rw [if_pos (ab_gr_mk (ab_run_gr _ _ _ _ _ _ _ _ _ _ _ _ hrun))]
            exact ih _ _ _ _ _ _ _ _ _ _ _ _ _ _ h hf hr
        · rw [if_neg hq] at h
          cases h
      · cases h
