/-! THE SHAPE of the heap behind both constructors (written by a program): tags and references of its 214 cells -/
def sh_Tl : List mm_Tag := [.inl 11, .inl 8, .inl 0, .inl 5, .inr (.inl 80), .inl 5, .inr (.inl 80), .inl 5, .inr (.inl 80), .inl 5, .inr (.inl 320), .inl 5, .inr (.inl 3), .inl 5, .inr (.inl 80), .inl 5, .inr (.inl 80), .inl 3, .inl 5, .inr (.inl 8), .inl 5, .inr (.inl 8), .inl 10, .inl 5, .inr (.inl 6), .inl 5, .inr (.inl 6), .inl 5, .inr (.inl 6), .inl 5, .inr (.inl 6), .inl 5, .inr (.inl 6), .inl 5, .inr (.inl 6), .inr (.inr (1, 5)), .inl 1, .inl 5, .inr (.inl 4), .inl 1, .inl 5, .inr (.inl 4), .inl 1, .inl 5, .inr (.inl 4), .inl 1, .inl 5, .inr (.inl 4), .inl 1, .inl 5, .inr (.inl 4), .inr (.inr (4, 6)), .inl 4, .inl 5, .inr (.inl 120), .inl 5, .inr (.inl 96), .inl 4, .inl 5, .inr (.inl 120), .inl 5, .inr (.inl 96), .inl 4, .inl 5, .inr (.inl 120), .inl 5, .inr (.inl 96), .inl 4, .inl 5, .inr (.inl 120), .inl 5, .inr (.inl 96), .inl 4, .inl 5, .inr (.inl 120), .inl 5, .inr (.inl 96), .inl 4, .inl 5, .inr (.inl 120), .inl 5, .inr (.inl 96), .inl 5, .inr (.inl 36), .inl 5, .inr (.inl 300), .inl 8, .inl 0, .inl 5, .inr (.inl 80), .inl 5, .inr (.inl 80), .inl 5, .inr (.inl 80), .inl 5, .inr (.inl 320), .inl 5, .inr (.inl 3), .inl 5, .inr (.inl 80), .inl 5, .inr (.inl 80), .inl 3, .inl 5, .inr (.inl 8), .inl 5, .inr (.inl 8), .inl 10, .inl 5, .inr (.inl 6), .inl 5, .inr (.inl 6), .inl 5, .inr (.inl 6), .inl 5, .inr (.inl 6), .inl 5, .inr (.inl 6), .inl 5, .inr (.inl 6), .inr (.inr (1, 5)), .inl 1, .inl 5, .inr (.inl 4), .inl 1, .inl 5, .inr (.inl 4), .inl 1, .inl 5, .inr (.inl 4), .inl 1, .inl 5, .inr (.inl 4), .inl 1, .inl 5, .inr (.inl 4), .inr (.inr (4, 6)), .inl 4, .inl 5, .inr (.inl 120), .inl 5, .inr (.inl 96), .inl 4, .inl 5, .inr (.inl 120), .inl 5, .inr (.inl 96), .inl 4, .inl 5, .inr (.inl 120), .inl 5, .inr (.inl 96), .inl 4, .inl 5, .inr (.inl 120), .inl 5, .inr (.inl 96), .inl 4, .inl 5, .inr (.inl 120), .inl 5, .inr (.inl 96), .inl 4, .inl 5, .inr (.inl 120), .inl 5, .inr (.inl 96), .inl 5, .inr (.inl 36), .inl 5, .inr (.inl 300), .inl 6, .inl 5, .inr (.inl 96), .inl 5, .inr (.inl 96), .inl 2, .inl 9, .inl 5, .inr (.inl 97), .inl 5, .inr (.inl 97), .inl 5, .inr (.inl 97), .inl 4, .inl 5, .inr (.inl 120), .inl 5, .inr (.inl 96), .inl 5, .inr (.inl 4), .inl 5, .inr (.inl 100), .inl 5, .inr (.inl 48), .inl 7, .inl 5, .inr (.inl 80), .inl 5, .inr (.inl 80), .inl 12, .inr (.inl 3734), .inr (.inl 3734), .inr (.inl 96), .inr (.inl 100), .inr (.inl 2), .inr (.inl 160), .inr (.inl 80), .inr (.inl 80), .inr (.inr (13, 11)), .inr (.inl 160), .inr (.inl 6), .inr (.inl 6), .inr (.inl 80)]
def sh_Rl : List (List (Option Nat)) := [[some 1, some 86, none, some 171, some 174, some 176, some 191, some 193, some 195], [some 2, some 17, some 22, some 35, none, some 51, some 82, some 84], [none, none, some 3, some 5, some 7, some 9, some 11, none, none, some 13, some 15], [some 4], [], [some 6], [], [some 8], [], [some 10], [], [some 12], [], [some 14], [], [some 16], [], [none, none, none, none, none, none, none, none, some 18, some 20], [some 19], [], [some 21], [], [some 23, some 25, some 27, some 29, some 31, some 33], [some 24], [], [some 26], [], [some 28], [], [some 30], [], [some 32], [], [some 34], [], [some 36, some 39, some 42, some 45, some 48], [none, none, none, none, none, none, none, none, some 37], [some 38], [], [none, none, none, none, none, none, none, none, some 40], [some 41], [], [none, none, none, none, none, none, none, none, some 43], [some 44], [], [none, none, none, none, none, none, none, none, some 46], [some 47], [], [none, none, none, none, none, none, none, none, some 49], [some 50], [], [some 52, some 57, some 62, some 67, some 72, some 77], [some 53, some 55], [some 54], [], [some 56], [], [some 58, some 60], [some 59], [], [some 61], [], [some 63, some 65], [some 64], [], [some 66], [], [some 68, some 70], [some 69], [], [some 71], [], [some 73, some 75], [some 74], [], [some 76], [], [some 78, some 80], [some 79], [], [some 81], [], [some 83], [], [some 85], [], [some 87, some 102, some 107, some 120, none, some 136, some 167, some 169], [none, none, some 88, some 90, some 92, some 94, some 96, none, none, some 98, some 100], [some 89], [], [some 91], [], [some 93], [], [some 95], [], [some 97], [], [some 99], [], [some 101], [], [none, none, none, none, none, none, none, none, some 103, some 105], [some 104], [], [some 106], [], [some 108, some 110, some 112, some 114, some 116, some 118], [some 109], [], [some 111], [], [some 113], [], [some 115], [], [some 117], [], [some 119], [], [some 121, some 124, some 127, some 130, some 133], [none, none, none, none, none, none, none, none, some 122], [some 123], [], [none, none, none, none, none, none, none, none, some 125], [some 126], [], [none, none, none, none, none, none, none, none, some 128], [some 129], [], [none, none, none, none, none, none, none, none, some 131], [some 132], [], [none, none, none, none, none, none, none, none, some 134], [some 135], [], [some 137, some 142, some 147, some 152, some 157, some 162], [some 138, some 140], [some 139], [], [some 141], [], [some 143, some 145], [some 144], [], [some 146], [], [some 148, some 150], [some 149], [], [some 151], [], [some 153, some 155], [some 154], [], [some 156], [], [some 158, some 160], [some 159], [], [some 161], [], [some 163, some 165], [some 164], [], [some 166], [], [some 168], [], [some 170], [], [some 1, some 172], [some 173], [], [some 175], [], [some 177, some 184, some 189], [some 174, some 178, some 180, some 182], [some 179], [], [some 181], [], [some 183], [], [some 185, some 187], [some 186], [], [some 188], [], [some 190], [], [some 192], [], [some 194], [], [some 196, some 198], [some 197], [], [some 199], [], [some 201, some 202, none, some 203, none, none, some 204, some 205, some 206, some 207, some 208, none, none, none, none, none, none, none, none, some 209, some 210, none, none, none, some 211, some 212, none, none, none, none, some 213], [], [], [], [], [], [], [], [], [some 100005, some 100006, some 100007, some 100008, some 100009, some 100010, some 100011, some 100012, some 100013, some 100014, some 100015], [], [], [], []]
def sh_S : mm_Sh := (214, fun a => sh_Tl.getD a (.inl 0), fun a k => (sh_Rl.getD a []).getD k none)
theorem so_0 : mm_ob sh_S 0 11 := ⟨by decide, rfl⟩
theorem sr_0_0 : sh_S.2.2 0 0 = some 1 := rfl
theorem sr_0_1 : sh_S.2.2 0 1 = some 86 := rfl
theorem sr_0_3 : sh_S.2.2 0 3 = some 171 := rfl
theorem sr_0_4 : sh_S.2.2 0 4 = some 174 := rfl
theorem sr_0_5 : sh_S.2.2 0 5 = some 176 := rfl
theorem sr_0_6 : sh_S.2.2 0 6 = some 191 := rfl
theorem sr_0_7 : sh_S.2.2 0 7 = some 193 := rfl
theorem sr_0_8 : sh_S.2.2 0 8 = some 195 := rfl
theorem so_1 : mm_ob sh_S 1 8 := ⟨by decide, rfl⟩
theorem sr_1_0 : sh_S.2.2 1 0 = some 2 := rfl
theorem sr_1_1 : sh_S.2.2 1 1 = some 17 := rfl
theorem sr_1_2 : sh_S.2.2 1 2 = some 22 := rfl
theorem sr_1_3 : sh_S.2.2 1 3 = some 35 := rfl
theorem sr_1_5 : sh_S.2.2 1 5 = some 51 := rfl
theorem sr_1_6 : sh_S.2.2 1 6 = some 82 := rfl
theorem sr_1_7 : sh_S.2.2 1 7 = some 84 := rfl
theorem so_2 : mm_ob sh_S 2 0 := ⟨by decide, rfl⟩
theorem sr_2_2 : sh_S.2.2 2 2 = some 3 := rfl
theorem sr_2_3 : sh_S.2.2 2 3 = some 5 := rfl
theorem sr_2_4 : sh_S.2.2 2 4 = some 7 := rfl
theorem sr_2_5 : sh_S.2.2 2 5 = some 9 := rfl
theorem sr_2_6 : sh_S.2.2 2 6 = some 11 := rfl
theorem sr_2_9 : sh_S.2.2 2 9 = some 13 := rfl
theorem sr_2_10 : sh_S.2.2 2 10 = some 15 := rfl
theorem so_3 : mm_ob sh_S 3 5 := ⟨by decide, rfl⟩
theorem sr_3_0 : sh_S.2.2 3 0 = some 4 := rfl
theorem sa_4 : mm_ia sh_S 4 80 := ⟨by decide, rfl⟩
theorem so_5 : mm_ob sh_S 5 5 := ⟨by decide, rfl⟩
theorem sr_5_0 : sh_S.2.2 5 0 = some 6 := rfl
theorem sa_6 : mm_ia sh_S 6 80 := ⟨by decide, rfl⟩
theorem so_7 : mm_ob sh_S 7 5 := ⟨by decide, rfl⟩
theorem sr_7_0 : sh_S.2.2 7 0 = some 8 := rfl
theorem sa_8 : mm_ia sh_S 8 80 := ⟨by decide, rfl⟩
theorem so_9 : mm_ob sh_S 9 5 := ⟨by decide, rfl⟩
theorem sr_9_0 : sh_S.2.2 9 0 = some 10 := rfl
theorem sa_10 : mm_ia sh_S 10 320 := ⟨by decide, rfl⟩
theorem so_11 : mm_ob sh_S 11 5 := ⟨by decide, rfl⟩
theorem sr_11_0 : sh_S.2.2 11 0 = some 12 := rfl
theorem sa_12 : mm_ia sh_S 12 3 := ⟨by decide, rfl⟩
theorem so_13 : mm_ob sh_S 13 5 := ⟨by decide, rfl⟩
theorem sr_13_0 : sh_S.2.2 13 0 = some 14 := rfl
theorem sa_14 : mm_ia sh_S 14 80 := ⟨by decide, rfl⟩
theorem so_15 : mm_ob sh_S 15 5 := ⟨by decide, rfl⟩
theorem sr_15_0 : sh_S.2.2 15 0 = some 16 := rfl
theorem sa_16 : mm_ia sh_S 16 80 := ⟨by decide, rfl⟩
theorem so_17 : mm_ob sh_S 17 3 := ⟨by decide, rfl⟩
theorem sr_17_8 : sh_S.2.2 17 8 = some 18 := rfl
theorem sr_17_9 : sh_S.2.2 17 9 = some 20 := rfl
theorem so_18 : mm_ob sh_S 18 5 := ⟨by decide, rfl⟩
theorem sr_18_0 : sh_S.2.2 18 0 = some 19 := rfl
theorem sa_19 : mm_ia sh_S 19 8 := ⟨by decide, rfl⟩
theorem so_20 : mm_ob sh_S 20 5 := ⟨by decide, rfl⟩
theorem sr_20_0 : sh_S.2.2 20 0 = some 21 := rfl
theorem sa_21 : mm_ia sh_S 21 8 := ⟨by decide, rfl⟩
theorem so_22 : mm_ob sh_S 22 10 := ⟨by decide, rfl⟩
theorem sr_22_0 : sh_S.2.2 22 0 = some 23 := rfl
theorem sr_22_1 : sh_S.2.2 22 1 = some 25 := rfl
theorem sr_22_2 : sh_S.2.2 22 2 = some 27 := rfl
theorem sr_22_3 : sh_S.2.2 22 3 = some 29 := rfl
theorem sr_22_4 : sh_S.2.2 22 4 = some 31 := rfl
theorem sr_22_5 : sh_S.2.2 22 5 = some 33 := rfl
theorem so_23 : mm_ob sh_S 23 5 := ⟨by decide, rfl⟩
theorem sr_23_0 : sh_S.2.2 23 0 = some 24 := rfl
theorem sa_24 : mm_ia sh_S 24 6 := ⟨by decide, rfl⟩
theorem so_25 : mm_ob sh_S 25 5 := ⟨by decide, rfl⟩
theorem sr_25_0 : sh_S.2.2 25 0 = some 26 := rfl
theorem sa_26 : mm_ia sh_S 26 6 := ⟨by decide, rfl⟩
theorem so_27 : mm_ob sh_S 27 5 := ⟨by decide, rfl⟩
theorem sr_27_0 : sh_S.2.2 27 0 = some 28 := rfl
theorem sa_28 : mm_ia sh_S 28 6 := ⟨by decide, rfl⟩
theorem so_29 : mm_ob sh_S 29 5 := ⟨by decide, rfl⟩
theorem sr_29_0 : sh_S.2.2 29 0 = some 30 := rfl
theorem sa_30 : mm_ia sh_S 30 6 := ⟨by decide, rfl⟩
theorem so_31 : mm_ob sh_S 31 5 := ⟨by decide, rfl⟩
theorem sr_31_0 : sh_S.2.2 31 0 = some 32 := rfl
theorem sa_32 : mm_ia sh_S 32 6 := ⟨by decide, rfl⟩
theorem so_33 : mm_ob sh_S 33 5 := ⟨by decide, rfl⟩
theorem sr_33_0 : sh_S.2.2 33 0 = some 34 := rfl
theorem sa_34 : mm_ia sh_S 34 6 := ⟨by decide, rfl⟩
theorem sq_35 : mm_ra sh_S 35 1 5 := ⟨by decide, rfl⟩
theorem sr_35_0 : sh_S.2.2 35 0 = some 36 := rfl
theorem sr_35_1 : sh_S.2.2 35 1 = some 39 := rfl
theorem sr_35_2 : sh_S.2.2 35 2 = some 42 := rfl
theorem sr_35_3 : sh_S.2.2 35 3 = some 45 := rfl
theorem sr_35_4 : sh_S.2.2 35 4 = some 48 := rfl
theorem so_36 : mm_ob sh_S 36 1 := ⟨by decide, rfl⟩
theorem sr_36_8 : sh_S.2.2 36 8 = some 37 := rfl
theorem so_37 : mm_ob sh_S 37 5 := ⟨by decide, rfl⟩
theorem sr_37_0 : sh_S.2.2 37 0 = some 38 := rfl
theorem sa_38 : mm_ia sh_S 38 4 := ⟨by decide, rfl⟩
theorem so_39 : mm_ob sh_S 39 1 := ⟨by decide, rfl⟩
theorem sr_39_8 : sh_S.2.2 39 8 = some 40 := rfl
theorem so_40 : mm_ob sh_S 40 5 := ⟨by decide, rfl⟩
theorem sr_40_0 : sh_S.2.2 40 0 = some 41 := rfl
theorem sa_41 : mm_ia sh_S 41 4 := ⟨by decide, rfl⟩
theorem so_42 : mm_ob sh_S 42 1 := ⟨by decide, rfl⟩
theorem sr_42_8 : sh_S.2.2 42 8 = some 43 := rfl
theorem so_43 : mm_ob sh_S 43 5 := ⟨by decide, rfl⟩
theorem sr_43_0 : sh_S.2.2 43 0 = some 44 := rfl
theorem sa_44 : mm_ia sh_S 44 4 := ⟨by decide, rfl⟩
theorem so_45 : mm_ob sh_S 45 1 := ⟨by decide, rfl⟩
theorem sr_45_8 : sh_S.2.2 45 8 = some 46 := rfl
theorem so_46 : mm_ob sh_S 46 5 := ⟨by decide, rfl⟩
theorem sr_46_0 : sh_S.2.2 46 0 = some 47 := rfl
theorem sa_47 : mm_ia sh_S 47 4 := ⟨by decide, rfl⟩
theorem so_48 : mm_ob sh_S 48 1 := ⟨by decide, rfl⟩
theorem sr_48_8 : sh_S.2.2 48 8 = some 49 := rfl
theorem so_49 : mm_ob sh_S 49 5 := ⟨by decide, rfl⟩
theorem sr_49_0 : sh_S.2.2 49 0 = some 50 := rfl
theorem sa_50 : mm_ia sh_S 50 4 := ⟨by decide, rfl⟩
theorem sq_51 : mm_ra sh_S 51 4 6 := ⟨by decide, rfl⟩
theorem sr_51_0 : sh_S.2.2 51 0 = some 52 := rfl
theorem sr_51_1 : sh_S.2.2 51 1 = some 57 := rfl
theorem sr_51_2 : sh_S.2.2 51 2 = some 62 := rfl
theorem sr_51_3 : sh_S.2.2 51 3 = some 67 := rfl
theorem sr_51_4 : sh_S.2.2 51 4 = some 72 := rfl
theorem sr_51_5 : sh_S.2.2 51 5 = some 77 := rfl
theorem so_52 : mm_ob sh_S 52 4 := ⟨by decide, rfl⟩
theorem sr_52_0 : sh_S.2.2 52 0 = some 53 := rfl
theorem sr_52_1 : sh_S.2.2 52 1 = some 55 := rfl
theorem so_53 : mm_ob sh_S 53 5 := ⟨by decide, rfl⟩
theorem sr_53_0 : sh_S.2.2 53 0 = some 54 := rfl
theorem sa_54 : mm_ia sh_S 54 120 := ⟨by decide, rfl⟩
theorem so_55 : mm_ob sh_S 55 5 := ⟨by decide, rfl⟩
theorem sr_55_0 : sh_S.2.2 55 0 = some 56 := rfl
theorem sa_56 : mm_ia sh_S 56 96 := ⟨by decide, rfl⟩
theorem so_57 : mm_ob sh_S 57 4 := ⟨by decide, rfl⟩
theorem sr_57_0 : sh_S.2.2 57 0 = some 58 := rfl
theorem sr_57_1 : sh_S.2.2 57 1 = some 60 := rfl
theorem so_58 : mm_ob sh_S 58 5 := ⟨by decide, rfl⟩
theorem sr_58_0 : sh_S.2.2 58 0 = some 59 := rfl
theorem sa_59 : mm_ia sh_S 59 120 := ⟨by decide, rfl⟩
theorem so_60 : mm_ob sh_S 60 5 := ⟨by decide, rfl⟩
theorem sr_60_0 : sh_S.2.2 60 0 = some 61 := rfl
theorem sa_61 : mm_ia sh_S 61 96 := ⟨by decide, rfl⟩
theorem so_62 : mm_ob sh_S 62 4 := ⟨by decide, rfl⟩
theorem sr_62_0 : sh_S.2.2 62 0 = some 63 := rfl
theorem sr_62_1 : sh_S.2.2 62 1 = some 65 := rfl
theorem so_63 : mm_ob sh_S 63 5 := ⟨by decide, rfl⟩
theorem sr_63_0 : sh_S.2.2 63 0 = some 64 := rfl
theorem sa_64 : mm_ia sh_S 64 120 := ⟨by decide, rfl⟩
theorem so_65 : mm_ob sh_S 65 5 := ⟨by decide, rfl⟩
theorem sr_65_0 : sh_S.2.2 65 0 = some 66 := rfl
theorem sa_66 : mm_ia sh_S 66 96 := ⟨by decide, rfl⟩
theorem so_67 : mm_ob sh_S 67 4 := ⟨by decide, rfl⟩
theorem sr_67_0 : sh_S.2.2 67 0 = some 68 := rfl
theorem sr_67_1 : sh_S.2.2 67 1 = some 70 := rfl
theorem so_68 : mm_ob sh_S 68 5 := ⟨by decide, rfl⟩
theorem sr_68_0 : sh_S.2.2 68 0 = some 69 := rfl
theorem sa_69 : mm_ia sh_S 69 120 := ⟨by decide, rfl⟩
theorem so_70 : mm_ob sh_S 70 5 := ⟨by decide, rfl⟩
theorem sr_70_0 : sh_S.2.2 70 0 = some 71 := rfl
theorem sa_71 : mm_ia sh_S 71 96 := ⟨by decide, rfl⟩
theorem so_72 : mm_ob sh_S 72 4 := ⟨by decide, rfl⟩
theorem sr_72_0 : sh_S.2.2 72 0 = some 73 := rfl
theorem sr_72_1 : sh_S.2.2 72 1 = some 75 := rfl
theorem so_73 : mm_ob sh_S 73 5 := ⟨by decide, rfl⟩
theorem sr_73_0 : sh_S.2.2 73 0 = some 74 := rfl
theorem sa_74 : mm_ia sh_S 74 120 := ⟨by decide, rfl⟩
theorem so_75 : mm_ob sh_S 75 5 := ⟨by decide, rfl⟩
theorem sr_75_0 : sh_S.2.2 75 0 = some 76 := rfl
theorem sa_76 : mm_ia sh_S 76 96 := ⟨by decide, rfl⟩
theorem so_77 : mm_ob sh_S 77 4 := ⟨by decide, rfl⟩
theorem sr_77_0 : sh_S.2.2 77 0 = some 78 := rfl
theorem sr_77_1 : sh_S.2.2 77 1 = some 80 := rfl
theorem so_78 : mm_ob sh_S 78 5 := ⟨by decide, rfl⟩
theorem sr_78_0 : sh_S.2.2 78 0 = some 79 := rfl
theorem sa_79 : mm_ia sh_S 79 120 := ⟨by decide, rfl⟩
theorem so_80 : mm_ob sh_S 80 5 := ⟨by decide, rfl⟩
theorem sr_80_0 : sh_S.2.2 80 0 = some 81 := rfl
theorem sa_81 : mm_ia sh_S 81 96 := ⟨by decide, rfl⟩
theorem so_82 : mm_ob sh_S 82 5 := ⟨by decide, rfl⟩
theorem sr_82_0 : sh_S.2.2 82 0 = some 83 := rfl
theorem sa_83 : mm_ia sh_S 83 36 := ⟨by decide, rfl⟩
theorem so_84 : mm_ob sh_S 84 5 := ⟨by decide, rfl⟩
theorem sr_84_0 : sh_S.2.2 84 0 = some 85 := rfl
theorem sa_85 : mm_ia sh_S 85 300 := ⟨by decide, rfl⟩
theorem so_86 : mm_ob sh_S 86 8 := ⟨by decide, rfl⟩
theorem sr_86_0 : sh_S.2.2 86 0 = some 87 := rfl
theorem sr_86_1 : sh_S.2.2 86 1 = some 102 := rfl
theorem sr_86_2 : sh_S.2.2 86 2 = some 107 := rfl
theorem sr_86_3 : sh_S.2.2 86 3 = some 120 := rfl
theorem sr_86_5 : sh_S.2.2 86 5 = some 136 := rfl
theorem sr_86_6 : sh_S.2.2 86 6 = some 167 := rfl
theorem sr_86_7 : sh_S.2.2 86 7 = some 169 := rfl
theorem so_87 : mm_ob sh_S 87 0 := ⟨by decide, rfl⟩
theorem sr_87_2 : sh_S.2.2 87 2 = some 88 := rfl
theorem sr_87_3 : sh_S.2.2 87 3 = some 90 := rfl
theorem sr_87_4 : sh_S.2.2 87 4 = some 92 := rfl
theorem sr_87_5 : sh_S.2.2 87 5 = some 94 := rfl
theorem sr_87_6 : sh_S.2.2 87 6 = some 96 := rfl
theorem sr_87_9 : sh_S.2.2 87 9 = some 98 := rfl
theorem sr_87_10 : sh_S.2.2 87 10 = some 100 := rfl
theorem so_88 : mm_ob sh_S 88 5 := ⟨by decide, rfl⟩
theorem sr_88_0 : sh_S.2.2 88 0 = some 89 := rfl
theorem sa_89 : mm_ia sh_S 89 80 := ⟨by decide, rfl⟩
theorem so_90 : mm_ob sh_S 90 5 := ⟨by decide, rfl⟩
theorem sr_90_0 : sh_S.2.2 90 0 = some 91 := rfl
theorem sa_91 : mm_ia sh_S 91 80 := ⟨by decide, rfl⟩
theorem so_92 : mm_ob sh_S 92 5 := ⟨by decide, rfl⟩
theorem sr_92_0 : sh_S.2.2 92 0 = some 93 := rfl
theorem sa_93 : mm_ia sh_S 93 80 := ⟨by decide, rfl⟩
theorem so_94 : mm_ob sh_S 94 5 := ⟨by decide, rfl⟩
theorem sr_94_0 : sh_S.2.2 94 0 = some 95 := rfl
theorem sa_95 : mm_ia sh_S 95 320 := ⟨by decide, rfl⟩
theorem so_96 : mm_ob sh_S 96 5 := ⟨by decide, rfl⟩
theorem sr_96_0 : sh_S.2.2 96 0 = some 97 := rfl
theorem sa_97 : mm_ia sh_S 97 3 := ⟨by decide, rfl⟩
theorem so_98 : mm_ob sh_S 98 5 := ⟨by decide, rfl⟩
theorem sr_98_0 : sh_S.2.2 98 0 = some 99 := rfl
theorem sa_99 : mm_ia sh_S 99 80 := ⟨by decide, rfl⟩
theorem so_100 : mm_ob sh_S 100 5 := ⟨by decide, rfl⟩
theorem sr_100_0 : sh_S.2.2 100 0 = some 101 := rfl
theorem sa_101 : mm_ia sh_S 101 80 := ⟨by decide, rfl⟩
theorem so_102 : mm_ob sh_S 102 3 := ⟨by decide, rfl⟩
theorem sr_102_8 : sh_S.2.2 102 8 = some 103 := rfl
theorem sr_102_9 : sh_S.2.2 102 9 = some 105 := rfl
theorem so_103 : mm_ob sh_S 103 5 := ⟨by decide, rfl⟩
theorem sr_103_0 : sh_S.2.2 103 0 = some 104 := rfl
theorem sa_104 : mm_ia sh_S 104 8 := ⟨by decide, rfl⟩
theorem so_105 : mm_ob sh_S 105 5 := ⟨by decide, rfl⟩
theorem sr_105_0 : sh_S.2.2 105 0 = some 106 := rfl
theorem sa_106 : mm_ia sh_S 106 8 := ⟨by decide, rfl⟩
theorem so_107 : mm_ob sh_S 107 10 := ⟨by decide, rfl⟩
theorem sr_107_0 : sh_S.2.2 107 0 = some 108 := rfl
theorem sr_107_1 : sh_S.2.2 107 1 = some 110 := rfl
theorem sr_107_2 : sh_S.2.2 107 2 = some 112 := rfl
theorem sr_107_3 : sh_S.2.2 107 3 = some 114 := rfl
theorem sr_107_4 : sh_S.2.2 107 4 = some 116 := rfl
theorem sr_107_5 : sh_S.2.2 107 5 = some 118 := rfl
theorem so_108 : mm_ob sh_S 108 5 := ⟨by decide, rfl⟩
theorem sr_108_0 : sh_S.2.2 108 0 = some 109 := rfl
theorem sa_109 : mm_ia sh_S 109 6 := ⟨by decide, rfl⟩
theorem so_110 : mm_ob sh_S 110 5 := ⟨by decide, rfl⟩
theorem sr_110_0 : sh_S.2.2 110 0 = some 111 := rfl
theorem sa_111 : mm_ia sh_S 111 6 := ⟨by decide, rfl⟩
theorem so_112 : mm_ob sh_S 112 5 := ⟨by decide, rfl⟩
theorem sr_112_0 : sh_S.2.2 112 0 = some 113 := rfl
theorem sa_113 : mm_ia sh_S 113 6 := ⟨by decide, rfl⟩
theorem so_114 : mm_ob sh_S 114 5 := ⟨by decide, rfl⟩
theorem sr_114_0 : sh_S.2.2 114 0 = some 115 := rfl
theorem sa_115 : mm_ia sh_S 115 6 := ⟨by decide, rfl⟩
theorem so_116 : mm_ob sh_S 116 5 := ⟨by decide, rfl⟩
theorem sr_116_0 : sh_S.2.2 116 0 = some 117 := rfl
theorem sa_117 : mm_ia sh_S 117 6 := ⟨by decide, rfl⟩
theorem so_118 : mm_ob sh_S 118 5 := ⟨by decide, rfl⟩
theorem sr_118_0 : sh_S.2.2 118 0 = some 119 := rfl
theorem sa_119 : mm_ia sh_S 119 6 := ⟨by decide, rfl⟩
theorem sq_120 : mm_ra sh_S 120 1 5 := ⟨by decide, rfl⟩
theorem sr_120_0 : sh_S.2.2 120 0 = some 121 := rfl
theorem sr_120_1 : sh_S.2.2 120 1 = some 124 := rfl
theorem sr_120_2 : sh_S.2.2 120 2 = some 127 := rfl
theorem sr_120_3 : sh_S.2.2 120 3 = some 130 := rfl
theorem sr_120_4 : sh_S.2.2 120 4 = some 133 := rfl
theorem so_121 : mm_ob sh_S 121 1 := ⟨by decide, rfl⟩
theorem sr_121_8 : sh_S.2.2 121 8 = some 122 := rfl
theorem so_122 : mm_ob sh_S 122 5 := ⟨by decide, rfl⟩
theorem sr_122_0 : sh_S.2.2 122 0 = some 123 := rfl
theorem sa_123 : mm_ia sh_S 123 4 := ⟨by decide, rfl⟩
theorem so_124 : mm_ob sh_S 124 1 := ⟨by decide, rfl⟩
theorem sr_124_8 : sh_S.2.2 124 8 = some 125 := rfl
theorem so_125 : mm_ob sh_S 125 5 := ⟨by decide, rfl⟩
theorem sr_125_0 : sh_S.2.2 125 0 = some 126 := rfl
theorem sa_126 : mm_ia sh_S 126 4 := ⟨by decide, rfl⟩
theorem so_127 : mm_ob sh_S 127 1 := ⟨by decide, rfl⟩
theorem sr_127_8 : sh_S.2.2 127 8 = some 128 := rfl
theorem so_128 : mm_ob sh_S 128 5 := ⟨by decide, rfl⟩
theorem sr_128_0 : sh_S.2.2 128 0 = some 129 := rfl
theorem sa_129 : mm_ia sh_S 129 4 := ⟨by decide, rfl⟩
theorem so_130 : mm_ob sh_S 130 1 := ⟨by decide, rfl⟩
theorem sr_130_8 : sh_S.2.2 130 8 = some 131 := rfl
theorem so_131 : mm_ob sh_S 131 5 := ⟨by decide, rfl⟩
theorem sr_131_0 : sh_S.2.2 131 0 = some 132 := rfl
theorem sa_132 : mm_ia sh_S 132 4 := ⟨by decide, rfl⟩
theorem so_133 : mm_ob sh_S 133 1 := ⟨by decide, rfl⟩
theorem sr_133_8 : sh_S.2.2 133 8 = some 134 := rfl
theorem so_134 : mm_ob sh_S 134 5 := ⟨by decide, rfl⟩
theorem sr_134_0 : sh_S.2.2 134 0 = some 135 := rfl
theorem sa_135 : mm_ia sh_S 135 4 := ⟨by decide, rfl⟩
theorem sq_136 : mm_ra sh_S 136 4 6 := ⟨by decide, rfl⟩
theorem sr_136_0 : sh_S.2.2 136 0 = some 137 := rfl
theorem sr_136_1 : sh_S.2.2 136 1 = some 142 := rfl
theorem sr_136_2 : sh_S.2.2 136 2 = some 147 := rfl
theorem sr_136_3 : sh_S.2.2 136 3 = some 152 := rfl
theorem sr_136_4 : sh_S.2.2 136 4 = some 157 := rfl
theorem sr_136_5 : sh_S.2.2 136 5 = some 162 := rfl
theorem so_137 : mm_ob sh_S 137 4 := ⟨by decide, rfl⟩
theorem sr_137_0 : sh_S.2.2 137 0 = some 138 := rfl
theorem sr_137_1 : sh_S.2.2 137 1 = some 140 := rfl
theorem so_138 : mm_ob sh_S 138 5 := ⟨by decide, rfl⟩
theorem sr_138_0 : sh_S.2.2 138 0 = some 139 := rfl
theorem sa_139 : mm_ia sh_S 139 120 := ⟨by decide, rfl⟩
theorem so_140 : mm_ob sh_S 140 5 := ⟨by decide, rfl⟩
theorem sr_140_0 : sh_S.2.2 140 0 = some 141 := rfl
theorem sa_141 : mm_ia sh_S 141 96 := ⟨by decide, rfl⟩
theorem so_142 : mm_ob sh_S 142 4 := ⟨by decide, rfl⟩
theorem sr_142_0 : sh_S.2.2 142 0 = some 143 := rfl
theorem sr_142_1 : sh_S.2.2 142 1 = some 145 := rfl
theorem so_143 : mm_ob sh_S 143 5 := ⟨by decide, rfl⟩
theorem sr_143_0 : sh_S.2.2 143 0 = some 144 := rfl
theorem sa_144 : mm_ia sh_S 144 120 := ⟨by decide, rfl⟩
theorem so_145 : mm_ob sh_S 145 5 := ⟨by decide, rfl⟩
theorem sr_145_0 : sh_S.2.2 145 0 = some 146 := rfl
theorem sa_146 : mm_ia sh_S 146 96 := ⟨by decide, rfl⟩
theorem so_147 : mm_ob sh_S 147 4 := ⟨by decide, rfl⟩
theorem sr_147_0 : sh_S.2.2 147 0 = some 148 := rfl
theorem sr_147_1 : sh_S.2.2 147 1 = some 150 := rfl
theorem so_148 : mm_ob sh_S 148 5 := ⟨by decide, rfl⟩
theorem sr_148_0 : sh_S.2.2 148 0 = some 149 := rfl
theorem sa_149 : mm_ia sh_S 149 120 := ⟨by decide, rfl⟩
theorem so_150 : mm_ob sh_S 150 5 := ⟨by decide, rfl⟩
theorem sr_150_0 : sh_S.2.2 150 0 = some 151 := rfl
theorem sa_151 : mm_ia sh_S 151 96 := ⟨by decide, rfl⟩
theorem so_152 : mm_ob sh_S 152 4 := ⟨by decide, rfl⟩
theorem sr_152_0 : sh_S.2.2 152 0 = some 153 := rfl
theorem sr_152_1 : sh_S.2.2 152 1 = some 155 := rfl
theorem so_153 : mm_ob sh_S 153 5 := ⟨by decide, rfl⟩
theorem sr_153_0 : sh_S.2.2 153 0 = some 154 := rfl
theorem sa_154 : mm_ia sh_S 154 120 := ⟨by decide, rfl⟩
theorem so_155 : mm_ob sh_S 155 5 := ⟨by decide, rfl⟩
theorem sr_155_0 : sh_S.2.2 155 0 = some 156 := rfl
theorem sa_156 : mm_ia sh_S 156 96 := ⟨by decide, rfl⟩
theorem so_157 : mm_ob sh_S 157 4 := ⟨by decide, rfl⟩
theorem sr_157_0 : sh_S.2.2 157 0 = some 158 := rfl
theorem sr_157_1 : sh_S.2.2 157 1 = some 160 := rfl
theorem so_158 : mm_ob sh_S 158 5 := ⟨by decide, rfl⟩
theorem sr_158_0 : sh_S.2.2 158 0 = some 159 := rfl
theorem sa_159 : mm_ia sh_S 159 120 := ⟨by decide, rfl⟩
theorem so_160 : mm_ob sh_S 160 5 := ⟨by decide, rfl⟩
theorem sr_160_0 : sh_S.2.2 160 0 = some 161 := rfl
theorem sa_161 : mm_ia sh_S 161 96 := ⟨by decide, rfl⟩
theorem so_162 : mm_ob sh_S 162 4 := ⟨by decide, rfl⟩
theorem sr_162_0 : sh_S.2.2 162 0 = some 163 := rfl
theorem sr_162_1 : sh_S.2.2 162 1 = some 165 := rfl
theorem so_163 : mm_ob sh_S 163 5 := ⟨by decide, rfl⟩
theorem sr_163_0 : sh_S.2.2 163 0 = some 164 := rfl
theorem sa_164 : mm_ia sh_S 164 120 := ⟨by decide, rfl⟩
theorem so_165 : mm_ob sh_S 165 5 := ⟨by decide, rfl⟩
theorem sr_165_0 : sh_S.2.2 165 0 = some 166 := rfl
theorem sa_166 : mm_ia sh_S 166 96 := ⟨by decide, rfl⟩
theorem so_167 : mm_ob sh_S 167 5 := ⟨by decide, rfl⟩
theorem sr_167_0 : sh_S.2.2 167 0 = some 168 := rfl
theorem sa_168 : mm_ia sh_S 168 36 := ⟨by decide, rfl⟩
theorem so_169 : mm_ob sh_S 169 5 := ⟨by decide, rfl⟩
theorem sr_169_0 : sh_S.2.2 169 0 = some 170 := rfl
theorem sa_170 : mm_ia sh_S 170 300 := ⟨by decide, rfl⟩
theorem so_171 : mm_ob sh_S 171 6 := ⟨by decide, rfl⟩
theorem sr_171_0 : sh_S.2.2 171 0 = some 1 := rfl
theorem sr_171_1 : sh_S.2.2 171 1 = some 172 := rfl
theorem so_172 : mm_ob sh_S 172 5 := ⟨by decide, rfl⟩
theorem sr_172_0 : sh_S.2.2 172 0 = some 173 := rfl
theorem sa_173 : mm_ia sh_S 173 96 := ⟨by decide, rfl⟩
theorem so_174 : mm_ob sh_S 174 5 := ⟨by decide, rfl⟩
theorem sr_174_0 : sh_S.2.2 174 0 = some 175 := rfl
theorem sa_175 : mm_ia sh_S 175 96 := ⟨by decide, rfl⟩
theorem so_176 : mm_ob sh_S 176 2 := ⟨by decide, rfl⟩
theorem sr_176_0 : sh_S.2.2 176 0 = some 177 := rfl
theorem sr_176_1 : sh_S.2.2 176 1 = some 184 := rfl
theorem sr_176_2 : sh_S.2.2 176 2 = some 189 := rfl
theorem so_177 : mm_ob sh_S 177 9 := ⟨by decide, rfl⟩
theorem sr_177_0 : sh_S.2.2 177 0 = some 174 := rfl
theorem sr_177_1 : sh_S.2.2 177 1 = some 178 := rfl
theorem sr_177_2 : sh_S.2.2 177 2 = some 180 := rfl
theorem sr_177_3 : sh_S.2.2 177 3 = some 182 := rfl
theorem so_178 : mm_ob sh_S 178 5 := ⟨by decide, rfl⟩
theorem sr_178_0 : sh_S.2.2 178 0 = some 179 := rfl
theorem sa_179 : mm_ia sh_S 179 97 := ⟨by decide, rfl⟩
theorem so_180 : mm_ob sh_S 180 5 := ⟨by decide, rfl⟩
theorem sr_180_0 : sh_S.2.2 180 0 = some 181 := rfl
theorem sa_181 : mm_ia sh_S 181 97 := ⟨by decide, rfl⟩
theorem so_182 : mm_ob sh_S 182 5 := ⟨by decide, rfl⟩
theorem sr_182_0 : sh_S.2.2 182 0 = some 183 := rfl
theorem sa_183 : mm_ia sh_S 183 97 := ⟨by decide, rfl⟩
theorem so_184 : mm_ob sh_S 184 4 := ⟨by decide, rfl⟩
theorem sr_184_0 : sh_S.2.2 184 0 = some 185 := rfl
theorem sr_184_1 : sh_S.2.2 184 1 = some 187 := rfl
theorem so_185 : mm_ob sh_S 185 5 := ⟨by decide, rfl⟩
theorem sr_185_0 : sh_S.2.2 185 0 = some 186 := rfl
theorem sa_186 : mm_ia sh_S 186 120 := ⟨by decide, rfl⟩
theorem so_187 : mm_ob sh_S 187 5 := ⟨by decide, rfl⟩
theorem sr_187_0 : sh_S.2.2 187 0 = some 188 := rfl
theorem sa_188 : mm_ia sh_S 188 96 := ⟨by decide, rfl⟩
theorem so_189 : mm_ob sh_S 189 5 := ⟨by decide, rfl⟩
theorem sr_189_0 : sh_S.2.2 189 0 = some 190 := rfl
theorem sa_190 : mm_ia sh_S 190 4 := ⟨by decide, rfl⟩
theorem so_191 : mm_ob sh_S 191 5 := ⟨by decide, rfl⟩
theorem sr_191_0 : sh_S.2.2 191 0 = some 192 := rfl
theorem sa_192 : mm_ia sh_S 192 100 := ⟨by decide, rfl⟩
theorem so_193 : mm_ob sh_S 193 5 := ⟨by decide, rfl⟩
theorem sr_193_0 : sh_S.2.2 193 0 = some 194 := rfl
theorem sa_194 : mm_ia sh_S 194 48 := ⟨by decide, rfl⟩
theorem so_195 : mm_ob sh_S 195 7 := ⟨by decide, rfl⟩
theorem sr_195_0 : sh_S.2.2 195 0 = some 196 := rfl
theorem sr_195_1 : sh_S.2.2 195 1 = some 198 := rfl
theorem so_196 : mm_ob sh_S 196 5 := ⟨by decide, rfl⟩
theorem sr_196_0 : sh_S.2.2 196 0 = some 197 := rfl
theorem sa_197 : mm_ia sh_S 197 80 := ⟨by decide, rfl⟩
theorem so_198 : mm_ob sh_S 198 5 := ⟨by decide, rfl⟩
theorem sr_198_0 : sh_S.2.2 198 0 = some 199 := rfl
theorem sa_199 : mm_ia sh_S 199 80 := ⟨by decide, rfl⟩
theorem so_200 : mm_ob sh_S 200 12 := ⟨by decide, rfl⟩
theorem sr_200_0 : sh_S.2.2 200 0 = some 201 := rfl
theorem sr_200_1 : sh_S.2.2 200 1 = some 202 := rfl
theorem sr_200_3 : sh_S.2.2 200 3 = some 203 := rfl
theorem sr_200_6 : sh_S.2.2 200 6 = some 204 := rfl
theorem sr_200_7 : sh_S.2.2 200 7 = some 205 := rfl
theorem sr_200_8 : sh_S.2.2 200 8 = some 206 := rfl
theorem sr_200_9 : sh_S.2.2 200 9 = some 207 := rfl
theorem sr_200_10 : sh_S.2.2 200 10 = some 208 := rfl
theorem sr_200_19 : sh_S.2.2 200 19 = some 209 := rfl
theorem sr_200_20 : sh_S.2.2 200 20 = some 210 := rfl
theorem sr_200_24 : sh_S.2.2 200 24 = some 211 := rfl
theorem sr_200_25 : sh_S.2.2 200 25 = some 212 := rfl
theorem sr_200_30 : sh_S.2.2 200 30 = some 213 := rfl
theorem sa_201 : mm_ia sh_S 201 3734 := ⟨by decide, rfl⟩
theorem sa_202 : mm_ia sh_S 202 3734 := ⟨by decide, rfl⟩
theorem sa_203 : mm_ia sh_S 203 96 := ⟨by decide, rfl⟩
theorem sa_204 : mm_ia sh_S 204 100 := ⟨by decide, rfl⟩
theorem sa_205 : mm_ia sh_S 205 2 := ⟨by decide, rfl⟩
theorem sa_206 : mm_ia sh_S 206 160 := ⟨by decide, rfl⟩
theorem sa_207 : mm_ia sh_S 207 80 := ⟨by decide, rfl⟩
theorem sa_208 : mm_ia sh_S 208 80 := ⟨by decide, rfl⟩
theorem sq_209 : mm_ra sh_S 209 13 11 := ⟨by decide, rfl⟩
theorem sr_209_0 : sh_S.2.2 209 0 = some 100005 := rfl
theorem sr_209_1 : sh_S.2.2 209 1 = some 100006 := rfl
theorem sr_209_2 : sh_S.2.2 209 2 = some 100007 := rfl
theorem sr_209_3 : sh_S.2.2 209 3 = some 100008 := rfl
theorem sr_209_4 : sh_S.2.2 209 4 = some 100009 := rfl
theorem sr_209_5 : sh_S.2.2 209 5 = some 100010 := rfl
theorem sr_209_6 : sh_S.2.2 209 6 = some 100011 := rfl
theorem sr_209_7 : sh_S.2.2 209 7 = some 100012 := rfl
theorem sr_209_8 : sh_S.2.2 209 8 = some 100013 := rfl
theorem sr_209_9 : sh_S.2.2 209 9 = some 100014 := rfl
theorem sr_209_10 : sh_S.2.2 209 10 = some 100015 := rfl
theorem sa_210 : mm_ia sh_S 210 160 := ⟨by decide, rfl⟩
theorem sa_211 : mm_ia sh_S 211 6 := ⟨by decide, rfl⟩
theorem sa_212 : mm_ia sh_S 212 6 := ⟨by decide, rfl⟩
theorem sa_213 : mm_ia sh_S 213 80 := ⟨by decide, rfl⟩
/-- a Row: its ints lie in the next cell -/
def rw_is (S : mm_Sh) (a n : Nat) : Prop := mm_ob S a 5 ∧ S.2.2 a 0 = some (a + 1) ∧ mm_ia S (a + 1) n ∧ n < 1000
theorem rw_3 : rw_is sh_S 3 80 := ⟨so_3, sr_3_0, sa_4, by decide⟩
theorem rw_5 : rw_is sh_S 5 80 := ⟨so_5, sr_5_0, sa_6, by decide⟩
theorem rw_7 : rw_is sh_S 7 80 := ⟨so_7, sr_7_0, sa_8, by decide⟩
theorem rw_9 : rw_is sh_S 9 320 := ⟨so_9, sr_9_0, sa_10, by decide⟩
theorem rw_11 : rw_is sh_S 11 3 := ⟨so_11, sr_11_0, sa_12, by decide⟩
theorem rw_13 : rw_is sh_S 13 80 := ⟨so_13, sr_13_0, sa_14, by decide⟩
theorem rw_15 : rw_is sh_S 15 80 := ⟨so_15, sr_15_0, sa_16, by decide⟩
theorem rw_18 : rw_is sh_S 18 8 := ⟨so_18, sr_18_0, sa_19, by decide⟩
theorem rw_20 : rw_is sh_S 20 8 := ⟨so_20, sr_20_0, sa_21, by decide⟩
theorem rw_23 : rw_is sh_S 23 6 := ⟨so_23, sr_23_0, sa_24, by decide⟩
theorem rw_25 : rw_is sh_S 25 6 := ⟨so_25, sr_25_0, sa_26, by decide⟩
theorem rw_27 : rw_is sh_S 27 6 := ⟨so_27, sr_27_0, sa_28, by decide⟩
theorem rw_29 : rw_is sh_S 29 6 := ⟨so_29, sr_29_0, sa_30, by decide⟩
theorem rw_31 : rw_is sh_S 31 6 := ⟨so_31, sr_31_0, sa_32, by decide⟩
theorem rw_33 : rw_is sh_S 33 6 := ⟨so_33, sr_33_0, sa_34, by decide⟩
theorem rw_37 : rw_is sh_S 37 4 := ⟨so_37, sr_37_0, sa_38, by decide⟩
theorem rw_40 : rw_is sh_S 40 4 := ⟨so_40, sr_40_0, sa_41, by decide⟩
theorem rw_43 : rw_is sh_S 43 4 := ⟨so_43, sr_43_0, sa_44, by decide⟩
theorem rw_46 : rw_is sh_S 46 4 := ⟨so_46, sr_46_0, sa_47, by decide⟩
theorem rw_49 : rw_is sh_S 49 4 := ⟨so_49, sr_49_0, sa_50, by decide⟩
theorem rw_53 : rw_is sh_S 53 120 := ⟨so_53, sr_53_0, sa_54, by decide⟩
theorem rw_55 : rw_is sh_S 55 96 := ⟨so_55, sr_55_0, sa_56, by decide⟩
theorem rw_58 : rw_is sh_S 58 120 := ⟨so_58, sr_58_0, sa_59, by decide⟩
theorem rw_60 : rw_is sh_S 60 96 := ⟨so_60, sr_60_0, sa_61, by decide⟩
theorem rw_63 : rw_is sh_S 63 120 := ⟨so_63, sr_63_0, sa_64, by decide⟩
theorem rw_65 : rw_is sh_S 65 96 := ⟨so_65, sr_65_0, sa_66, by decide⟩
theorem rw_68 : rw_is sh_S 68 120 := ⟨so_68, sr_68_0, sa_69, by decide⟩
theorem rw_70 : rw_is sh_S 70 96 := ⟨so_70, sr_70_0, sa_71, by decide⟩
theorem rw_73 : rw_is sh_S 73 120 := ⟨so_73, sr_73_0, sa_74, by decide⟩
theorem rw_75 : rw_is sh_S 75 96 := ⟨so_75, sr_75_0, sa_76, by decide⟩
theorem rw_78 : rw_is sh_S 78 120 := ⟨so_78, sr_78_0, sa_79, by decide⟩
theorem rw_80 : rw_is sh_S 80 96 := ⟨so_80, sr_80_0, sa_81, by decide⟩
theorem rw_82 : rw_is sh_S 82 36 := ⟨so_82, sr_82_0, sa_83, by decide⟩
theorem rw_84 : rw_is sh_S 84 300 := ⟨so_84, sr_84_0, sa_85, by decide⟩
theorem rw_88 : rw_is sh_S 88 80 := ⟨so_88, sr_88_0, sa_89, by decide⟩
theorem rw_90 : rw_is sh_S 90 80 := ⟨so_90, sr_90_0, sa_91, by decide⟩
theorem rw_92 : rw_is sh_S 92 80 := ⟨so_92, sr_92_0, sa_93, by decide⟩
theorem rw_94 : rw_is sh_S 94 320 := ⟨so_94, sr_94_0, sa_95, by decide⟩
theorem rw_96 : rw_is sh_S 96 3 := ⟨so_96, sr_96_0, sa_97, by decide⟩
theorem rw_98 : rw_is sh_S 98 80 := ⟨so_98, sr_98_0, sa_99, by decide⟩
theorem rw_100 : rw_is sh_S 100 80 := ⟨so_100, sr_100_0, sa_101, by decide⟩
theorem rw_103 : rw_is sh_S 103 8 := ⟨so_103, sr_103_0, sa_104, by decide⟩
theorem rw_105 : rw_is sh_S 105 8 := ⟨so_105, sr_105_0, sa_106, by decide⟩
theorem rw_108 : rw_is sh_S 108 6 := ⟨so_108, sr_108_0, sa_109, by decide⟩
theorem rw_110 : rw_is sh_S 110 6 := ⟨so_110, sr_110_0, sa_111, by decide⟩
theorem rw_112 : rw_is sh_S 112 6 := ⟨so_112, sr_112_0, sa_113, by decide⟩
theorem rw_114 : rw_is sh_S 114 6 := ⟨so_114, sr_114_0, sa_115, by decide⟩
theorem rw_116 : rw_is sh_S 116 6 := ⟨so_116, sr_116_0, sa_117, by decide⟩
theorem rw_118 : rw_is sh_S 118 6 := ⟨so_118, sr_118_0, sa_119, by decide⟩
theorem rw_122 : rw_is sh_S 122 4 := ⟨so_122, sr_122_0, sa_123, by decide⟩
theorem rw_125 : rw_is sh_S 125 4 := ⟨so_125, sr_125_0, sa_126, by decide⟩
theorem rw_128 : rw_is sh_S 128 4 := ⟨so_128, sr_128_0, sa_129, by decide⟩
theorem rw_131 : rw_is sh_S 131 4 := ⟨so_131, sr_131_0, sa_132, by decide⟩
theorem rw_134 : rw_is sh_S 134 4 := ⟨so_134, sr_134_0, sa_135, by decide⟩
theorem rw_138 : rw_is sh_S 138 120 := ⟨so_138, sr_138_0, sa_139, by decide⟩
theorem rw_140 : rw_is sh_S 140 96 := ⟨so_140, sr_140_0, sa_141, by decide⟩
theorem rw_143 : rw_is sh_S 143 120 := ⟨so_143, sr_143_0, sa_144, by decide⟩
theorem rw_145 : rw_is sh_S 145 96 := ⟨so_145, sr_145_0, sa_146, by decide⟩
theorem rw_148 : rw_is sh_S 148 120 := ⟨so_148, sr_148_0, sa_149, by decide⟩
theorem rw_150 : rw_is sh_S 150 96 := ⟨so_150, sr_150_0, sa_151, by decide⟩
theorem rw_153 : rw_is sh_S 153 120 := ⟨so_153, sr_153_0, sa_154, by decide⟩
theorem rw_155 : rw_is sh_S 155 96 := ⟨so_155, sr_155_0, sa_156, by decide⟩
theorem rw_158 : rw_is sh_S 158 120 := ⟨so_158, sr_158_0, sa_159, by decide⟩
theorem rw_160 : rw_is sh_S 160 96 := ⟨so_160, sr_160_0, sa_161, by decide⟩
theorem rw_163 : rw_is sh_S 163 120 := ⟨so_163, sr_163_0, sa_164, by decide⟩
theorem rw_165 : rw_is sh_S 165 96 := ⟨so_165, sr_165_0, sa_166, by decide⟩
theorem rw_167 : rw_is sh_S 167 36 := ⟨so_167, sr_167_0, sa_168, by decide⟩
theorem rw_169 : rw_is sh_S 169 300 := ⟨so_169, sr_169_0, sa_170, by decide⟩
theorem rw_172 : rw_is sh_S 172 96 := ⟨so_172, sr_172_0, sa_173, by decide⟩
theorem rw_174 : rw_is sh_S 174 96 := ⟨so_174, sr_174_0, sa_175, by decide⟩
theorem rw_178 : rw_is sh_S 178 97 := ⟨so_178, sr_178_0, sa_179, by decide⟩
theorem rw_180 : rw_is sh_S 180 97 := ⟨so_180, sr_180_0, sa_181, by decide⟩
theorem rw_182 : rw_is sh_S 182 97 := ⟨so_182, sr_182_0, sa_183, by decide⟩
theorem rw_185 : rw_is sh_S 185 120 := ⟨so_185, sr_185_0, sa_186, by decide⟩
theorem rw_187 : rw_is sh_S 187 96 := ⟨so_187, sr_187_0, sa_188, by decide⟩
theorem rw_189 : rw_is sh_S 189 4 := ⟨so_189, sr_189_0, sa_190, by decide⟩
theorem rw_191 : rw_is sh_S 191 100 := ⟨so_191, sr_191_0, sa_192, by decide⟩
theorem rw_193 : rw_is sh_S 193 48 := ⟨so_193, sr_193_0, sa_194, by decide⟩
theorem rw_196 : rw_is sh_S 196 80 := ⟨so_196, sr_196_0, sa_197, by decide⟩
theorem rw_198 : rw_is sh_S 198 80 := ⟨so_198, sr_198_0, sa_199, by decide⟩
theorem sm_1 {i : Nat} (h : i < 5) : mm_ob sh_S (36 + 3 * i) 1 ∧ sh_S.2.2 (36 + 3 * i) 8 = some (37 + 3 * i) ∧ rw_is sh_S (37 + 3 * i) 4 ∧ sh_S.2.2 35 i = some (36 + 3 * i) := by
  rcases (show i = 0 ∨ i = 1 ∨ i = 2 ∨ i = 3 ∨ i = 4 by omega) with rfl | rfl | rfl | rfl | rfl
  · exact ⟨so_36, sr_36_8, rw_37, sr_35_0⟩
  · exact ⟨so_39, sr_39_8, rw_40, sr_35_1⟩
  · exact ⟨so_42, sr_42_8, rw_43, sr_35_2⟩
  · exact ⟨so_45, sr_45_8, rw_46, sr_35_3⟩
  · exact ⟨so_48, sr_48_8, rw_49, sr_35_4⟩
theorem sp_1 {i : Nat} (h : i < 6) : mm_ob sh_S (52 + 5 * i) 4 ∧ sh_S.2.2 (52 + 5 * i) 0 = some (53 + 5 * i) ∧ rw_is sh_S (53 + 5 * i) 120 ∧ sh_S.2.2 (52 + 5 * i) 1 = some (55 + 5 * i) ∧ rw_is sh_S (55 + 5 * i) 96 ∧ sh_S.2.2 51 i = some (52 + 5 * i) := by
  rcases (show i = 0 ∨ i = 1 ∨ i = 2 ∨ i = 3 ∨ i = 4 ∨ i = 5 by omega) with rfl | rfl | rfl | rfl | rfl | rfl
  · exact ⟨so_52, sr_52_0, rw_53, sr_52_1, rw_55, sr_51_0⟩
  · exact ⟨so_57, sr_57_0, rw_58, sr_57_1, rw_60, sr_51_1⟩
  · exact ⟨so_62, sr_62_0, rw_63, sr_62_1, rw_65, sr_51_2⟩
  · exact ⟨so_67, sr_67_0, rw_68, sr_67_1, rw_70, sr_51_3⟩
  · exact ⟨so_72, sr_72_0, rw_73, sr_72_1, rw_75, sr_51_4⟩
  · exact ⟨so_77, sr_77_0, rw_78, sr_77_1, rw_80, sr_51_5⟩
theorem sm_86 {i : Nat} (h : i < 5) : mm_ob sh_S (121 + 3 * i) 1 ∧ sh_S.2.2 (121 + 3 * i) 8 = some (122 + 3 * i) ∧ rw_is sh_S (122 + 3 * i) 4 ∧ sh_S.2.2 120 i = some (121 + 3 * i) := by
  rcases (show i = 0 ∨ i = 1 ∨ i = 2 ∨ i = 3 ∨ i = 4 by omega) with rfl | rfl | rfl | rfl | rfl
  · exact ⟨so_121, sr_121_8, rw_122, sr_120_0⟩
  · exact ⟨so_124, sr_124_8, rw_125, sr_120_1⟩
  · exact ⟨so_127, sr_127_8, rw_128, sr_120_2⟩
  · exact ⟨so_130, sr_130_8, rw_131, sr_120_3⟩
  · exact ⟨so_133, sr_133_8, rw_134, sr_120_4⟩
theorem sp_86 {i : Nat} (h : i < 6) : mm_ob sh_S (137 + 5 * i) 4 ∧ sh_S.2.2 (137 + 5 * i) 0 = some (138 + 5 * i) ∧ rw_is sh_S (138 + 5 * i) 120 ∧ sh_S.2.2 (137 + 5 * i) 1 = some (140 + 5 * i) ∧ rw_is sh_S (140 + 5 * i) 96 ∧ sh_S.2.2 136 i = some (137 + 5 * i) := by
  rcases (show i = 0 ∨ i = 1 ∨ i = 2 ∨ i = 3 ∨ i = 4 ∨ i = 5 by omega) with rfl | rfl | rfl | rfl | rfl | rfl
  · exact ⟨so_137, sr_137_0, rw_138, sr_137_1, rw_140, sr_136_0⟩
  · exact ⟨so_142, sr_142_0, rw_143, sr_142_1, rw_145, sr_136_1⟩
  · exact ⟨so_147, sr_147_0, rw_148, sr_147_1, rw_150, sr_136_2⟩
  · exact ⟨so_152, sr_152_0, rw_153, sr_152_1, rw_155, sr_136_3⟩
  · exact ⟨so_157, sr_157_0, rw_158, sr_157_1, rw_160, sr_136_4⟩
  · exact ⟨so_162, sr_162_0, rw_163, sr_162_1, rw_165, sr_136_5⟩
