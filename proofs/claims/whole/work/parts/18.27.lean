/-! the methods with loops, and what calls them (wip/whole/gen/gen18.py) -/
theorem i312_0 : zi 312 0 1 2 0 0 := by decide +kernel
theorem i312_1 : zi 312 1 2 0 0 0 := by decide +kernel
theorem i312_2 : zi 312 2 3 7 12 0 := by decide +kernel
theorem i312_3 : zi 312 3 4 0 0 0 := by decide +kernel
theorem i312_4 : zi 312 4 5 3 1 0 := by decide +kernel
theorem i312_5 : zi 312 5 6 0 0 0 := by decide +kernel
theorem i312_6 : zi 312 6 7 3 2 0 := by decide +kernel
theorem i312_7 : zi 312 7 8 1 2 0 := by decide +kernel
theorem i312_8 : zi 312 8 9 2 0 0 := by decide +kernel
theorem i312_9 : zi 312 9 10 6 12 79 := by decide +kernel
theorem i312_10 : zi 312 10 11 19 43 3 := by decide +kernel
theorem i312_11 : zi 312 11 12 2 0 0 := by decide +kernel
theorem i312_12 : zi 312 12 13 6 12 84 := by decide +kernel
theorem i312_13 : zi 312 13 14 1 2 0 := by decide +kernel
theorem i312_14 : zi 312 14 15 2 0 0 := by decide +kernel
theorem i312_15 : zi 312 15 16 6 12 83 := by decide +kernel
theorem i312_16 : zi 312 16 17 1 2 0 := by decide +kernel
theorem i312_17 : zi 312 17 18 9 0 0 := by decide +kernel
theorem i312_18 : zi 312 18 19 18 28 0 := by decide +kernel
theorem i312_28 : zi 312 28 29 0 0 0 := by decide +kernel
theorem i312_19 : zi 312 19 20 2 0 0 := by decide +kernel
theorem i312_20 : zi 312 20 21 6 12 1 := by decide +kernel
theorem i312_21 : zi 312 21 22 2 0 0 := by decide +kernel
theorem i312_22 : zi 312 22 23 6 12 82 := by decide +kernel
theorem i312_23 : zi 312 23 24 1 2 0 := by decide +kernel
theorem i312_24 : zi 312 24 25 8 0 0 := by decide +kernel
theorem i312_25 : zi 312 25 26 19 28 3 := by decide +kernel
theorem i312_26 : zi 312 26 27 0 0 1 := by decide +kernel
theorem i312_27 : zi 312 27 28 17 29 0 := by decide +kernel
theorem i312_29 : zi 312 29 30 11 0 0 := by decide +kernel
theorem i312_30 : zi 312 30 31 1 1 0 := by decide +kernel
theorem i312_31 : zi 312 31 32 2 0 0 := by decide +kernel
theorem i312_32 : zi 312 32 33 6 12 84 := by decide +kernel
theorem i312_33 : zi 312 33 34 1 2 0 := by decide +kernel
theorem i312_34 : zi 312 34 35 9 0 0 := by decide +kernel
theorem i312_35 : zi 312 35 36 18 38 0 := by decide +kernel
theorem i312_36 : zi 312 36 37 0 0 1 := by decide +kernel
theorem i312_37 : zi 312 37 38 17 39 0 := by decide +kernel
theorem i312_38 : zi 312 38 39 0 0 0 := by decide +kernel
theorem i312_39 : zi 312 39 40 13 0 0 := by decide +kernel
theorem i312_40 : zi 312 40 41 3 1 0 := by decide +kernel
theorem i312_41 : zi 312 41 42 5 2 1 := by decide +kernel
theorem i312_42 : zi 312 42 43 17 7 0 := by decide +kernel
theorem i312_43 : zi 312 43 44 1 1 0 := by decide +kernel
theorem i312_44 : zi 312 44 45 25 0 0 := by decide +kernel
theorem ml_312 : z_ml 312 = 3 := by decide +kernel
theorem en_312 : ∀ (v0 : zV), z_ent 312 [v0] = [some v0, none, none] := fun v0 => by unfold z_ent; rw [ml_312]; rfl
theorem i318_0 : zi 318 0 1 2 0 0 := by decide +kernel
theorem i318_1 : zi 318 1 2 1 1 0 := by decide +kernel
theorem i318_2 : zi 318 2 3 0 0 1 := by decide +kernel
theorem i318_3 : zi 318 3 4 0 0 100 := by decide +kernel
theorem i318_4 : zi 318 4 5 22 213 0 := by decide +kernel
theorem i318_5 : zi 318 5 6 18 8 0 := by decide +kernel
theorem i318_6 : zi 318 6 7 0 0 0 := by decide +kernel
theorem i318_7 : zi 318 7 8 17 9 0 := by decide +kernel
theorem i318_8 : zi 318 8 9 0 0 1 := by decide +kernel
theorem i318_9 : zi 318 9 10 21 212 12 := by decide +kernel
theorem i318_10 : zi 318 10 11 18 13 1 := by decide +kernel
theorem i318_13 : zi 318 13 14 1 1 0 := by decide +kernel
theorem i318_14 : zi 318 14 15 2 0 0 := by decide +kernel
theorem i318_15 : zi 318 15 16 6 12 36 := by decide +kernel
theorem i318_16 : zi 318 16 17 19 19 3 := by decide +kernel
theorem i318_19 : zi 318 19 20 2 0 0 := by decide +kernel
theorem i318_20 : zi 318 20 21 6 12 36 := by decide +kernel
theorem i318_17 : zi 318 17 18 1 1 0 := by decide +kernel
theorem i318_18 : zi 318 18 19 17 21 0 := by decide +kernel
theorem i318_21 : zi 318 21 22 3 2 0 := by decide +kernel
theorem i318_22 : zi 318 22 23 0 0 0 := by decide +kernel
theorem i318_23 : zi 318 23 24 3 3 0 := by decide +kernel
theorem i318_11 : zi 318 11 12 0 0 0 := by decide +kernel
theorem i318_12 : zi 318 12 13 25 0 0 := by decide +kernel
theorem i318_24 : zi 318 24 25 1 3 0 := by decide +kernel
theorem i318_25 : zi 318 25 26 1 2 0 := by decide +kernel
theorem i318_26 : zi 318 26 27 19 88 3 := by decide +kernel
theorem i318_27 : zi 318 27 28 2 0 0 := by decide +kernel
theorem i318_28 : zi 318 28 29 6 12 31 := by decide +kernel
theorem i318_29 : zi 318 29 30 1 3 0 := by decide +kernel
theorem i318_30 : zi 318 30 31 8 0 0 := by decide +kernel
theorem i318_31 : zi 318 31 32 2 0 0 := by decide +kernel
theorem i318_32 : zi 318 32 33 6 12 32 := by decide +kernel
theorem i318_33 : zi 318 33 34 1 3 0 := by decide +kernel
theorem i318_34 : zi 318 34 35 8 0 0 := by decide +kernel
theorem i318_35 : zi 318 35 36 22 287 0 := by decide +kernel
theorem i318_36 : zi 318 36 37 3 4 0 := by decide +kernel
theorem i318_37 : zi 318 37 38 2 0 0 := by decide +kernel
theorem i318_38 : zi 318 38 39 6 12 33 := by decide +kernel
theorem i318_39 : zi 318 39 40 1 3 0 := by decide +kernel
theorem i318_40 : zi 318 40 41 8 0 0 := by decide +kernel
theorem i318_41 : zi 318 41 42 0 0 (-1) := by decide +kernel
theorem i318_42 : zi 318 42 43 19 70 1 := by decide +kernel
theorem i318_43 : zi 318 43 44 2 0 0 := by decide +kernel
theorem i318_44 : zi 318 44 45 6 12 27 := by decide +kernel
theorem i318_45 : zi 318 45 46 2 0 0 := by decide +kernel
theorem i318_46 : zi 318 46 47 6 12 31 := by decide +kernel
theorem i318_47 : zi 318 47 48 1 3 0 := by decide +kernel
theorem i318_48 : zi 318 48 49 8 0 0 := by decide +kernel
theorem i318_49 : zi 318 49 50 2 0 0 := by decide +kernel
theorem i318_50 : zi 318 50 51 6 12 32 := by decide +kernel
theorem i318_51 : zi 318 51 52 1 3 0 := by decide +kernel
theorem i318_52 : zi 318 52 53 8 0 0 := by decide +kernel
theorem i318_53 : zi 318 53 54 10 0 0 := by decide +kernel
theorem i318_54 : zi 318 54 55 2 0 0 := by decide +kernel
theorem i318_55 : zi 318 55 56 6 12 28 := by decide +kernel
theorem fl_13_28 : zfl 13 12 28 28 (some 93) := by decide +kernel
theorem i318_56 : zi 318 56 57 1 4 0 := by decide +kernel
theorem i318_57 : zi 318 57 58 2 0 0 := by decide +kernel
theorem i318_58 : zi 318 58 59 6 12 34 := by decide +kernel
theorem i318_59 : zi 318 59 60 1 3 0 := by decide +kernel
theorem i318_60 : zi 318 60 61 8 0 0 := by decide +kernel
theorem i318_61 : zi 318 61 62 10 0 0 := by decide +kernel
theorem ar_93 : zar 93 0 864 := by decide +kernel
theorem i318_62 : zi 318 62 63 2 0 0 := by decide +kernel
theorem i318_63 : zi 318 63 64 6 12 29 := by decide +kernel
theorem fl_13_29 : zfl 13 12 29 29 (some 94) := by decide +kernel
theorem i318_64 : zi 318 64 65 1 4 0 := by decide +kernel
theorem i318_65 : zi 318 65 66 2 0 0 := by decide +kernel
theorem i318_66 : zi 318 66 67 6 12 35 := by decide +kernel
theorem i318_67 : zi 318 67 68 1 3 0 := by decide +kernel
theorem i318_68 : zi 318 68 69 8 0 0 := by decide +kernel
theorem i318_69 : zi 318 69 70 10 0 0 := by decide +kernel
theorem ar_94 : zar 94 0 864 := by decide +kernel
theorem i318_70 : zi 318 70 71 2 0 0 := by decide +kernel
theorem i318_71 : zi 318 71 72 6 12 30 := by decide +kernel
theorem fl_13_30 : zfl 13 12 30 30 (some 95) := by decide +kernel
theorem i318_72 : zi 318 72 73 1 4 0 := by decide +kernel
theorem i318_73 : zi 318 73 74 2 0 0 := by decide +kernel
theorem i318_74 : zi 318 74 75 6 12 33 := by decide +kernel
theorem i318_75 : zi 318 75 76 1 3 0 := by decide +kernel
theorem i318_76 : zi 318 76 77 8 0 0 := by decide +kernel
theorem i318_77 : zi 318 77 78 0 0 (-1) := by decide +kernel
theorem i318_78 : zi 318 78 79 19 81 1 := by decide +kernel
theorem i318_79 : zi 318 79 80 0 0 0 := by decide +kernel
theorem i318_80 : zi 318 80 81 17 85 0 := by decide +kernel
theorem i318_81 : zi 318 81 82 2 0 0 := by decide +kernel
theorem i318_82 : zi 318 82 83 6 12 33 := by decide +kernel
theorem i318_83 : zi 318 83 84 1 3 0 := by decide +kernel
theorem i318_84 : zi 318 84 85 8 0 0 := by decide +kernel
theorem i318_85 : zi 318 85 86 10 0 0 := by decide +kernel
theorem ar_95 : zar 95 0 864 := by decide +kernel
theorem i318_86 : zi 318 86 87 5 3 1 := by decide +kernel
theorem i318_87 : zi 318 87 88 17 24 0 := by decide +kernel
theorem i318_88 : zi 318 88 89 1 2 0 := by decide +kernel
theorem i318_89 : zi 318 89 90 3 3 0 := by decide +kernel
theorem i318_90 : zi 318 90 91 1 3 0 := by decide +kernel
theorem i318_91 : zi 318 91 92 2 0 0 := by decide +kernel
theorem i318_92 : zi 318 92 93 6 12 36 := by decide +kernel
theorem i318_93 : zi 318 93 94 19 121 3 := by decide +kernel
theorem i318_94 : zi 318 94 95 2 0 0 := by decide +kernel
theorem i318_95 : zi 318 95 96 1 3 0 := by decide +kernel
theorem i318_96 : zi 318 96 97 1 2 0 := by decide +kernel
theorem i318_97 : zi 318 97 98 13 1 0 := by decide +kernel
theorem i318_98 : zi 318 98 99 2 0 0 := by decide +kernel
theorem i318_99 : zi 318 99 100 6 12 31 := by decide +kernel
theorem i318_100 : zi 318 100 101 1 3 0 := by decide +kernel
theorem i318_101 : zi 318 101 102 8 0 0 := by decide +kernel
theorem i318_102 : zi 318 102 103 2 0 0 := by decide +kernel
theorem i318_103 : zi 318 103 104 6 12 32 := by decide +kernel
theorem i318_104 : zi 318 104 105 1 3 0 := by decide +kernel
theorem i318_105 : zi 318 105 106 8 0 0 := by decide +kernel
theorem i318_106 : zi 318 106 107 2 0 0 := by decide +kernel
theorem i318_107 : zi 318 107 108 6 12 33 := by decide +kernel
theorem i318_108 : zi 318 108 109 1 3 0 := by decide +kernel
theorem i318_109 : zi 318 109 110 8 0 0 := by decide +kernel
theorem i318_110 : zi 318 110 111 2 0 0 := by decide +kernel
theorem i318_111 : zi 318 111 112 6 12 34 := by decide +kernel
theorem i318_112 : zi 318 112 113 1 3 0 := by decide +kernel
theorem i318_113 : zi 318 113 114 8 0 0 := by decide +kernel
theorem i318_114 : zi 318 114 115 2 0 0 := by decide +kernel
theorem i318_115 : zi 318 115 116 6 12 35 := by decide +kernel
theorem i318_116 : zi 318 116 117 1 3 0 := by decide +kernel
theorem i318_117 : zi 318 117 118 8 0 0 := by decide +kernel
theorem i318_118 : zi 318 118 119 21 239 12 := by decide +kernel
theorem i318_119 : zi 318 119 120 5 3 1 := by decide +kernel
theorem i318_120 : zi 318 120 121 17 90 0 := by decide +kernel
theorem i318_121 : zi 318 121 122 2 0 0 := by decide +kernel
theorem i318_122 : zi 318 122 123 14 0 0 := by decide +kernel
theorem i318_123 : zi 318 123 124 6 12 36 := by decide +kernel
theorem i318_124 : zi 318 124 125 1 2 0 := by decide +kernel
theorem i318_125 : zi 318 125 126 13 1 0 := by decide +kernel
theorem i318_126 : zi 318 126 127 7 12 36 := by decide +kernel
theorem i318_127 : zi 318 127 128 2 0 0 := by decide +kernel
theorem i318_128 : zi 318 128 129 6 12 36 := by decide +kernel
theorem i318_129 : zi 318 129 130 25 0 0 := by decide +kernel
theorem ml_318 : z_ml 318 = 5 := by decide +kernel
theorem en_318 : ∀ (v0 v1 : zV), z_ent 318 [v0, v1] = [some v0, some v1, none, none, none] := fun v0 v1 => by unfold z_ent; rw [ml_318]; rfl
theorem i319_0 : zi 319 0 1 2 0 0 := by decide +kernel
theorem i319_1 : zi 319 1 2 1 2 0 := by decide +kernel
theorem i319_2 : zi 319 2 3 22 284 0 := by decide +kernel
theorem i319_3 : zi 319 3 4 18 9 0 := by decide +kernel
theorem i319_4 : zi 319 4 5 1 3 0 := by decide +kernel
theorem i319_5 : zi 319 5 6 22 286 0 := by decide +kernel
theorem i319_6 : zi 319 6 7 18 9 0 := by decide +kernel
theorem i319_7 : zi 319 7 8 0 0 0 := by decide +kernel
theorem i319_8 : zi 319 8 9 17 10 0 := by decide +kernel
theorem i319_9 : zi 319 9 10 0 0 1 := by decide +kernel
theorem i319_10 : zi 319 10 11 21 212 12 := by decide +kernel
theorem i319_11 : zi 319 11 12 18 14 1 := by decide +kernel
theorem i319_14 : zi 319 14 15 2 0 0 := by decide +kernel
theorem i319_15 : zi 319 15 16 1 1 0 := by decide +kernel
theorem i319_16 : zi 319 16 17 21 258 12 := by decide +kernel
theorem i319_17 : zi 319 17 18 18 23 0 := by decide +kernel
theorem i319_18 : zi 319 18 19 2 0 0 := by decide +kernel
theorem i319_19 : zi 319 19 20 1 1 0 := by decide +kernel
theorem i319_20 : zi 319 20 21 1 2 0 := by decide +kernel
theorem i319_21 : zi 319 21 22 21 257 12 := by decide +kernel
theorem i319_22 : zi 319 22 23 17 24 0 := by decide +kernel
theorem i319_23 : zi 319 23 24 0 0 0 := by decide +kernel
theorem i319_24 : zi 319 24 25 3 4 0 := by decide +kernel
theorem i319_25 : zi 319 25 26 2 0 0 := by decide +kernel
theorem i319_26 : zi 319 26 27 1 1 0 := by decide +kernel
theorem i319_27 : zi 319 27 28 21 259 12 := by decide +kernel
theorem i319_28 : zi 319 28 29 18 33 0 := by decide +kernel
theorem i319_29 : zi 319 29 30 1 4 0 := by decide +kernel
theorem i319_30 : zi 319 30 31 0 0 1 := by decide +kernel
theorem i319_31 : zi 319 31 32 13 5 0 := by decide +kernel
theorem i319_32 : zi 319 32 33 18 41 1 := by decide +kernel
theorem i319_33 : zi 319 33 34 2 0 0 := by decide +kernel
theorem i319_34 : zi 319 34 35 1 1 0 := by decide +kernel
theorem i319_35 : zi 319 35 36 21 259 12 := by decide +kernel
theorem i319_36 : zi 319 36 37 18 39 0 := by decide +kernel
theorem i319_37 : zi 319 37 38 0 0 (-6) := by decide +kernel
theorem i319_38 : zi 319 38 39 17 40 0 := by decide +kernel
theorem i319_39 : zi 319 39 40 0 0 (-4) := by decide +kernel
theorem i319_40 : zi 319 40 41 25 0 0 := by decide +kernel
theorem i319_41 : zi 319 41 42 1 4 0 := by decide +kernel
theorem i319_42 : zi 319 42 43 0 0 16 := by decide +kernel
theorem i319_43 : zi 319 43 44 13 3 0 := by decide +kernel
theorem i319_44 : zi 319 44 45 18 47 5 := by decide +kernel
theorem i319_47 : zi 319 47 48 1 3 0 := by decide +kernel
theorem i319_48 : zi 319 48 49 18 54 1 := by decide +kernel
theorem i319_49 : zi 319 49 50 2 0 0 := by decide +kernel
theorem i319_50 : zi 319 50 51 6 12 27 := by decide +kernel
theorem i319_51 : zi 319 51 52 1 2 0 := by decide +kernel
theorem i319_52 : zi 319 52 53 8 0 0 := by decide +kernel
theorem i319_53 : zi 319 53 54 17 55 0 := by decide +kernel
theorem i319_54 : zi 319 54 55 1 3 0 := by decide +kernel
theorem i319_55 : zi 319 55 56 3 5 0 := by decide +kernel
theorem i319_56 : zi 319 56 57 1 5 0 := by decide +kernel
theorem i319_57 : zi 319 57 58 0 0 1 := by decide +kernel
theorem i319_58 : zi 319 58 59 19 75 2 := by decide +kernel
theorem i319_75 : zi 319 75 76 0 0 0 := by decide +kernel
theorem i319_59 : zi 319 59 60 1 5 0 := by decide +kernel
theorem i319_60 : zi 319 60 61 2 0 0 := by decide +kernel
theorem i319_61 : zi 319 61 62 6 12 27 := by decide +kernel
theorem i319_62 : zi 319 62 63 1 2 0 := by decide +kernel
theorem i319_63 : zi 319 63 64 8 0 0 := by decide +kernel
theorem i319_64 : zi 319 64 65 19 75 4 := by decide +kernel
theorem i319_65 : zi 319 65 66 1 5 0 := by decide +kernel
theorem i319_66 : zi 319 66 67 2 0 0 := by decide +kernel
theorem i319_67 : zi 319 67 68 6 12 27 := by decide +kernel
theorem i319_68 : zi 319 68 69 1 2 0 := by decide +kernel
theorem i319_69 : zi 319 69 70 8 0 0 := by decide +kernel
theorem i319_70 : zi 319 70 71 0 0 4 := by decide +kernel
theorem i319_71 : zi 319 71 72 13 1 0 := by decide +kernel
theorem i319_72 : zi 319 72 73 19 75 5 := by decide +kernel
theorem i319_73 : zi 319 73 74 0 0 1 := by decide +kernel
theorem i319_74 : zi 319 74 75 17 76 0 := by decide +kernel
theorem i319_76 : zi 319 76 77 3 6 0 := by decide +kernel
theorem i319_77 : zi 319 77 78 1 6 0 := by decide +kernel
theorem i319_78 : zi 319 78 79 18 86 0 := by decide +kernel
theorem i319_79 : zi 319 79 80 2 0 0 := by decide +kernel
theorem i319_80 : zi 319 80 81 6 12 30 := by decide +kernel
theorem i319_81 : zi 319 81 82 1 2 0 := by decide +kernel
theorem i319_82 : zi 319 82 83 1 5 0 := by decide +kernel
theorem i319_83 : zi 319 83 84 22 287 0 := by decide +kernel
theorem i319_84 : zi 319 84 85 8 0 0 := by decide +kernel
theorem i319_85 : zi 319 85 86 18 88 0 := by decide +kernel
theorem i319_88 : zi 319 88 89 2 0 0 := by decide +kernel
theorem i319_89 : zi 319 89 90 6 12 29 := by decide +kernel
theorem i319_90 : zi 319 90 91 1 2 0 := by decide +kernel
theorem i319_91 : zi 319 91 92 1 5 0 := by decide +kernel
theorem i319_92 : zi 319 92 93 22 287 0 := by decide +kernel
theorem i319_93 : zi 319 93 94 8 0 0 := by decide +kernel
theorem i319_94 : zi 319 94 95 2 0 0 := by decide +kernel
theorem i319_95 : zi 319 95 96 6 12 18 := by decide +kernel
theorem i319_96 : zi 319 96 97 19 99 3 := by decide +kernel
theorem i319_99 : zi 319 99 100 2 0 0 := by decide +kernel
theorem i319_100 : zi 319 100 101 6 12 28 := by decide +kernel
theorem i319_101 : zi 319 101 102 1 2 0 := by decide +kernel
theorem i319_102 : zi 319 102 103 1 5 0 := by decide +kernel
theorem i319_103 : zi 319 103 104 22 287 0 := by decide +kernel
theorem i319_104 : zi 319 104 105 8 0 0 := by decide +kernel
theorem i319_97 : zi 319 97 98 0 0 (-9) := by decide +kernel
theorem i319_98 : zi 319 98 99 17 105 0 := by decide +kernel
theorem i319_105 : zi 319 105 106 25 0 0 := by decide +kernel
theorem i319_86 : zi 319 86 87 0 0 (-7) := by decide +kernel
theorem i319_87 : zi 319 87 88 25 0 0 := by decide +kernel
theorem i319_45 : zi 319 45 46 0 0 (-10) := by decide +kernel
theorem i319_46 : zi 319 46 47 25 0 0 := by decide +kernel
theorem i319_12 : zi 319 12 13 0 0 0 := by decide +kernel
theorem i319_13 : zi 319 13 14 25 0 0 := by decide +kernel
theorem ml_319 : z_ml 319 = 7 := by decide +kernel
theorem en_319 : ∀ (v0 v1 v2 v3 : zV), z_ent 319 [v0, v1, v2, v3] = [some v0, some v1, some v2, some v3, none, none, none] := fun v0 v1 v2 v3 => by unfold z_ent; rw [ml_319]; rfl
set_option maxRecDepth 100000 in
theorem s312_7 {L : Nat} (x1 x2 : Int32) (S : zS) (g0 : (¬ ((S 13 79) ≤ x2)) → zx 30 x2) : zt L 312 7 [some (.inr (.inr 13)), some (.inl x1), some (.inl x2)] [] S (if ((S 13 79) ≤ x2) then (.inl (43, [some (.inr (.inr 13)), some (.inl x1), some (.inl x2)], [], S)) else (.inl (7, [some (.inr (.inr 13)), some (.inl (x1 + (zb ((¬ ((S 142 x2.toNatClampNeg) = 0)) ∧ (¬ ((S 141 x2.toNatClampNeg) ≤ (S 13 1))))))), some (.inl (x2 + 1))], [], (z_up S 143 x2.toNatClampNeg (zb ((¬ ((S 142 x2.toNatClampNeg) = 0)) ∧ (¬ ((S 141 x2.toNatClampNeg) ≤ (S 13 1))))))))) := zr_1_2 i312_7 (zr_2_0 i312_8 (zr_6 i312_9 fl_13_79 rfl (zr_19_3 i312_10 (fun h3617 => zt_rfl) (fun h3618 => zr_2_0 i312_11 (zr_6r i312_12 fl_13_84 (zr_1_2 i312_13 (zr_2_0 i312_14 (zr_6r i312_15 fl_13_83 (zr_1_2 i312_16 (zr_9 i312_17 ar_142 (g0 h3618) rfl rfl (zt_trans (zt_cast (zr_18_0 i312_18 (fun h3619 => zr_0 i312_28 kc_0 (zt_rfl)) (fun h3620 => zr_2_0 i312_19 (zr_6 i312_20 fl_13_1 rfl (zr_2_0 i312_21 (zr_6r i312_22 fl_13_82 (zr_1_2 i312_23 (zr_8 i312_24 ar_141 (g0 h3618) rfl rfl (zt_cast (zr_19_3 i312_25 (fun h3621 => zr_0 i312_28 kc_0 (zt_rfl)) (fun h3622 => zr_0 i312_26 kc_1 (zr_17 i312_27 (zt_rfl)))) (zm_c zz_s (zl_c (zl_t zz_01) zz_s) zz_s))))))))) (zm_c zz_s (zl_c (zl_t zz_0b) zz_s) zz_s)) (zr_11 i312_29 ar_143 (g0 h3618) (zb_01 _) rfl (zr_1_1 i312_30 (zr_2_0 i312_31 (zr_6r i312_32 fl_13_84 (zr_1_2 i312_33 (zr_9 i312_34 ar_143 (g0 h3618) rfl (zup_s _ _ _ _) (zt_trans (zt_cast (zr_18b_0 i312_35 (fun h3623 => zr_0 i312_36 kc_1 (zr_17 i312_37 (zt_rfl))) (fun h3624 => zr_0 i312_38 kc_0 (zt_rfl))) (zm_c zz_s (zl_c (zl_t zz_10) zz_s) zz_s)) (zr_13_0 i312_39 (zr_3_1 i312_40 (zr_5_2 i312_41 kc_1 (zr_17 i312_42 (zt_rfl)))))))))))))))))))))))
def k312_7 (j : Nat) (a : Int32 × zS) : Int32 × zS := ((a.1 + (zb ((¬ ((a.2 142 j) = 0)) ∧ (¬ ((a.2 141 j) ≤ (a.2 13 1)))))), (z_up a.2 143 j (zb ((¬ ((a.2 142 j) = 0)) ∧ (¬ ((a.2 141 j) ≤ (a.2 13 1)))))))
set_option maxRecDepth 100000 in
theorem l312_7 {L : Nat} (i0 n : Nat) (a : Int32 × zS) (hn : i0 + n < 2147483648) (hc0 : ∀ j, j < n → ¬ (((zfold (k312_7 ) i0 j a).2 13 79) ≤ (Int32.ofNat (i0 + j)))) (g0 : ∀ j, j < n → (¬ (((zfold (k312_7 ) i0 j a).2 13 79) ≤ (Int32.ofNat (i0 + j)))) → zx 30 (Int32.ofNat (i0 + j))) : zt L 312 7 [some (.inr (.inr 13)), some (.inl a.1), some (.inl (Int32.ofNat i0))] [] a.2 (.inl (7, [some (.inr (.inr 13)), some (.inl (zfold (k312_7 ) i0 n a).1), some (.inl (Int32.ofNat (i0 + n)))], [], (zfold (k312_7 ) i0 n a).2)) := by
  induction n with
  | zero => exact zt_rfl
  | succ n ih =>
    have e1 := zk_ix (i0 + n) (by omega)
    have e2 := zk_add (i0 + n)
    refine zt_trans (ih (by omega) (fun j hj => hc0 j (by omega)) (fun j hj => g0 j (by omega))) ?_
    refine zt_cast (s312_7 (zfold (k312_7 ) i0 n a).1 (Int32.ofNat (i0 + n)) (zfold (k312_7 ) i0 n a).2 (by have hg := g0 n (by omega); first | exact hg | (simp only [e1]; exact hg))) ?_
    rw [if_neg (show ¬ (((zfold (k312_7 ) i0 n a).2 13 79) ≤ (Int32.ofNat (i0 + n))) from (by have hg := hc0 n (by omega); first | exact hg | (simp only [e1]; exact hg)))]
    simp only [zfold, k312_7, e1, e2, ← Nat.add_assoc]
def K312_7 (x1 : Int32) (i0 : Nat) (S : zS) : Int32 × zS := zfold (k312_7 ) i0 ((S 13 79).toNatClampNeg - i0) (x1, S)
def K312_7_c1 (x1 : Int32) (i0 : Nat) (S : zS) : Int32 := (K312_7 x1 i0 S).1
def K312_7_S (x1 : Int32) (i0 : Nat) (S : zS) : zS := (K312_7 x1 i0 S).2
set_option maxRecDepth 100000 in
theorem L312_7 {L : Nat} (x1 : Int32) (i0 : Nat) (S : zS) (hi : i0 ≤ 10000) (h0 : zn 30 (S 13 79)) : zt L 312 7 [some (.inr (.inr 13)), some (.inl x1), some (.inl (Int32.ofNat i0))] [] S (.inl (43, [some (.inr (.inr 13)), some (.inl (K312_7_c1 x1 i0 S)), some (.inl (Int32.ofNat (i0 + ((S 13 79).toNatClampNeg - i0))))], [], (K312_7_S x1 i0 S))) := by
  have hk13_79 : ∀ n, (zfold (k312_7 ) i0 n (x1, S)).2 13 79 = S 13 79 := fun n => zfold_keep (f := (k312_7 )) (fun (b : Int32 × zS) => b.2 13 79) (fun j b => by unfold k312_7; exact (show (z_up b.2 143 j (zb ((¬ ((b.2 142 j) = 0)) ∧ (¬ ((b.2 141 j) ≤ (b.2 13 1)))))) 13 79 = b.2 13 79 from (zupci rfl))) n (x1, S)
  have hend : (zfold (k312_7 ) i0 ((S 13 79).toNatClampNeg - i0) (x1, S)).2 13 79 ≤ Int32.ofNat (i0 + ((S 13 79).toNatClampNeg - i0)) := by rw [hk13_79]; exact zc_le_end h0 (by omega)
  refine zt_trans (l312_7    i0 ((S 13 79).toNatClampNeg - i0) (x1, S) (by have := zn_cl h0; omega) (fun j hj => by rw [hk13_79]; exact zc_le h0 hj (by omega)) (fun j hj _ => by exact zx_of (by have := zn_cl h0; omega) (by have := zn_cl h0; omega))) ?_
  exact zt_cast (s312_7 (zfold (k312_7 ) i0 ((S 13 79).toNatClampNeg - i0) (x1, S)).1 (Int32.ofNat (i0 + ((S 13 79).toNatClampNeg - i0))) (zfold (k312_7 ) i0 ((S 13 79).toNatClampNeg - i0) (x1, S)).2 (fun h9 => absurd hend h9)) (if_pos hend)
set_option maxRecDepth 100000 in
theorem f312 {L : Nat} (S : zS) (g0 : zn 30 (S 13 79)) : zf L 312 [.inr (.inr 13)] S (.inl (some (.inl (K312_7_c1 0 0 (z_up S 13 0 0)))), (K312_7_S 0 0 (z_up S 13 0 0)), 0) := zf_of (en_312 _) (zr_2_0 i312_0 (zr_0 i312_1 kc_0 (zr_7 i312_2 fl_13_0 (zr_0 i312_3 kc_0 (zr_3_1 i312_4 (zr_0 i312_5 kc_0 (zr_3_2 i312_6 (zt_trans (L312_7 0 0 (z_up S 13 0 0) (by decide) (znv (zupf rfl) (g0))) (zr_1_1 i312_43 (zr_25 i312_44))))))))))
set_option maxRecDepth 100000 in
theorem s318_90 {L : Nat} (x1 x2 x3 : Int32) (u4 : Option zV) (S : zS) (g0 : (¬ ((S 13 36) ≤ x3)) → zx 2048 x3) (g1 : (¬ ((S 13 36) ≤ x3)) → zx 2048 (x3 - x2)) : zt L 318 90 [some (.inr (.inr 13)), some (.inl x1), some (.inl x2), some (.inl x3), u4] [] S (if ((S 13 36) ≤ x3) then (.inl (121, [some (.inr (.inr 13)), some (.inl x1), some (.inl x2), some (.inl x3), u4], [], S)) else (.inl (90, [some (.inr (.inr 13)), some (.inl x1), some (.inl x2), some (.inl (x3 + 1)), u4], [], (z_up (z_up (z_up (z_up (z_up S 96 (x3 - x2).toNatClampNeg (S 96 x3.toNatClampNeg)) 97 (x3 - x2).toNatClampNeg (S 97 x3.toNatClampNeg)) 98 (x3 - x2).toNatClampNeg (S 98 x3.toNatClampNeg)) 99 (x3 - x2).toNatClampNeg (S 99 x3.toNatClampNeg)) 100 (x3 - x2).toNatClampNeg (S 100 x3.toNatClampNeg))))) := zr_1_3 i318_90 (zr_2_0 i318_91 (zr_6 i318_92 fl_13_36 rfl (zr_19_3 i318_93 (fun h3661 => zt_rfl) (fun h3662 => zr_2_0 i318_94 (zr_1_3 i318_95 (zr_1_2 i318_96 (zr_13_1 i318_97 (zr_2_0 i318_98 (zr_6r i318_99 fl_13_31 (zr_1_3 i318_100 (zr_8 i318_101 ar_96 (g0 h3662) rfl rfl (zr_2_0 i318_102 (zr_6r i318_103 fl_13_32 (zr_1_3 i318_104 (zr_8 i318_105 ar_97 (g0 h3662) rfl rfl (zr_2_0 i318_106 (zr_6r i318_107 fl_13_33 (zr_1_3 i318_108 (zr_8 i318_109 ar_98 (g0 h3662) rfl rfl (zr_2_0 i318_110 (zr_6r i318_111 fl_13_34 (zr_1_3 i318_112 (zr_8 i318_113 ar_99 (g0 h3662) rfl rfl (zr_2_0 i318_114 (zr_6r i318_115 fl_13_35 (zr_1_3 i318_116 (zr_8 i318_117 ar_100 (g0 h3662) rfl rfl (zr_cn (zs_21_6 i318_118 na_239 ob_13 rfl) (f239 (x3 - x2) (S 96 x3.toNatClampNeg) (S 97 x3.toNatClampNeg) (S 98 x3.toNatClampNeg) (S 99 x3.toNatClampNeg) (S 100 x3.toNatClampNeg) S (g1 h3662)) (zr_5_3 i318_119 kc_1 (zr_17 i318_120 (zt_rfl)))))))))))))))))))))))))))))))
def k318_90 (x1 x2 : Int32) (j : Nat) (a : zS) : zS := (z_up (z_up (z_up (z_up (z_up a 96 ((Int32.ofNat j) - x2).toNatClampNeg (a 96 j)) 97 ((Int32.ofNat j) - x2).toNatClampNeg (a 97 j)) 98 ((Int32.ofNat j) - x2).toNatClampNeg (a 98 j)) 99 ((Int32.ofNat j) - x2).toNatClampNeg (a 99 j)) 100 ((Int32.ofNat j) - x2).toNatClampNeg (a 100 j))
set_option maxRecDepth 100000 in
theorem l318_90 {L : Nat} (x1 x2 : Int32) (u4 : Option zV) (i0 n : Nat) (a : zS) (hn : i0 + n < 2147483648) (hc0 : ∀ j, j < n → ¬ (((zfold (k318_90 x1 x2 ) i0 j a) 13 36) ≤ (Int32.ofNat (i0 + j)))) (g0 : ∀ j, j < n → (¬ (((zfold (k318_90 x1 x2 ) i0 j a) 13 36) ≤ (Int32.ofNat (i0 + j)))) → zx 2048 (Int32.ofNat (i0 + j))) (g1 : ∀ j, j < n → (¬ (((zfold (k318_90 x1 x2 ) i0 j a) 13 36) ≤ (Int32.ofNat (i0 + j)))) → zx 2048 ((Int32.ofNat (i0 + j)) - x2)) : zt L 318 90 [some (.inr (.inr 13)), some (.inl x1), some (.inl x2), some (.inl (Int32.ofNat i0)), u4] [] a (.inl (90, [some (.inr (.inr 13)), some (.inl x1), some (.inl x2), some (.inl (Int32.ofNat (i0 + n))), u4], [], (zfold (k318_90 x1 x2 ) i0 n a))) := by
  induction n with
  | zero => exact zt_rfl
  | succ n ih =>
    have e1 := zk_ix (i0 + n) (by omega)
    have e2 := zk_add (i0 + n)
    refine zt_trans (ih (by omega) (fun j hj => hc0 j (by omega)) (fun j hj => g0 j (by omega)) (fun j hj => g1 j (by omega))) ?_
    refine zt_cast (s318_90 x1 x2 (Int32.ofNat (i0 + n)) u4 (zfold (k318_90 x1 x2 ) i0 n a) (by have hg := g0 n (by omega); first | exact hg | (simp only [e1]; exact hg)) (by have hg := g1 n (by omega); first | exact hg | (simp only [e1]; exact hg))) ?_
    rw [if_neg (show ¬ (((zfold (k318_90 x1 x2 ) i0 n a) 13 36) ≤ (Int32.ofNat (i0 + n))) from (by have hg := hc0 n (by omega); first | exact hg | (simp only [e1]; exact hg)))]
    simp only [zfold, k318_90, e1, e2, ← Nat.add_assoc]
def K318_90 (x1 x2 : Int32) (u4 : Option zV) (i0 : Nat) (S : zS) : zS := zfold (k318_90 x1 x2 ) i0 ((S 13 36).toNatClampNeg - i0) S
def K318_90_S (x1 x2 : Int32) (u4 : Option zV) (i0 : Nat) (S : zS) : zS := (K318_90 x1 x2 u4 i0 S)
set_option maxRecDepth 100000 in
theorem L318_90 {L : Nat} (x1 x2 : Int32) (u4 : Option zV) (i0 : Nat) (S : zS) (hi : i0 ≤ 10000) (h0 : zn 2048 (S 13 36)) (hq : x2 = Int32.ofNat i0) : zt L 318 90 [some (.inr (.inr 13)), some (.inl x1), some (.inl x2), some (.inl (Int32.ofNat i0)), u4] [] S (.inl (121, [some (.inr (.inr 13)), some (.inl x1), some (.inl x2), some (.inl (Int32.ofNat (i0 + ((S 13 36).toNatClampNeg - i0)))), u4], [], (K318_90_S x1 x2 u4 i0 S))) := by
  have hk13_36 : ∀ n, (zfold (k318_90 x1 x2 ) i0 n S) 13 36 = S 13 36 := fun n => zfold_keep (f := (k318_90 x1 x2 )) (fun (b : zS) => b 13 36) (fun j b => by unfold k318_90; exact (show (z_up (z_up (z_up (z_up (z_up b 96 ((Int32.ofNat j) - x2).toNatClampNeg (b 96 j)) 97 ((Int32.ofNat j) - x2).toNatClampNeg (b 97 j)) 98 ((Int32.ofNat j) - x2).toNatClampNeg (b 98 j)) 99 ((Int32.ofNat j) - x2).toNatClampNeg (b 99 j)) 100 ((Int32.ofNat j) - x2).toNatClampNeg (b 100 j)) 13 36 = b 13 36 from ((zupci rfl).trans ((zupci rfl).trans ((zupci rfl).trans ((zupci rfl).trans (zupci rfl))))))) n S
  have hend : (zfold (k318_90 x1 x2 ) i0 ((S 13 36).toNatClampNeg - i0) S) 13 36 ≤ Int32.ofNat (i0 + ((S 13 36).toNatClampNeg - i0)) := by rw [hk13_36]; exact zc_le_end h0 (by omega)
  refine zt_trans (l318_90 x1 x2 u4  i0 ((S 13 36).toNatClampNeg - i0) S (by have := zn_cl h0; omega) (fun j hj => by rw [hk13_36]; exact zc_le h0 hj (by omega)) (fun j hj _ => by exact zx_of (by have := zn_cl h0; omega) (by have := zn_cl h0; omega)) (fun j hj _ => by rw [hq, zk_subn]; have := zn_cl h0; exact zx_of (by omega) (by omega))) ?_
  exact zt_cast (s318_90 x1 x2 (Int32.ofNat (i0 + ((S 13 36).toNatClampNeg - i0))) u4 (zfold (k318_90 x1 x2 ) i0 ((S 13 36).toNatClampNeg - i0) S) (fun h9 => absurd hend h9) (fun h9 => absurd hend h9)) (if_pos hend)
set_option maxRecDepth 100000 in
theorem s318_24 {L : Nat} (x1 x2 x3 : Int32) (u4 : Option zV) (S : zS) (g0 : (¬ (x2 ≤ x3)) → zx 2048 x3) (g1 : (¬ (x2 ≤ x3)) → ((S 98 x3.toNatClampNeg) = (-1)) → zx 216 (S 96 x3.toNatClampNeg)) (g2 : (¬ (x2 ≤ x3)) → ((S 98 x3.toNatClampNeg) = (-1)) → zx 864 ((4 * (S 96 x3.toNatClampNeg)) + (zrem (S 97 x3.toNatClampNeg) 4))) (g3 : (¬ (x2 ≤ x3)) → zx 864 ((4 * (S 96 x3.toNatClampNeg)) + (zrem (S 97 x3.toNatClampNeg) 4))) : zt L 318 24 [some (.inr (.inr 13)), some (.inl x1), some (.inl x2), some (.inl x3), u4] [] S (if (x2 ≤ x3) then (.inl (88, [some (.inr (.inr 13)), some (.inl x1), some (.inl x2), some (.inl x3), u4], [], S)) else (.inl (24, [some (.inr (.inr 13)), some (.inl x1), some (.inl x2), some (.inl (x3 + 1)), some (.inl ((4 * (S 96 x3.toNatClampNeg)) + (zrem (S 97 x3.toNatClampNeg) 4)))], [], (z_up (if ((S 98 x3.toNatClampNeg) = (-1)) then (z_up (z_up (z_up S 92 (S 96 x3.toNatClampNeg).toNatClampNeg (S 97 x3.toNatClampNeg)) 93 ((4 * (S 96 x3.toNatClampNeg)) + (zrem (S 97 x3.toNatClampNeg) 4)).toNatClampNeg (S 99 x3.toNatClampNeg)) 94 ((4 * (S 96 x3.toNatClampNeg)) + (zrem (S 97 x3.toNatClampNeg) 4)).toNatClampNeg (S 100 x3.toNatClampNeg)) else S) 95 ((4 * (S 96 x3.toNatClampNeg)) + (zrem (S 97 x3.toNatClampNeg) 4)).toNatClampNeg (if ((S 98 x3.toNatClampNeg) = (-1)) then (0 : Int32) else (S 98 x3.toNatClampNeg)))))) := zr_1_3 i318_24 (zr_1_2 i318_25 (zr_19_3 i318_26 (fun h3663 => zt_rfl) (fun h3664 => zr_2_0 i318_27 (zr_6r i318_28 fl_13_31 (zr_1_3 i318_29 (zr_8 i318_30 ar_96 (g0 h3664) rfl rfl (zr_2_0 i318_31 (zr_6r i318_32 fl_13_32 (zr_1_3 i318_33 (zr_8 i318_34 ar_97 (g0 h3664) rfl rfl (zr_cv (zs_22_2 i318_35 na_287 rfl) (f287 (S 96 x3.toNatClampNeg) (S 97 x3.toNatClampNeg) S ) (zr_3_4 i318_36 (zr_2_0 i318_37 (zr_6r i318_38 fl_13_33 (zr_1_3 i318_39 (zr_8 i318_40 ar_98 (g0 h3664) rfl rfl (zr_0 i318_41 kc_m1 (zt_trans (zt_cast (zr_19_1 i318_42 (fun h3665 => zr_2_0 i318_43 (zr_6r i318_44 fl_13_27 (zr_2_0 i318_45 (zr_6r i318_46 fl_13_31 (zr_1_3 i318_47 (zr_8 i318_48 ar_96 (g0 h3664) rfl rfl (zr_2_0 i318_49 (zr_6r i318_50 fl_13_32 (zr_1_3 i318_51 (zr_8 i318_52 ar_97 (g0 h3664) rfl rfl (zr_10 i318_53 ar_92 (g1 h3664 h3665) rfl (zr_2_0 i318_54 (zr_6r i318_55 fl_13_28 (zr_1_4 i318_56 (zr_2_0 i318_57 (zr_6r i318_58 fl_13_34 (zr_1_3 i318_59 (zr_8 i318_60 ar_99 (g0 h3664) rfl (zupci rfl) (zr_10 i318_61 ar_93 (g2 h3664 h3665) rfl (zr_2_0 i318_62 (zr_6r i318_63 fl_13_29 (zr_1_4 i318_64 (zr_2_0 i318_65 (zr_6r i318_66 fl_13_35 (zr_1_3 i318_67 (zr_8 i318_68 ar_100 (g0 h3664) rfl ((zupci rfl).trans (zupci rfl)) (zr_10 i318_69 ar_94 (g2 h3664 h3665) rfl (zt_rfl)))))))))))))))))))))))))))) (fun h3666 => zt_rfl)) (zm_c zz_s zz_s zz_e)) (zr_2_0 i318_70 (zr_6r i318_71 fl_13_30 (zr_1_4 i318_72 (zr_2_0 i318_73 (zr_6r i318_74 fl_13_33 (zr_1_3 i318_75 (zr_8 i318_76 ar_98 (g0 h3664) rfl (zite_rd ((zupci rfl).trans ((zupci rfl).trans (zupci rfl))) rfl) (zr_0 i318_77 kc_m1 (zt_trans (zt_cast (zr_19_1 i318_78 (fun h3667 => zr_0 i318_79 kc_0 (zr_17 i318_80 (zt_rfl))) (fun h3668 => zr_2_0 i318_81 (zr_6r i318_82 fl_13_33 (zr_1_3 i318_83 (zr_8 i318_84 ar_98 (g0 h3664) rfl (zite_rd ((zupci rfl).trans ((zupci rfl).trans (zupci rfl))) rfl) (zt_rfl)))))) (zm_c zz_s (zl_c (zl_t zz_e) zz_s) zz_s)) (zr_10 i318_85 ar_95 (g3 h3664) rfl (zr_5_3 i318_86 kc_1 (zr_17 i318_87 (zt_rfl)))))))))))))))))))))))))))))))
def k318_24 (x1 x2 : Int32) (j : Nat) (a : Option zV × zS) : Option zV × zS := ((some (.inl ((4 * (a.2 96 j)) + (zrem (a.2 97 j) 4)))), (z_up (if ((a.2 98 j) = (-1)) then (z_up (z_up (z_up a.2 92 (a.2 96 j).toNatClampNeg (a.2 97 j)) 93 ((4 * (a.2 96 j)) + (zrem (a.2 97 j) 4)).toNatClampNeg (a.2 99 j)) 94 ((4 * (a.2 96 j)) + (zrem (a.2 97 j) 4)).toNatClampNeg (a.2 100 j)) else a.2) 95 ((4 * (a.2 96 j)) + (zrem (a.2 97 j) 4)).toNatClampNeg (if ((a.2 98 j) = (-1)) then (0 : Int32) else (a.2 98 j))))
set_option maxRecDepth 100000 in
theorem l318_24 {L : Nat} (x1 x2 : Int32) (i0 n : Nat) (a : Option zV × zS) (hn : i0 + n < 2147483648) (hc0 : ∀ j, j < n → ¬ (x2 ≤ (Int32.ofNat (i0 + j)))) (g0 : ∀ j, j < n → (¬ (x2 ≤ (Int32.ofNat (i0 + j)))) → zx 2048 (Int32.ofNat (i0 + j))) (g1 : ∀ j, j < n → (¬ (x2 ≤ (Int32.ofNat (i0 + j)))) → (((zfold (k318_24 x1 x2 ) i0 j a).2 98 (i0 + j)) = (-1)) → zx 216 ((zfold (k318_24 x1 x2 ) i0 j a).2 96 (i0 + j))) (g2 : ∀ j, j < n → (¬ (x2 ≤ (Int32.ofNat (i0 + j)))) → (((zfold (k318_24 x1 x2 ) i0 j a).2 98 (i0 + j)) = (-1)) → zx 864 ((4 * ((zfold (k318_24 x1 x2 ) i0 j a).2 96 (i0 + j))) + (zrem ((zfold (k318_24 x1 x2 ) i0 j a).2 97 (i0 + j)) 4))) (g3 : ∀ j, j < n → (¬ (x2 ≤ (Int32.ofNat (i0 + j)))) → zx 864 ((4 * ((zfold (k318_24 x1 x2 ) i0 j a).2 96 (i0 + j))) + (zrem ((zfold (k318_24 x1 x2 ) i0 j a).2 97 (i0 + j)) 4))) : zt L 318 24 [some (.inr (.inr 13)), some (.inl x1), some (.inl x2), some (.inl (Int32.ofNat i0)), a.1] [] a.2 (.inl (24, [some (.inr (.inr 13)), some (.inl x1), some (.inl x2), some (.inl (Int32.ofNat (i0 + n))), (zfold (k318_24 x1 x2 ) i0 n a).1], [], (zfold (k318_24 x1 x2 ) i0 n a).2)) := by
  induction n with
  | zero => exact zt_rfl
  | succ n ih =>
    have e1 := zk_ix (i0 + n) (by omega)
    have e2 := zk_add (i0 + n)
    refine zt_trans (ih (by omega) (fun j hj => hc0 j (by omega)) (fun j hj => g0 j (by omega)) (fun j hj => g1 j (by omega)) (fun j hj => g2 j (by omega)) (fun j hj => g3 j (by omega))) ?_
    refine zt_cast (s318_24 x1 x2 (Int32.ofNat (i0 + n)) (zfold (k318_24 x1 x2 ) i0 n a).1 (zfold (k318_24 x1 x2 ) i0 n a).2 (by have hg := g0 n (by omega); first | exact hg | (simp only [e1]; exact hg)) (by have hg := g1 n (by omega); first | exact hg | (simp only [e1]; exact hg)) (by have hg := g2 n (by omega); first | exact hg | (simp only [e1]; exact hg)) (by have hg := g3 n (by omega); first | exact hg | (simp only [e1]; exact hg))) ?_
    rw [if_neg (show ¬ (x2 ≤ (Int32.ofNat (i0 + n))) from (by have hg := hc0 n (by omega); first | exact hg | (simp only [e1]; exact hg)))]
    simp only [zfold, k318_24, e1, e2, ← Nat.add_assoc]
def K318_24 (x1 x2 : Int32) (u4 : Option zV) (i0 : Nat) (S : zS) : Option zV × zS := zfold (k318_24 x1 x2 ) i0 (x2.toNatClampNeg - i0) (u4, S)
def K318_24_c4 (x1 x2 : Int32) (u4 : Option zV) (i0 : Nat) (S : zS) : Option zV := (K318_24 x1 x2 u4 i0 S).1
def K318_24_S (x1 x2 : Int32) (u4 : Option zV) (i0 : Nat) (S : zS) : zS := (K318_24 x1 x2 u4 i0 S).2
set_option maxRecDepth 100000 in
theorem L318_24 {L : Nat} (x1 x2 : Int32) (u4 : Option zV) (i0 : Nat) (S : zS) (hi : i0 ≤ 10000) (h0 : zn 600 x2) (hA1 : zA 600 216 (S 96)) (hsl : zSl 600 (S 96) (S 97)) : zt L 318 24 [some (.inr (.inr 13)), some (.inl x1), some (.inl x2), some (.inl (Int32.ofNat i0)), u4] [] S (.inl (88, [some (.inr (.inr 13)), some (.inl x1), some (.inl x2), some (.inl (Int32.ofNat (i0 + (x2.toNatClampNeg - i0)))), (K318_24_c4 x1 x2 u4 i0 S)], [], (K318_24_S x1 x2 u4 i0 S))) := by
  have hk96 : ∀ n, (zfold (k318_24 x1 x2 ) i0 n (u4, S)).2 96 = S 96 := fun n => zfold_keep (f := (k318_24 x1 x2 )) (fun (b : Option zV × zS) => b.2 96) (fun j b => by unfold k318_24; exact (show (z_up (if ((b.2 98 j) = (-1)) then (z_up (z_up (z_up b.2 92 (b.2 96 j).toNatClampNeg (b.2 97 j)) 93 ((4 * (b.2 96 j)) + (zrem (b.2 97 j) 4)).toNatClampNeg (b.2 99 j)) 94 ((4 * (b.2 96 j)) + (zrem (b.2 97 j) 4)).toNatClampNeg (b.2 100 j)) else b.2) 95 ((4 * (b.2 96 j)) + (zrem (b.2 97 j) 4)).toNatClampNeg (if ((b.2 98 j) = (-1)) then (0 : Int32) else (b.2 98 j))) 96 = b.2 96 from ((zupc rfl).trans (zite_k ((zupc rfl).trans ((zupc rfl).trans (zupc rfl))) rfl)))) n (u4, S)
  have hk97 : ∀ n, (zfold (k318_24 x1 x2 ) i0 n (u4, S)).2 97 = S 97 := fun n => zfold_keep (f := (k318_24 x1 x2 )) (fun (b : Option zV × zS) => b.2 97) (fun j b => by unfold k318_24; exact (show (z_up (if ((b.2 98 j) = (-1)) then (z_up (z_up (z_up b.2 92 (b.2 96 j).toNatClampNeg (b.2 97 j)) 93 ((4 * (b.2 96 j)) + (zrem (b.2 97 j) 4)).toNatClampNeg (b.2 99 j)) 94 ((4 * (b.2 96 j)) + (zrem (b.2 97 j) 4)).toNatClampNeg (b.2 100 j)) else b.2) 95 ((4 * (b.2 96 j)) + (zrem (b.2 97 j) 4)).toNatClampNeg (if ((b.2 98 j) = (-1)) then (0 : Int32) else (b.2 98 j))) 97 = b.2 97 from ((zupc rfl).trans (zite_k ((zupc rfl).trans ((zupc rfl).trans (zupc rfl))) rfl)))) n (u4, S)
  have hend : x2 ≤ Int32.ofNat (i0 + (x2.toNatClampNeg - i0)) := by exact zc_le_end h0 (by omega)
  refine zt_trans (l318_24 x1 x2   i0 (x2.toNatClampNeg - i0) (u4, S) (by have := zn_cl h0; omega) (fun j hj => by exact zc_le h0 hj (by omega)) (fun j hj _ => by exact zx_of (by have := zn_cl h0; omega) (by have := zn_cl h0; omega)) (fun j hj _ _ => by rw [hk96 j]; have := zn_cl h0; exact hA1 _ (by omega)) (fun j hj _ _ => by rw [hk96 j, hk97 j]; have := zn_cl h0; exact hsl _ (by omega)) (fun j hj _ => by rw [hk96 j, hk97 j]; have := zn_cl h0; exact hsl _ (by omega))) ?_
  exact zt_cast (s318_24 x1 x2 (Int32.ofNat (i0 + (x2.toNatClampNeg - i0))) (zfold (k318_24 x1 x2 ) i0 (x2.toNatClampNeg - i0) (u4, S)).1 (zfold (k318_24 x1 x2 ) i0 (x2.toNatClampNeg - i0) (u4, S)).2 (fun h9 => absurd hend h9) (fun h9 => absurd hend h9) (fun h9 => absurd hend h9) (fun h9 => absurd hend h9)) (if_pos hend)
set_option maxRecDepth 100000 in
theorem w_K318_24_S_13_36 (x1 x2 : Int32) (u4 : Option zV) (i0 : Nat) (S : zS) : K318_24_S x1 x2 u4 i0 S 13 36 = S 13 36 := zfold_keep (f := (k318_24 x1 x2 )) (fun (b : Option zV × zS) => b.2 13 36) ((fun j b => by unfold k318_24; exact (show (z_up (if ((b.2 98 j) = (-1)) then (z_up (z_up (z_up b.2 92 (b.2 96 j).toNatClampNeg (b.2 97 j)) 93 ((4 * (b.2 96 j)) + (zrem (b.2 97 j) 4)).toNatClampNeg (b.2 99 j)) 94 ((4 * (b.2 96 j)) + (zrem (b.2 97 j) 4)).toNatClampNeg (b.2 100 j)) else b.2) 95 ((4 * (b.2 96 j)) + (zrem (b.2 97 j) 4)).toNatClampNeg (if ((b.2 98 j) = (-1)) then (0 : Int32) else (b.2 98 j))) 13 36 = b.2 13 36 from ((zupci rfl).trans (zite_rd ((zupci rfl).trans ((zupci rfl).trans (zupci rfl))) rfl))))) _ _
def F318 (a : Int32) (S : zS) : Int32 := (if ((zb (¬ ((¬ (a < 1)) ∧ (¬ (100 < a))))) = 0) then ((((K318_90_S a (if ((S 13 36) ≤ a) then ((S 13 36) : Int32) else a) (K318_24_c4 a (if ((S 13 36) ≤ a) then ((S 13 36) : Int32) else a) (none : Option zV) 0 (z_up S 13 0 (zb (¬ ((¬ (a < 1)) ∧ (¬ (100 < a))))))) (if ((S 13 36) ≤ a) then ((S 13 36) : Int32) else a).toNatClampNeg (K318_24_S a (if ((S 13 36) ≤ a) then ((S 13 36) : Int32) else a) (none : Option zV) 0 (z_up S 13 0 (zb (¬ ((¬ (a < 1)) ∧ (¬ (100 < a)))))))) 13 36) - (if ((S 13 36) ≤ a) then ((S 13 36) : Int32) else a)) : Int32) else 0)
def G318 (a : Int32) (S : zS) : zS := (if ((zb (¬ ((¬ (a < 1)) ∧ (¬ (100 < a))))) = 0) then (z_up (K318_90_S a (if ((S 13 36) ≤ a) then ((S 13 36) : Int32) else a) (K318_24_c4 a (if ((S 13 36) ≤ a) then ((S 13 36) : Int32) else a) (none : Option zV) 0 (z_up S 13 0 (zb (¬ ((¬ (a < 1)) ∧ (¬ (100 < a))))))) (if ((S 13 36) ≤ a) then ((S 13 36) : Int32) else a).toNatClampNeg (K318_24_S a (if ((S 13 36) ≤ a) then ((S 13 36) : Int32) else a) (none : Option zV) 0 (z_up S 13 0 (zb (¬ ((¬ (a < 1)) ∧ (¬ (100 < a)))))))) 13 36 (((K318_90_S a (if ((S 13 36) ≤ a) then ((S 13 36) : Int32) else a) (K318_24_c4 a (if ((S 13 36) ≤ a) then ((S 13 36) : Int32) else a) (none : Option zV) 0 (z_up S 13 0 (zb (¬ ((¬ (a < 1)) ∧ (¬ (100 < a))))))) (if ((S 13 36) ≤ a) then ((S 13 36) : Int32) else a).toNatClampNeg (K318_24_S a (if ((S 13 36) ≤ a) then ((S 13 36) : Int32) else a) (none : Option zV) 0 (z_up S 13 0 (zb (¬ ((¬ (a < 1)) ∧ (¬ (100 < a)))))))) 13 36) - (if ((S 13 36) ≤ a) then ((S 13 36) : Int32) else a))) else (z_up S 13 0 (zb (¬ ((¬ (a < 1)) ∧ (¬ (100 < a)))))))
set_option maxRecDepth 100000 in
theorem f318 {L : Nat} (a : Int32) (S : zS) (g0 : ((zb (¬ ((¬ (a < 1)) ∧ (¬ (100 < a))))) = 0) → zn 600 (if ((S 13 36) ≤ a) then ((S 13 36) : Int32) else a)) (g1 : zA 600 216 (S 96)) (g2 : zSl 600 (S 96) (S 97)) (g3 : zn 2048 (S 13 36)) (g4 : ((zb (¬ ((¬ (a < 1)) ∧ (¬ (100 < a))))) = 0) → zn 10000 (if ((S 13 36) ≤ a) then ((S 13 36) : Int32) else a)) : zf L 318 [.inr (.inr 13), .inl a] S (.inl (some (.inl (F318 a S))), (G318 a S), 0) := zf_of (en_318 _ _) (zr_2_0 i318_0 (zr_1_1 i318_1 (zr_0 i318_2 kc_1 (zr_0 i318_3 kc_100 (zr_cv (zs_22_3 i318_4 na_213 rfl) (f213 a 1 100 S ) (zt_trans (zt_cast (zr_18b_0 i318_5 (fun h3669 => zr_0 i318_6 kc_0 (zr_17 i318_7 (zt_rfl))) (fun h3670 => zr_0 i318_8 kc_1 (zt_rfl))) (zm_c zz_s (zl_c (zl_t zz_01) zz_s) zz_s)) (zr_cv (zs_21_1 i318_9 na_212 ob_13 rfl) (f212 (zb (¬ ((¬ (a < 1)) ∧ (¬ (100 < a))))) S ) (zt_cast (zr_18b_1 i318_10 (fun h3671 => zr_1_1 i318_13 (zr_2_0 i318_14 (zr_6 i318_15 fl_13_36 (zupf rfl) (zt_trans (zt_cast (zr_19_3 i318_16 (fun h3673 => zr_2_0 i318_19 (zr_6 i318_20 fl_13_36 (zupf rfl) (zt_rfl))) (fun h3674 => zr_1_1 i318_17 (zr_17 i318_18 (zt_rfl)))) (zm_c zz_s (zl_c (zl_t zz_e) zz_s) zz_s)) (zr_3_2 i318_21 (zr_0 i318_22 kc_0 (zr_3_3 i318_23 (zt_trans (L318_24 a (if ((S 13 36) ≤ a) then ((S 13 36) : Int32) else a) (none : Option zV) 0 (z_up S 13 0 (zb (¬ ((¬ (a < 1)) ∧ (¬ (100 < a)))))) (by decide) (g0 h3671) (zpc1 (zupc rfl) (g1)) (zpc2 (zupc rfl) (zupc rfl) (g2))) (zr_1_2 i318_88 (zr_3_3 i318_89 (zt_trans (zk_cg (P := fun v9 => zt L 318 90 [some (.inr (.inr 13)), some (.inl a), some (.inl (if ((S 13 36) ≤ a) then ((S 13 36) : Int32) else a)), some (.inl v9), (K318_24_c4 a (if ((S 13 36) ≤ a) then ((S 13 36) : Int32) else a) (none : Option zV) 0 (z_up S 13 0 (zb (¬ ((¬ (a < 1)) ∧ (¬ (100 < a)))))))] [] (K318_24_S a (if ((S 13 36) ≤ a) then ((S 13 36) : Int32) else a) (none : Option zV) 0 (z_up S 13 0 (zb (¬ ((¬ (a < 1)) ∧ (¬ (100 < a))))))) (.inl (121, [some (.inr (.inr 13)), some (.inl a), some (.inl (if ((S 13 36) ≤ a) then ((S 13 36) : Int32) else a)), some (.inl (Int32.ofNat ((if ((S 13 36) ≤ a) then ((S 13 36) : Int32) else a).toNatClampNeg + (((K318_24_S a (if ((S 13 36) ≤ a) then ((S 13 36) : Int32) else a) (none : Option zV) 0 (z_up S 13 0 (zb (¬ ((¬ (a < 1)) ∧ (¬ (100 < a))))))) 13 36).toNatClampNeg - (if ((S 13 36) ≤ a) then ((S 13 36) : Int32) else a).toNatClampNeg)))), (K318_24_c4 a (if ((S 13 36) ≤ a) then ((S 13 36) : Int32) else a) (none : Option zV) 0 (z_up S 13 0 (zb (¬ ((¬ (a < 1)) ∧ (¬ (100 < a)))))))], [], (K318_90_S a (if ((S 13 36) ≤ a) then ((S 13 36) : Int32) else a) (K318_24_c4 a (if ((S 13 36) ≤ a) then ((S 13 36) : Int32) else a) (none : Option zV) 0 (z_up S 13 0 (zb (¬ ((¬ (a < 1)) ∧ (¬ (100 < a))))))) (if ((S 13 36) ≤ a) then ((S 13 36) : Int32) else a).toNatClampNeg (K318_24_S a (if ((S 13 36) ≤ a) then ((S 13 36) : Int32) else a) (none : Option zV) 0 (z_up S 13 0 (zb (¬ ((¬ (a < 1)) ∧ (¬ (100 < a))))))))))) ((g4 h3671)).1 (L318_90 a (if ((S 13 36) ≤ a) then ((S 13 36) : Int32) else a) ((K318_24_c4 a (if ((S 13 36) ≤ a) then ((S 13 36) : Int32) else a) (none : Option zV) 0 (z_up S 13 0 (zb (¬ ((¬ (a < 1)) ∧ (¬ (100 < a))))))) : Option zV) (if ((S 13 36) ≤ a) then ((S 13 36) : Int32) else a).toNatClampNeg (K318_24_S a (if ((S 13 36) ≤ a) then ((S 13 36) : Int32) else a) (none : Option zV) 0 (z_up S 13 0 (zb (¬ ((¬ (a < 1)) ∧ (¬ (100 < a))))))) (zn_cl (g4 h3671)) (znv ((w_K318_24_S_13_36 _ _ _ _ _).trans (zupf rfl)) (g3)) (zk_of ((g4 h3671)).1).symm)) (zr_2_0 i318_121 (zr_14r i318_122 (zr_6 i318_123 fl_13_36 rfl (zr_1_2 i318_124 (zr_13_1 i318_125 (zr_7 i318_126 fl_13_36 (zr_2_0 i318_127 (zr_6 i318_128 fl_13_36 (zup_s _ _ _ _) (zr_25 i318_129)))))))))))))))))))) (fun h3672 => zr_0 i318_11 kc_0 (zr_25 i318_12))) (zm_r zz_e zz_e)))))))))
def F319 (a b c : Int32) (S : zS) : Int32 := (if ((zb ((¬ ((¬ (b < 0)) ∧ (¬ (215 < b)))) ∨ (¬ ((¬ (c < 0)) ∧ (¬ (9999 < c)))))) = 0) then ((if (((¬ (a < 0)) ∧ (¬ ((((z_up S 13 0 (zb ((¬ ((¬ (b < 0)) ∧ (¬ (215 < b)))) ∨ (¬ ((¬ (c < 0)) ∧ (¬ (9999 < c))))))) 13 45) - 1) < a))) ∧ (((z_up S 13 0 (zb ((¬ ((¬ (b < 0)) ∧ (¬ (215 < b)))) ∨ (¬ ((¬ (c < 0)) ∧ (¬ (9999 < c))))))) 119 a.toNatClampNeg) = 0)) then ((if (((if ((¬ (a < 0)) ∧ (¬ ((((z_up S 13 0 (zb ((¬ ((¬ (b < 0)) ∧ (¬ (215 < b)))) ∨ (¬ ((¬ (c < 0)) ∧ (¬ (9999 < c))))))) 13 45) - 1) < a))) then ((F257 a b (z_up S 13 0 (zb ((¬ ((¬ (b < 0)) ∧ (¬ (215 < b)))) ∨ (¬ ((¬ (c < 0)) ∧ (¬ (9999 < c)))))))) : Int32) else 0) &&& 1) = 0) then ((if (((¬ (a < 0)) ∧ (¬ ((((z_up S 13 0 (zb ((¬ ((¬ (b < 0)) ∧ (¬ (215 < b)))) ∨ (¬ ((¬ (c < 0)) ∧ (¬ (9999 < c))))))) 13 45) - 1) < a))) ∧ (((z_up S 13 0 (zb ((¬ ((¬ (b < 0)) ∧ (¬ (215 < b)))) ∨ (¬ ((¬ (c < 0)) ∧ (¬ (9999 < c))))))) 119 a.toNatClampNeg) = 0)) then ((-6) : Int32) else (-4)) : Int32) else (if (((if ((¬ (a < 0)) ∧ (¬ ((((z_up S 13 0 (zb ((¬ ((¬ (b < 0)) ∧ (¬ (215 < b)))) ∨ (¬ ((¬ (c < 0)) ∧ (¬ (9999 < c))))))) 13 45) - 1) < a))) then ((F257 a b (z_up S 13 0 (zb ((¬ ((¬ (b < 0)) ∧ (¬ (215 < b)))) ∨ (¬ ((¬ (c < 0)) ∧ (¬ (9999 < c)))))))) : Int32) else 0) / 16) ≤ 0) then ((if ((¬ ((if (c = 0) then ((S 92 b.toNatClampNeg) : Int32) else c) < 1)) ∧ ((¬ ((S 92 b.toNatClampNeg) < (if (c = 0) then ((S 92 b.toNatClampNeg) : Int32) else c))) ∧ (¬ ((if (c = 0) then ((S 92 b.toNatClampNeg) : Int32) else c) ≤ ((S 92 b.toNatClampNeg) - 4))))) then ((if ((S 95 ((4 * b) + (zrem (if (c = 0) then ((S 92 b.toNatClampNeg) : Int32) else c) 4)).toNatClampNeg) = 0) then ((if ((S 13 18) ≤ (S 94 ((4 * b) + (zrem (if (c = 0) then ((S 92 b.toNatClampNeg) : Int32) else c) 4)).toNatClampNeg)) then ((S 93 ((4 * b) + (zrem (if (c = 0) then ((S 92 b.toNatClampNeg) : Int32) else c) 4)).toNatClampNeg) : Int32) else (-9)) : Int32) else (-7)) : Int32) else (-7)) : Int32) else (-10))) : Int32) else (if (((¬ (a < 0)) ∧ (¬ ((((z_up S 13 0 (zb ((¬ ((¬ (b < 0)) ∧ (¬ (215 < b)))) ∨ (¬ ((¬ (c < 0)) ∧ (¬ (9999 < c))))))) 13 45) - 1) < a))) ∧ (((z_up S 13 0 (zb ((¬ ((¬ (b < 0)) ∧ (¬ (215 < b)))) ∨ (¬ ((¬ (c < 0)) ∧ (¬ (9999 < c))))))) 119 a.toNatClampNeg) = 0)) then ((-6) : Int32) else (-4))) : Int32) else 0)
set_option maxRecDepth 100000 in
theorem f319 {L : Nat} (a b c : Int32) (S : zS) (g0 : ((zb ((¬ ((¬ (b < 0)) ∧ (¬ (215 < b)))) ∨ (¬ ((¬ (c < 0)) ∧ (¬ (9999 < c)))))) = 0) → ((¬ (a < 0)) ∧ (¬ ((((z_up S 13 0 (zb ((¬ ((¬ (b < 0)) ∧ (¬ (215 < b)))) ∨ (¬ ((¬ (c < 0)) ∧ (¬ (9999 < c))))))) 13 45) - 1) < a))) → zx 40 a) (g1 : ((zb ((¬ ((¬ (b < 0)) ∧ (¬ (215 < b)))) ∨ (¬ ((¬ (c < 0)) ∧ (¬ (9999 < c)))))) = 0) → ((¬ (a < 0)) ∧ (¬ ((((z_up S 13 0 (zb ((¬ ((¬ (b < 0)) ∧ (¬ (215 < b)))) ∨ (¬ ((¬ (c < 0)) ∧ (¬ (9999 < c))))))) 13 45) - 1) < a))) → (¬ (((z_up S 13 0 (zb ((¬ ((¬ (b < 0)) ∧ (¬ (215 < b)))) ∨ (¬ ((¬ (c < 0)) ∧ (¬ (9999 < c))))))) 111 a.toNatClampNeg) = (-1))) → zx 8 (S 111 a.toNatClampNeg)) (g2 : ((zb ((¬ ((¬ (b < 0)) ∧ (¬ (215 < b)))) ∨ (¬ ((¬ (c < 0)) ∧ (¬ (9999 < c)))))) = 0) → (((¬ (a < 0)) ∧ (¬ ((((z_up S 13 0 (zb ((¬ ((¬ (b < 0)) ∧ (¬ (215 < b)))) ∨ (¬ ((¬ (c < 0)) ∧ (¬ (9999 < c))))))) 13 45) - 1) < a))) ∧ (((z_up S 13 0 (zb ((¬ ((¬ (b < 0)) ∧ (¬ (215 < b)))) ∨ (¬ ((¬ (c < 0)) ∧ (¬ (9999 < c))))))) 119 a.toNatClampNeg) = 0)) → (¬ (((if ((¬ (a < 0)) ∧ (¬ ((((z_up S 13 0 (zb ((¬ ((¬ (b < 0)) ∧ (¬ (215 < b)))) ∨ (¬ ((¬ (c < 0)) ∧ (¬ (9999 < c))))))) 13 45) - 1) < a))) then ((F257 a b (z_up S 13 0 (zb ((¬ ((¬ (b < 0)) ∧ (¬ (215 < b)))) ∨ (¬ ((¬ (c < 0)) ∧ (¬ (9999 < c)))))))) : Int32) else 0) &&& 1) = 0)) → (((if ((¬ (a < 0)) ∧ (¬ ((((z_up S 13 0 (zb ((¬ ((¬ (b < 0)) ∧ (¬ (215 < b)))) ∨ (¬ ((¬ (c < 0)) ∧ (¬ (9999 < c))))))) 13 45) - 1) < a))) then ((F257 a b (z_up S 13 0 (zb ((¬ ((¬ (b < 0)) ∧ (¬ (215 < b)))) ∨ (¬ ((¬ (c < 0)) ∧ (¬ (9999 < c)))))))) : Int32) else 0) / 16) ≤ 0) → (c = 0) → zx 216 b) (g3 : ((zb ((¬ ((¬ (b < 0)) ∧ (¬ (215 < b)))) ∨ (¬ ((¬ (c < 0)) ∧ (¬ (9999 < c)))))) = 0) → (((¬ (a < 0)) ∧ (¬ ((((z_up S 13 0 (zb ((¬ ((¬ (b < 0)) ∧ (¬ (215 < b)))) ∨ (¬ ((¬ (c < 0)) ∧ (¬ (9999 < c))))))) 13 45) - 1) < a))) ∧ (((z_up S 13 0 (zb ((¬ ((¬ (b < 0)) ∧ (¬ (215 < b)))) ∨ (¬ ((¬ (c < 0)) ∧ (¬ (9999 < c))))))) 119 a.toNatClampNeg) = 0)) → (¬ (((if ((¬ (a < 0)) ∧ (¬ ((((z_up S 13 0 (zb ((¬ ((¬ (b < 0)) ∧ (¬ (215 < b)))) ∨ (¬ ((¬ (c < 0)) ∧ (¬ (9999 < c))))))) 13 45) - 1) < a))) then ((F257 a b (z_up S 13 0 (zb ((¬ ((¬ (b < 0)) ∧ (¬ (215 < b)))) ∨ (¬ ((¬ (c < 0)) ∧ (¬ (9999 < c)))))))) : Int32) else 0) &&& 1) = 0)) → (((if ((¬ (a < 0)) ∧ (¬ ((((z_up S 13 0 (zb ((¬ ((¬ (b < 0)) ∧ (¬ (215 < b)))) ∨ (¬ ((¬ (c < 0)) ∧ (¬ (9999 < c))))))) 13 45) - 1) < a))) then ((F257 a b (z_up S 13 0 (zb ((¬ ((¬ (b < 0)) ∧ (¬ (215 < b)))) ∨ (¬ ((¬ (c < 0)) ∧ (¬ (9999 < c)))))))) : Int32) else 0) / 16) ≤ 0) → (¬ ((if (c = 0) then ((S 92 b.toNatClampNeg) : Int32) else c) < 1)) → zx 216 b) (g4 : ((zb ((¬ ((¬ (b < 0)) ∧ (¬ (215 < b)))) ∨ (¬ ((¬ (c < 0)) ∧ (¬ (9999 < c)))))) = 0) → (((¬ (a < 0)) ∧ (¬ ((((z_up S 13 0 (zb ((¬ ((¬ (b < 0)) ∧ (¬ (215 < b)))) ∨ (¬ ((¬ (c < 0)) ∧ (¬ (9999 < c))))))) 13 45) - 1) < a))) ∧ (((z_up S 13 0 (zb ((¬ ((¬ (b < 0)) ∧ (¬ (215 < b)))) ∨ (¬ ((¬ (c < 0)) ∧ (¬ (9999 < c))))))) 119 a.toNatClampNeg) = 0)) → (¬ (((if ((¬ (a < 0)) ∧ (¬ ((((z_up S 13 0 (zb ((¬ ((¬ (b < 0)) ∧ (¬ (215 < b)))) ∨ (¬ ((¬ (c < 0)) ∧ (¬ (9999 < c))))))) 13 45) - 1) < a))) then ((F257 a b (z_up S 13 0 (zb ((¬ ((¬ (b < 0)) ∧ (¬ (215 < b)))) ∨ (¬ ((¬ (c < 0)) ∧ (¬ (9999 < c)))))))) : Int32) else 0) &&& 1) = 0)) → (((if ((¬ (a < 0)) ∧ (¬ ((((z_up S 13 0 (zb ((¬ ((¬ (b < 0)) ∧ (¬ (215 < b)))) ∨ (¬ ((¬ (c < 0)) ∧ (¬ (9999 < c))))))) 13 45) - 1) < a))) then ((F257 a b (z_up S 13 0 (zb ((¬ ((¬ (b < 0)) ∧ (¬ (215 < b)))) ∨ (¬ ((¬ (c < 0)) ∧ (¬ (9999 < c)))))))) : Int32) else 0) / 16) ≤ 0) → ((¬ ((if (c = 0) then ((S 92 b.toNatClampNeg) : Int32) else c) < 1)) ∧ ((¬ ((S 92 b.toNatClampNeg) < (if (c = 0) then ((S 92 b.toNatClampNeg) : Int32) else c))) ∧ (¬ ((if (c = 0) then ((S 92 b.toNatClampNeg) : Int32) else c) ≤ ((S 92 b.toNatClampNeg) - 4))))) → zx 864 ((4 * b) + (zrem (if (c = 0) then ((S 92 b.toNatClampNeg) : Int32) else c) 4))) : zf L 319 [.inr (.inr 13), .inl a, .inl b, .inl c] S (.inl (some (.inl (F319 a b c S))), (z_up S 13 0 (zb ((¬ ((¬ (b < 0)) ∧ (¬ (215 < b)))) ∨ (¬ ((¬ (c < 0)) ∧ (¬ (9999 < c))))))), 0) := zf_of (en_319 _ _ _ _) (zr_2_0 i319_0 (zr_1_2 i319_1 (zr_cv (zs_22_1 i319_2 na_284 rfl) (f284 b S ) (zt_trans (zt_cast (zr_18b_0 i319_3 (fun h3675 => zr_1_3 i319_4 (zr_cv (zs_22_1 i319_5 na_286 rfl) (f286 c S ) (zt_cast (zr_18b_0 i319_6 (fun h3677 => zr_0 i319_7 kc_0 (zr_17 i319_8 (zt_rfl))) (fun h3678 => zr_0 i319_9 kc_1 (zt_rfl))) (zm_c zz_s (zl_c (zl_t zz_01) zz_s) zz_s)))) (fun h3676 => zr_0 i319_9 kc_1 (zt_rfl))) (zm_c zz_s (zl_c (zl_t zz_b1) zz_s) zz_s)) (zr_cv (zs_21_1 i319_10 na_212 ob_13 rfl) (f212 (zb ((¬ ((¬ (b < 0)) ∧ (¬ (215 < b)))) ∨ (¬ ((¬ (c < 0)) ∧ (¬ (9999 < c)))))) S ) (zt_cast (zr_18b_1 i319_11 (fun h3679 => zr_2_0 i319_14 (zr_1_1 i319_15 (zr_cv (zs_21_1 i319_16 na_258 ob_13 rfl) (f258 a (z_up S 13 0 (zb ((¬ ((¬ (b < 0)) ∧ (¬ (215 < b)))) ∨ (¬ ((¬ (c < 0)) ∧ (¬ (9999 < c))))))) ) (zt_trans (zt_cast (zr_18b_0 i319_17 (fun h3681 => zr_2_0 i319_18 (zr_1_1 i319_19 (zr_1_2 i319_20 (zr_cv (zs_21_2 i319_21 na_257 ob_13 rfl) (f257 a b (z_up S 13 0 (zb ((¬ ((¬ (b < 0)) ∧ (¬ (215 < b)))) ∨ (¬ ((¬ (c < 0)) ∧ (¬ (9999 < c))))))) (g0 h3679 h3681) (fun h3683 => (zxc (zupc rfl) (g1 h3679 h3681 h3683)))) (zr_17 i319_22 (zt_rfl)))))) (fun h3682 => zr_0 i319_23 kc_0 (zt_rfl))) (zm_c zz_s (zl_c (zl_t zz_e) zz_s) zz_s)) (zr_3_4 i319_24 (zr_2_0 i319_25 (zr_1_1 i319_26 (zr_cv (zs_21_1 i319_27 na_259 ob_13 rfl) (f259 a (z_up S 13 0 (zb ((¬ ((¬ (b < 0)) ∧ (¬ (215 < b)))) ∨ (¬ ((¬ (c < 0)) ∧ (¬ (9999 < c))))))) (fun h3684 => (g0 h3679 h3684))) (zt_cast (zr_18b_0 i319_28 (fun h3685 => zr_1_4 i319_29 (zr_0 i319_30 kc_1 (zr_13_5 i319_31 (zt_cast (zr_18_1 i319_32 (fun h3687 => zr_2_0 i319_33 (zr_1_1 i319_34 (zr_cv (zs_21_1 i319_35 na_259 ob_13 rfl) (f259 a (z_up S 13 0 (zb ((¬ ((¬ (b < 0)) ∧ (¬ (215 < b)))) ∨ (¬ ((¬ (c < 0)) ∧ (¬ (9999 < c))))))) (fun h3689 => (g0 h3679 h3689))) (zt_trans (zt_cast (zr_18b_0 i319_36 (fun h3690 => zr_0 i319_37 kc_m6 (zr_17 i319_38 (zt_rfl))) (fun h3691 => zr_0 i319_39 kc_m4 (zt_rfl))) (zm_c zz_s (zl_c (zl_t zz_e) zz_s) zz_s)) (zr_25 i319_40))))) (fun h3688 => zr_1_4 i319_41 (zr_0 i319_42 kc_16 (zr_13_3 i319_43 nz_16 (zt_cast (zr_18_5 i319_44 (fun h3692 => zr_1_3 i319_47 (zt_trans (zt_cast (zr_18_1 i319_48 (fun h3694 => zr_2_0 i319_49 (zr_6r i319_50 fl_13_27 (zr_1_2 i319_51 (zr_8 i319_52 ar_92 (g2 h3679 h3685 h3688 h3692 h3694) rfl (zupci rfl) (zr_17 i319_53 (zt_rfl)))))) (fun h3695 => zr_1_3 i319_54 (zt_rfl))) (zm_c zz_s (zl_c (zl_t zz_e) zz_s) zz_s)) (zr_3_5 i319_55 (zr_1_5 i319_56 (zr_0 i319_57 kc_1 (zt_trans (zt_cast (zr_19_2 i319_58 (fun h3696 => zr_0 i319_75 kc_0 (zt_rfl)) (fun h3697 => zr_1_5 i319_59 (zr_2_0 i319_60 (zr_6r i319_61 fl_13_27 (zr_1_2 i319_62 (zr_8 i319_63 ar_92 (g3 h3679 h3685 h3688 h3692 h3697) rfl (zupci rfl) (zt_cast (zr_19_4 i319_64 (fun h3698 => zr_0 i319_75 kc_0 (zt_rfl)) (fun h3699 => zr_1_5 i319_65 (zr_2_0 i319_66 (zr_6r i319_67 fl_13_27 (zr_1_2 i319_68 (zr_8 i319_69 ar_92 (g3 h3679 h3685 h3688 h3692 h3697) rfl (zupci rfl) (zr_0 i319_70 kc_4 (zr_13_1 i319_71 (zt_cast (zr_19_5 i319_72 (fun h3700 => zr_0 i319_75 kc_0 (zt_rfl)) (fun h3701 => zr_0 i319_73 kc_1 (zr_17 i319_74 (zt_rfl)))) (zm_c zz_s (zl_c (zl_t zz_01) zz_s) zz_s)))))))))) (zm_c zz_s (zl_c (zl_t zz_0b) zz_s) zz_s)))))))) (zm_c zz_s (zl_c (zl_t zz_0b) zz_s) zz_s)) (zr_3_6 i319_76 (zr_1_6 i319_77 (zt_cast (zr_18b_0 i319_78 (fun h3702 => zr_2_0 i319_79 (zr_6r i319_80 fl_13_30 (zr_1_2 i319_81 (zr_1_5 i319_82 (zr_cv (zs_22_2 i319_83 na_287 rfl) (f287 b (if (c = 0) then ((S 92 b.toNatClampNeg) : Int32) else c) (z_up S 13 0 (zb ((¬ ((¬ (b < 0)) ∧ (¬ (215 < b)))) ∨ (¬ ((¬ (c < 0)) ∧ (¬ (9999 < c))))))) ) (zr_8 i319_84 ar_95 (g4 h3679 h3685 h3688 h3692 h3702) rfl (zupci rfl) (zt_cast (zr_18_0 i319_85 (fun h3704 => zr_2_0 i319_88 (zr_6r i319_89 fl_13_29 (zr_1_2 i319_90 (zr_1_5 i319_91 (zr_cv (zs_22_2 i319_92 na_287 rfl) (f287 b (if (c = 0) then ((S 92 b.toNatClampNeg) : Int32) else c) (z_up S 13 0 (zb ((¬ ((¬ (b < 0)) ∧ (¬ (215 < b)))) ∨ (¬ ((¬ (c < 0)) ∧ (¬ (9999 < c))))))) ) (zr_8 i319_93 ar_94 (g4 h3679 h3685 h3688 h3692 h3702) rfl (zupci rfl) (zr_2_0 i319_94 (zr_6 i319_95 fl_13_18 (zupf rfl) (zt_trans (zt_cast (zr_19_3 i319_96 (fun h3706 => zr_2_0 i319_99 (zr_6r i319_100 fl_13_28 (zr_1_2 i319_101 (zr_1_5 i319_102 (zr_cv (zs_22_2 i319_103 na_287 rfl) (f287 b (if (c = 0) then ((S 92 b.toNatClampNeg) : Int32) else c) (z_up S 13 0 (zb ((¬ ((¬ (b < 0)) ∧ (¬ (215 < b)))) ∨ (¬ ((¬ (c < 0)) ∧ (¬ (9999 < c))))))) ) (zr_8 i319_104 ar_93 (g4 h3679 h3685 h3688 h3692 h3702) rfl (zupci rfl) (zt_rfl))))))) (fun h3707 => zr_0 i319_97 kc_m9 (zr_17 i319_98 (zt_rfl)))) (zm_c zz_s (zl_c (zl_t zz_e) zz_s) zz_s)) (zr_25 i319_105)))))))))) (fun h3705 => zr_0 i319_86 kc_m7 (zr_25 i319_87))) (zm_r zz_e zz_s)))))))) (fun h3703 => zr_0 i319_86 kc_m7 (zr_25 i319_87))) (zm_r zz_e zz_s)))))))))) (fun h3693 => zr_0 i319_45 kc_m10 (zr_25 i319_46))) (zm_r zz_e zz_s)))))) (zm_r zz_e zz_s))))) (fun h3686 => zr_2_0 i319_33 (zr_1_1 i319_34 (zr_cv (zs_21_1 i319_35 na_259 ob_13 rfl) (f259 a (z_up S 13 0 (zb ((¬ ((¬ (b < 0)) ∧ (¬ (215 < b)))) ∨ (¬ ((¬ (c < 0)) ∧ (¬ (9999 < c))))))) (fun h3708 => (g0 h3679 h3708))) (zt_trans (zt_cast (zr_18b_0 i319_36 (fun h3709 => zr_0 i319_37 kc_m6 (zr_17 i319_38 (zt_rfl))) (fun h3710 => zr_0 i319_39 kc_m4 (zt_rfl))) (zm_c zz_s (zl_c (zl_t zz_e) zz_s) zz_s)) (zr_25 i319_40)))))) (zm_r zz_e zz_s)))))))))) (fun h3680 => zr_0 i319_12 kc_0 (zr_25 i319_13))) (zm_r zz_e zz_s)))))))
