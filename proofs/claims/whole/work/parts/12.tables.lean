theorem wsIn_0 : ∀ w ∈ u_ws RX0 TX0 9, w ∈ BW := by decide +kernel
theorem wsIn_1 : ∀ w ∈ u_ws RX1 TX1 5, w ∈ BW := by decide +kernel
theorem wsIn_2 : ∀ w ∈ u_ws RX2 TX2 2, w ∈ BW := by decide +kernel
theorem wsIn_3 : ∀ w ∈ u_ws RX3 TX3 3, w ∈ BW := by decide +kernel
theorem wsIn_4 : ∀ w ∈ u_ws RX4 TX4 3, w ∈ BW := by decide +kernel
theorem wsIn_5 : ∀ w ∈ u_ws RX5 TX5 3, w ∈ BW := by decide +kernel
theorem wsIn_6 : ∀ w ∈ u_ws RX6 TX6 9, w ∈ BW := by decide +kernel
theorem wsIn_7 : ∀ w ∈ u_ws RX7 TX7 26, w ∈ BW := by decide +kernel
theorem bw_75 : Cond.fieldLink RX0 9 "YawnKeys$College" "kinds" "[I" ∈ BW := bw_i 75 (by decide +kernel) (by decide +kernel)
theorem bw_76 : Cond.fieldLink RX6 85 "YawnKeys$College" "kinds" "[I" ∈ BW := bw_i 76 (by decide +kernel) (by decide +kernel)
theorem bw_77 : Cond.fieldLink RX0 15 "YawnKeys$College" "people" "I" ∈ BW := bw_i 77 (by decide +kernel) (by decide +kernel)
theorem bw_78 : Cond.fieldLink RX3 22 "YawnKeys$College" "people" "I" ∈ BW := bw_i 78 (by decide +kernel) (by decide +kernel)
theorem bw_79 : Cond.fieldLink RX6 61 "YawnKeys$College" "people" "I" ∈ BW := bw_i 79 (by decide +kernel) (by decide +kernel)
theorem bw_80 : Cond.fieldLink RX5 52 "YawnKeys$College" "people" "I" ∈ BW := bw_i 80 (by decide +kernel) (by decide +kernel)
theorem bw_81 : Cond.fieldLink RX0 19 "YawnKeys$College" "rule" "I" ∈ BW := bw_i 81 (by decide +kernel) (by decide +kernel)
theorem bw_82 : Cond.fieldLink RX6 72 "YawnKeys$College" "rule" "I" ∈ BW := bw_i 82 (by decide +kernel) (by decide +kernel)
theorem bw_83 : Cond.fieldLink RX5 47 "YawnKeys$College" "rule" "I" ∈ BW := bw_i 83 (by decide +kernel) (by decide +kernel)
theorem bw_84 : Cond.fieldLink RX0 22 "YawnKeys$College" "goneDoors" "I" ∈ BW := bw_i 84 (by decide +kernel) (by decide +kernel)
theorem bw_85 : Cond.fieldLink RX1 9 "YawnKeys$Moment" "wants" "[I" ∈ BW := bw_i 85 (by decide +kernel) (by decide +kernel)
theorem bw_86 : Cond.fieldLink RX0 43 "YawnKeys$College" "wants" "[I" ∈ BW := bw_i 86 (by decide +kernel) (by decide +kernel)
theorem bw_87 : Cond.sameField "YawnKeys$College" "YawnKeys$Moment" "wants" "[I" ∈ BW := bw_i 87 (by decide +kernel) (by decide +kernel)
theorem bw_88 : Cond.fieldLink RX1 15 "YawnKeys$Moment" "keepers" "[I" ∈ BW := bw_i 88 (by decide +kernel) (by decide +kernel)
theorem bw_89 : Cond.fieldLink RX3 31 "YawnKeys$College" "keepers" "[I" ∈ BW := bw_i 89 (by decide +kernel) (by decide +kernel)
theorem bw_90 : Cond.sameField "YawnKeys$College" "YawnKeys$Moment" "keepers" "[I" ∈ BW := bw_i 90 (by decide +kernel) (by decide +kernel)
theorem bw_91 : Cond.fieldLink RX6 96 "YawnKeys$College" "keepers" "[I" ∈ BW := bw_i 91 (by decide +kernel) (by decide +kernel)
theorem bw_92 : Cond.fieldLink RX0 59 "YawnKeys$College" "keepers" "[I" ∈ BW := bw_i 92 (by decide +kernel) (by decide +kernel)
theorem bw_93 : Cond.fieldLink RX5 77 "YawnKeys$College" "keepers" "[I" ∈ BW := bw_i 93 (by decide +kernel) (by decide +kernel)
theorem bw_94 : Cond.fieldLink RX1 18 "YawnKeys$Moment" "day" "I" ∈ BW := bw_i 94 (by decide +kernel) (by decide +kernel)
theorem bw_95 : Cond.fieldLink RX6 115 "YawnKeys$College" "day" "I" ∈ BW := bw_i 95 (by decide +kernel) (by decide +kernel)
theorem bw_96 : Cond.sameField "YawnKeys$College" "YawnKeys$Moment" "day" "I" ∈ BW := bw_i 96 (by decide +kernel) (by decide +kernel)
theorem bw_97 : Cond.fieldLink RX0 80 "YawnKeys$College" "day" "I" ∈ BW := bw_i 97 (by decide +kernel) (by decide +kernel)
theorem bw_98 : Cond.fieldLink RX1 22 "YawnKeys$Moment" "gone" "I" ∈ BW := bw_i 98 (by decide +kernel) (by decide +kernel)
theorem bw_99 : Cond.fieldLink RX3 40 "YawnKeys$College" "gone" "I" ∈ BW := bw_i 99 (by decide +kernel) (by decide +kernel)
theorem bw_100 : Cond.sameField "YawnKeys$College" "YawnKeys$Moment" "gone" "I" ∈ BW := bw_i 100 (by decide +kernel) (by decide +kernel)
theorem bw_101 : Cond.fieldLink RX6 118 "YawnKeys$College" "gone" "I" ∈ BW := bw_i 101 (by decide +kernel) (by decide +kernel)
theorem bw_102 : Cond.fieldLink RX0 96 "YawnKeys$College" "gone" "I" ∈ BW := bw_i 102 (by decide +kernel) (by decide +kernel)
theorem bw_103 : Cond.fieldLink RX1 25 "YawnKeys$Moment" "draw" "I" ∈ BW := bw_i 103 (by decide +kernel) (by decide +kernel)
theorem bw_104 : Cond.fieldLink RX6 121 "YawnKeys$College" "draw" "I" ∈ BW := bw_i 104 (by decide +kernel) (by decide +kernel)
theorem bw_105 : Cond.sameField "YawnKeys$College" "YawnKeys$Moment" "draw" "I" ∈ BW := bw_i 105 (by decide +kernel) (by decide +kernel)
theorem bw_106 : Cond.fieldLink RX0 106 "YawnKeys$College" "draw" "I" ∈ BW := bw_i 106 (by decide +kernel) (by decide +kernel)
theorem bw_143 : Cond.fieldLink RX2 11 "YawnKeys$Past" "moments" "[LYawnKeys$Moment;" ∈ BW := bw_i 143 (by decide +kernel) (by decide +kernel)
theorem bw_144 : Cond.fieldLink RX2 17 "YawnKeys$Past" "known" "I" ∈ BW := bw_i 144 (by decide +kernel) (by decide +kernel)
theorem bw_145 : Cond.fieldLink RX6 138 "YawnKeys$Past" "known" "I" ∈ BW := bw_i 145 (by decide +kernel) (by decide +kernel)
theorem bw_157 : Cond.fieldLink RX5 9 "YawnKeys$Tape" "letters" "[I" ∈ BW := bw_i 157 (by decide +kernel) (by decide +kernel)
theorem bw_158 : Cond.fieldLink RX5 15 "YawnKeys$Tape" "length" "I" ∈ BW := bw_i 158 (by decide +kernel) (by decide +kernel)
theorem bw_159 : Cond.fieldLink RX6 105 "YawnKeys$Tape" "length" "I" ∈ BW := bw_i 159 (by decide +kernel) (by decide +kernel)
theorem bw_160 : Cond.fieldLink RX5 19 "YawnKeys$Tape" "place" "I" ∈ BW := bw_i 160 (by decide +kernel) (by decide +kernel)
theorem bw_174 : Cond.fieldLink RX3 9 "YawnKeys$Plan" "keepers" "[I" ∈ BW := bw_i 174 (by decide +kernel) (by decide +kernel)
theorem bw_175 : Cond.fieldLink RX6 180 "YawnKeys$Plan" "keepers" "[I" ∈ BW := bw_i 175 (by decide +kernel) (by decide +kernel)
theorem bw_176 : Cond.fieldLink RX3 15 "YawnKeys$Plan" "gone" "I" ∈ BW := bw_i 176 (by decide +kernel) (by decide +kernel)
theorem bw_177 : Cond.fieldLink RX6 176 "YawnKeys$Plan" "gone" "I" ∈ BW := bw_i 177 (by decide +kernel) (by decide +kernel)
theorem bw_178 : Cond.fieldLink RX3 19 "YawnKeys$Plan" "given" "I" ∈ BW := bw_i 178 (by decide +kernel) (by decide +kernel)
theorem bw_179 : Cond.fieldLink RX6 177 "YawnKeys$Plan" "given" "I" ∈ BW := bw_i 179 (by decide +kernel) (by decide +kernel)
theorem bw_194 : Cond.fieldLink RX4 9 "YawnKeys$Sheet" "items" "[J" ∈ BW := bw_i 194 (by decide +kernel) (by decide +kernel)
theorem bw_195 : Cond.fieldLink RX6 230 "YawnKeys$Sheet" "items" "[J" ∈ BW := bw_i 195 (by decide +kernel) (by decide +kernel)
theorem bw_196 : Cond.fieldLink RX4 15 "YawnKeys$Sheet" "lane" "I" ∈ BW := bw_i 196 (by decide +kernel) (by decide +kernel)
theorem bw_197 : Cond.fieldLink RX6 223 "YawnKeys$Sheet" "lane" "I" ∈ BW := bw_i 197 (by decide +kernel) (by decide +kernel)
theorem bw_198 : Cond.fieldLink RX4 19 "YawnKeys$Sheet" "size" "I" ∈ BW := bw_i 198 (by decide +kernel) (by decide +kernel)
theorem bw_207 : Cond.fieldLink RX6 10 "YawnKeys" "now" "LYawnKeys$College;" ∈ BW := bw_i 207 (by decide +kernel) (by decide +kernel)
theorem bw_208 : Cond.fieldLink RX6 16 "YawnKeys" "trial" "LYawnKeys$College;" ∈ BW := bw_i 208 (by decide +kernel) (by decide +kernel)
theorem bw_209 : Cond.fieldLink RX6 22 "YawnKeys" "past" "LYawnKeys$Past;" ∈ BW := bw_i 209 (by decide +kernel) (by decide +kernel)
theorem bw_210 : Cond.fieldLink RX6 26 "YawnKeys" "imaged" "LYawnKeys$College;" ∈ BW := bw_i 210 (by decide +kernel) (by decide +kernel)
theorem bw_211 : Cond.fieldLink RX6 29 "YawnKeys" "imagedPast" "LYawnKeys$Past;" ∈ BW := bw_i 211 (by decide +kernel) (by decide +kernel)
theorem bw_212 : Cond.fieldLink RX6 32 "YawnKeys" "hasImage" "Z" ∈ BW := bw_i 212 (by decide +kernel) (by decide +kernel)
theorem bw_213 : Cond.fieldLink RX6 39 "YawnKeys" "tape" "LYawnKeys$Tape;" ∈ BW := bw_i 213 (by decide +kernel) (by decide +kernel)
theorem bw_214 : Cond.fieldLink RX6 46 "YawnKeys" "plan" "LYawnKeys$Plan;" ∈ BW := bw_i 214 (by decide +kernel) (by decide +kernel)
theorem bw_215 : Cond.fieldLink RX6 53 "YawnKeys" "sheets" "[LYawnKeys$Sheet;" ∈ BW := bw_i 215 (by decide +kernel) (by decide +kernel)
theorem bw_505 : Cond.constantLong RX0 109 (1103515245 : Int64) ∈ BW := bw_i 505 (by decide +kernel) (by decide +kernel)
theorem bw_506 : Cond.constantLong RX0 111 (12345 : Int64) ∈ BW := bw_i 506 (by decide +kernel) (by decide +kernel)
theorem bw_507 : Cond.constantLong RX0 113 (2147483647 : Int64) ∈ BW := bw_i 507 (by decide +kernel) (by decide +kernel)
theorem bw_508 : Cond.constant RX0 115 (65536 : Int32) ∈ BW := bw_i 508 (by decide +kernel) (by decide +kernel)
theorem bw_711 : Cond.fieldLink RX7 60 "YawnKeysModel" "people" "I" ∈ BW := bw_i 711 (by decide +kernel) (by decide +kernel)
theorem bw_712 : Cond.fieldLink RX7 7 "YawnKeysModel" "rule" "I" ∈ BW := bw_i 712 (by decide +kernel) (by decide +kernel)
theorem bw_713 : Cond.fieldLink RX7 13 "YawnKeysModel" "kinds" "[I" ∈ BW := bw_i 713 (by decide +kernel) (by decide +kernel)
theorem bw_714 : Cond.fieldLink RX7 17 "YawnKeysModel" "now" "[I" ∈ BW := bw_i 714 (by decide +kernel) (by decide +kernel)
theorem bw_715 : Cond.fieldLink RX7 20 "YawnKeysModel" "side" "[I" ∈ BW := bw_i 715 (by decide +kernel) (by decide +kernel)
theorem bw_716 : Cond.fieldLink RX7 23 "YawnKeysModel" "before" "[I" ∈ BW := bw_i 716 (by decide +kernel) (by decide +kernel)
theorem bw_717 : Cond.fieldLink RX7 104 "YawnKeysModel" "undoMany" "I" ∈ BW := bw_i 717 (by decide +kernel) (by decide +kernel)
theorem bw_718 : Cond.fieldLink RX7 207 "YawnKeysModel" "hasImage" "Z" ∈ BW := bw_i 718 (by decide +kernel) (by decide +kernel)
theorem bw_719 : Cond.fieldLink RX7 26 "YawnKeysModel" "imageOf" "[I" ∈ BW := bw_i 719 (by decide +kernel) (by decide +kernel)
theorem bw_720 : Cond.fieldLink RX7 29 "YawnKeysModel" "imageRow" "[I" ∈ BW := bw_i 720 (by decide +kernel) (by decide +kernel)
theorem bw_721 : Cond.fieldLink RX7 32 "YawnKeysModel" "imageBefore" "[I" ∈ BW := bw_i 721 (by decide +kernel) (by decide +kernel)
theorem bw_722 : Cond.fieldLink RX7 35 "YawnKeysModel" "items" "[J" ∈ BW := bw_i 722 (by decide +kernel) (by decide +kernel)
theorem bw_723 : Cond.fieldLink RX7 39 "YawnKeysModel" "lanes" "[I" ∈ BW := bw_i 723 (by decide +kernel) (by decide +kernel)
theorem bw_724 : Cond.fieldLink RX7 42 "YawnKeysModel" "sizes" "[I" ∈ BW := bw_i 724 (by decide +kernel) (by decide +kernel)
theorem bw_725 : Cond.fieldLink RX7 129 "YawnKeysModel" "length" "I" ∈ BW := bw_i 725 (by decide +kernel) (by decide +kernel)
theorem bw_726 : Cond.fieldLink RX7 45 "YawnKeysModel" "tape" "[I" ∈ BW := bw_i 726 (by decide +kernel) (by decide +kernel)
theorem bw_727 : Cond.fieldLink RX7 48 "YawnKeysModel" "otherOne" "I" ∈ BW := bw_i 727 (by decide +kernel) (by decide +kernel)
theorem bw_728 : Cond.fieldLink RX7 69 "YawnKeysModel" "otherKind" "I" ∈ BW := bw_i 728 (by decide +kernel) (by decide +kernel)
theorem bw_729 : Cond.fieldLink RX7 51 "YawnKeysModel" "mores" "[I" ∈ BW := bw_i 729 (by decide +kernel) (by decide +kernel)
theorem bw_730 : Cond.fieldLink RX7 79 "YawnKeysModel" "goneNow" "I" ∈ BW := bw_i 730 (by decide +kernel) (by decide +kernel)
theorem bw_731 : Cond.fieldLink RX7 132 "YawnKeysModel" "spot" "I" ∈ BW := bw_i 731 (by decide +kernel) (by decide +kernel)
theorem bw_732 : Cond.fieldLink RX7 135 "YawnKeysModel" "begins" "I" ∈ BW := bw_i 732 (by decide +kernel) (by decide +kernel)
theorem bw_733 : Cond.fieldLink RX7 149 "YawnKeysModel" "readRule" "I" ∈ BW := bw_i 733 (by decide +kernel) (by decide +kernel)
theorem bw_734 : Cond.fieldLink RX7 155 "YawnKeysModel" "readPeople" "I" ∈ BW := bw_i 734 (by decide +kernel) (by decide +kernel)
theorem bw_735 : Cond.fieldLink RX7 54 "YawnKeysModel" "readKinds" "[I" ∈ BW := bw_i 735 (by decide +kernel) (by decide +kernel)
theorem bw_736 : Cond.fieldLink RX7 57 "YawnKeysModel" "readRow" "[I" ∈ BW := bw_i 736 (by decide +kernel) (by decide +kernel)
theorem bw_794 : Cond.constantLong RX7 100 (4 : Int64) ∈ BW := bw_i 794 (by decide +kernel) (by decide +kernel)
theorem bw_798 : Cond.constantLong RX7 102 (20 : Int64) ∈ BW := bw_i 798 (by decide +kernel) (by decide +kernel)
theorem bw_814 : Cond.constantLong RX7 67 (3 : Int64) ∈ BW := bw_i 814 (by decide +kernel) (by decide +kernel)
theorem bw_819 : Cond.constantLong RX7 114 (2 : Int64) ∈ BW := bw_i 819 (by decide +kernel) (by decide +kernel)
theorem bw_856 : Cond.constantLong RX7 125 (32 : Int64) ∈ BW := bw_i 856 (by decide +kernel) (by decide +kernel)
theorem bw_857 : Cond.constantLong RX7 127 (126 : Int64) ∈ BW := bw_i 857 (by decide +kernel) (by decide +kernel)
theorem bw_877 : Cond.constantLong RX7 138 (48 : Int64) ∈ BW := bw_i 877 (by decide +kernel) (by decide +kernel)
theorem bw_878 : Cond.constantLong RX7 140 (57 : Int64) ∈ BW := bw_i 878 (by decide +kernel) (by decide +kernel)
theorem bw_886 : Cond.constantLong RX7 158 (97 : Int64) ∈ BW := bw_i 886 (by decide +kernel) (by decide +kernel)
theorem bw_887 : Cond.constantLong RX7 160 (117 : Int64) ∈ BW := bw_i 887 (by decide +kernel) (by decide +kernel)
theorem bw_908 : Cond.constantLong RX7 181 (40 : Int64) ∈ BW := bw_i 908 (by decide +kernel) (by decide +kernel)
theorem bw_941 : Cond.constantLong RX7 189 (1103515245 : Int64) ∈ BW := bw_i 941 (by decide +kernel) (by decide +kernel)
theorem bw_942 : Cond.constantLong RX7 191 (12345 : Int64) ∈ BW := bw_i 942 (by decide +kernel) (by decide +kernel)
theorem bw_943 : Cond.constantLong RX7 193 (2147483647 : Int64) ∈ BW := bw_i 943 (by decide +kernel) (by decide +kernel)
theorem bw_944 : Cond.constant RX7 195 (65536 : Int32) ∈ BW := bw_i 944 (by decide +kernel) (by decide +kernel)
theorem bw_957 : Cond.constantLong RX7 196 (60 : Int64) ∈ BW := bw_i 957 (by decide +kernel) (by decide +kernel)
theorem bw_986 : Cond.constantLong RX7 201 (30 : Int64) ∈ BW := bw_i 986 (by decide +kernel) (by decide +kernel)
theorem bw_987 : Cond.constantLong RX7 203 (-2 : Int64) ∈ BW := bw_i 987 (by decide +kernel) (by decide +kernel)
theorem bw_1000 : Cond.constantLong RX7 205 (10 : Int64) ∈ BW := bw_i 1000 (by decide +kernel) (by decide +kernel)
theorem bw_1019 : Cond.constantLong RX7 225 (8 : Int64) ∈ BW := bw_i 1019 (by decide +kernel) (by decide +kernel)
theorem bw_1048 : Cond.constantLong RX7 241 (24 : Int64) ∈ BW := bw_i 1048 (by decide +kernel) (by decide +kernel)
theorem fo_0_9_0 : FieldOK RX0 9 0 5 0 := ⟨RX0, TX0, 9, "YawnKeys$College", rfl, by decide, bw_75, ⟨wsIn_0, Or.inl rfl⟩, fun x hx => hx.elim, tyX0, tyX0_ok, nmX0⟩
theorem fo_0_15_0 : FieldOK RX0 15 0 6 1 := ⟨RX0, TX0, 9, "YawnKeys$College", rfl, by decide, bw_77, ⟨wsIn_0, Or.inl rfl⟩, fun x _ => ⟨.int, rfl, by decide +kernel, rfl, rfl⟩, tyX0, tyX0_ok, nmX0⟩
theorem fo_0_19_0 : FieldOK RX0 19 0 7 1 := ⟨RX0, TX0, 9, "YawnKeys$College", rfl, by decide, bw_81, ⟨wsIn_0, Or.inl rfl⟩, fun x _ => ⟨.int, rfl, by decide +kernel, rfl, rfl⟩, tyX0, tyX0_ok, nmX0⟩
theorem fo_0_22_0 : FieldOK RX0 22 0 8 1 := ⟨RX0, TX0, 9, "YawnKeys$College", rfl, by decide, bw_84, ⟨wsIn_0, Or.inl rfl⟩, fun x _ => ⟨.int, rfl, by decide +kernel, rfl, rfl⟩, tyX0, tyX0_ok, nmX0⟩
theorem fo_0_43_0 : FieldOK RX0 43 0 0 0 := ⟨RX0, TX0, 9, "YawnKeys$College", rfl, by decide, bw_86, ⟨wsIn_0, Or.inr bw_87⟩, fun x hx => hx.elim, tyX0, tyX0_ok, nmX0⟩
theorem fo_0_59_0 : FieldOK RX0 59 0 1 0 := ⟨RX0, TX0, 9, "YawnKeys$College", rfl, by decide, bw_92, ⟨wsIn_0, Or.inr bw_90⟩, fun x hx => hx.elim, tyX0, tyX0_ok, nmX0⟩
theorem fo_0_80_0 : FieldOK RX0 80 0 2 1 := ⟨RX0, TX0, 9, "YawnKeys$College", rfl, by decide, bw_97, ⟨wsIn_0, Or.inr bw_96⟩, fun x _ => ⟨.int, rfl, by decide +kernel, rfl, rfl⟩, tyX0, tyX0_ok, nmX0⟩
theorem fo_0_96_0 : FieldOK RX0 96 0 3 1 := ⟨RX0, TX0, 9, "YawnKeys$College", rfl, by decide, bw_102, ⟨wsIn_0, Or.inr bw_100⟩, fun x _ => ⟨.int, rfl, by decide +kernel, rfl, rfl⟩, tyX0, tyX0_ok, nmX0⟩
theorem fo_0_106_0 : FieldOK RX0 106 0 4 1 := ⟨RX0, TX0, 9, "YawnKeys$College", rfl, by decide, bw_106, ⟨wsIn_0, Or.inr bw_105⟩, fun x _ => ⟨.int, rfl, by decide +kernel, rfl, rfl⟩, tyX0, tyX0_ok, nmX0⟩
def fX0 : List ((Nat × Nat) × Nat × Nat) := [((9, 0), 5, 0), ((15, 0), 6, 1), ((19, 0), 7, 1), ((22, 0), 8, 1), ((43, 0), 0, 0), ((59, 0), 1, 0), ((80, 0), 2, 1), ((96, 0), 3, 1), ((106, 0), 4, 1)]
theorem fX0_ok : ∀ q ∈ fX0, FieldOK RX0 q.1.1 q.1.2 q.2.1 q.2.2 := all_cons fo_0_9_0 (all_cons fo_0_15_0 (all_cons fo_0_19_0 (all_cons fo_0_22_0 (all_cons fo_0_43_0 (all_cons fo_0_59_0 (all_cons fo_0_80_0 (all_cons fo_0_96_0 (all_cons fo_0_106_0 (all_nil)))))))))
theorem fl_0_9_0 : fT fX0 9 0 = some (5, 0) := by decide +kernel
theorem fl_0_15_0 : fT fX0 15 0 = some (6, 1) := by decide +kernel
theorem fl_0_19_0 : fT fX0 19 0 = some (7, 1) := by decide +kernel
theorem fl_0_22_0 : fT fX0 22 0 = some (8, 1) := by decide +kernel
theorem fl_0_43_0 : fT fX0 43 0 = some (0, 0) := by decide +kernel
theorem fl_0_59_0 : fT fX0 59 0 = some (1, 0) := by decide +kernel
theorem fl_0_80_0 : fT fX0 80 0 = some (2, 1) := by decide +kernel
theorem fl_0_96_0 : fT fX0 96 0 = some (3, 1) := by decide +kernel
theorem fl_0_106_0 : fT fX0 106 0 = some (4, 1) := by decide +kernel
def kX0 : List (Nat × (Int32 ⊕ Int64)) := [(109, .inr (1103515245 : Int64)), (111, .inr (12345 : Int64)), (113, .inr (2147483647 : Int64)), (115, .inl (65536 : Int32))]
theorem kX0_ok : ∀ q ∈ kX0, conOK RX0 q := all_cons bw_505 (all_cons bw_506 (all_cons bw_507 (all_cons bw_508 (all_nil))))
theorem cl_0_109 : cT kX0 109 = some (.inr (1103515245 : Int64)) := by decide +kernel
theorem cl_0_111 : cT kX0 111 = some (.inr (12345 : Int64)) := by decide +kernel
theorem cl_0_113 : cT kX0 113 = some (.inr (2147483647 : Int64)) := by decide +kernel
theorem cl_0_115 : cT kX0 115 = some (.inl (65536 : Int32)) := by decide +kernel
theorem fo_1_9_0 : FieldOK RX1 9 0 0 0 := ⟨RX0, TX0, 9, "YawnKeys$Moment", rfl, by decide, bw_85, ⟨wsIn_0, Or.inl rfl⟩, fun x hx => hx.elim, tyX0, tyX0_ok, nmX0⟩
theorem fo_1_9_1 : FieldOK RX1 9 1 0 0 := ⟨RX1, TX1, 5, "YawnKeys$Moment", rfl, by decide, bw_85, ⟨wsIn_1, Or.inl rfl⟩, fun x hx => hx.elim, tyX1, tyX1_ok, nmX1⟩
theorem fo_1_15_0 : FieldOK RX1 15 0 1 0 := ⟨RX0, TX0, 9, "YawnKeys$Moment", rfl, by decide, bw_88, ⟨wsIn_0, Or.inl rfl⟩, fun x hx => hx.elim, tyX0, tyX0_ok, nmX0⟩
theorem fo_1_15_1 : FieldOK RX1 15 1 1 0 := ⟨RX1, TX1, 5, "YawnKeys$Moment", rfl, by decide, bw_88, ⟨wsIn_1, Or.inl rfl⟩, fun x hx => hx.elim, tyX1, tyX1_ok, nmX1⟩
theorem fo_1_18_0 : FieldOK RX1 18 0 2 1 := ⟨RX0, TX0, 9, "YawnKeys$Moment", rfl, by decide, bw_94, ⟨wsIn_0, Or.inl rfl⟩, fun x _ => ⟨.int, rfl, by decide +kernel, rfl, rfl⟩, tyX0, tyX0_ok, nmX0⟩
theorem fo_1_18_1 : FieldOK RX1 18 1 2 1 := ⟨RX1, TX1, 5, "YawnKeys$Moment", rfl, by decide, bw_94, ⟨wsIn_1, Or.inl rfl⟩, fun x _ => ⟨.int, rfl, by decide +kernel, rfl, rfl⟩, tyX1, tyX1_ok, nmX1⟩
theorem fo_1_22_0 : FieldOK RX1 22 0 3 1 := ⟨RX0, TX0, 9, "YawnKeys$Moment", rfl, by decide, bw_98, ⟨wsIn_0, Or.inl rfl⟩, fun x _ => ⟨.int, rfl, by decide +kernel, rfl, rfl⟩, tyX0, tyX0_ok, nmX0⟩
theorem fo_1_22_1 : FieldOK RX1 22 1 3 1 := ⟨RX1, TX1, 5, "YawnKeys$Moment", rfl, by decide, bw_98, ⟨wsIn_1, Or.inl rfl⟩, fun x _ => ⟨.int, rfl, by decide +kernel, rfl, rfl⟩, tyX1, tyX1_ok, nmX1⟩
theorem fo_1_25_0 : FieldOK RX1 25 0 4 1 := ⟨RX0, TX0, 9, "YawnKeys$Moment", rfl, by decide, bw_103, ⟨wsIn_0, Or.inl rfl⟩, fun x _ => ⟨.int, rfl, by decide +kernel, rfl, rfl⟩, tyX0, tyX0_ok, nmX0⟩
theorem fo_1_25_1 : FieldOK RX1 25 1 4 1 := ⟨RX1, TX1, 5, "YawnKeys$Moment", rfl, by decide, bw_103, ⟨wsIn_1, Or.inl rfl⟩, fun x _ => ⟨.int, rfl, by decide +kernel, rfl, rfl⟩, tyX1, tyX1_ok, nmX1⟩
def fX1 : List ((Nat × Nat) × Nat × Nat) := [((9, 0), 0, 0), ((9, 1), 0, 0), ((15, 0), 1, 0), ((15, 1), 1, 0), ((18, 0), 2, 1), ((18, 1), 2, 1), ((22, 0), 3, 1), ((22, 1), 3, 1), ((25, 0), 4, 1), ((25, 1), 4, 1)]
theorem fX1_ok : ∀ q ∈ fX1, FieldOK RX1 q.1.1 q.1.2 q.2.1 q.2.2 := all_cons fo_1_9_0 (all_cons fo_1_9_1 (all_cons fo_1_15_0 (all_cons fo_1_15_1 (all_cons fo_1_18_0 (all_cons fo_1_18_1 (all_cons fo_1_22_0 (all_cons fo_1_22_1 (all_cons fo_1_25_0 (all_cons fo_1_25_1 (all_nil))))))))))
theorem fl_1_9_0 : fT fX1 9 0 = some (0, 0) := by decide +kernel
theorem fl_1_9_1 : fT fX1 9 1 = some (0, 0) := by decide +kernel
theorem fl_1_15_0 : fT fX1 15 0 = some (1, 0) := by decide +kernel
theorem fl_1_15_1 : fT fX1 15 1 = some (1, 0) := by decide +kernel
theorem fl_1_18_0 : fT fX1 18 0 = some (2, 1) := by decide +kernel
theorem fl_1_18_1 : fT fX1 18 1 = some (2, 1) := by decide +kernel
theorem fl_1_22_0 : fT fX1 22 0 = some (3, 1) := by decide +kernel
theorem fl_1_22_1 : fT fX1 22 1 = some (3, 1) := by decide +kernel
theorem fl_1_25_0 : fT fX1 25 0 = some (4, 1) := by decide +kernel
theorem fl_1_25_1 : fT fX1 25 1 = some (4, 1) := by decide +kernel
def kX1 : List (Nat × (Int32 ⊕ Int64)) := []
theorem kX1_ok : ∀ q ∈ kX1, conOK RX1 q := all_nil
theorem fo_2_11_2 : FieldOK RX2 11 2 0 0 := ⟨RX2, TX2, 2, "YawnKeys$Past", rfl, by decide, bw_143, ⟨wsIn_2, Or.inl rfl⟩, fun x hx => hx.elim, tyX2, tyX2_ok, nmX2⟩
theorem fo_2_17_2 : FieldOK RX2 17 2 1 1 := ⟨RX2, TX2, 2, "YawnKeys$Past", rfl, by decide, bw_144, ⟨wsIn_2, Or.inl rfl⟩, fun x _ => ⟨.int, rfl, by decide +kernel, rfl, rfl⟩, tyX2, tyX2_ok, nmX2⟩
def fX2 : List ((Nat × Nat) × Nat × Nat) := [((11, 2), 0, 0), ((17, 2), 1, 1)]
theorem fX2_ok : ∀ q ∈ fX2, FieldOK RX2 q.1.1 q.1.2 q.2.1 q.2.2 := all_cons fo_2_11_2 (all_cons fo_2_17_2 (all_nil))
theorem fl_2_11_2 : fT fX2 11 2 = some (0, 0) := by decide +kernel
theorem fl_2_17_2 : fT fX2 17 2 = some (1, 1) := by decide +kernel
def kX2 : List (Nat × (Int32 ⊕ Int64)) := []
theorem kX2_ok : ∀ q ∈ kX2, conOK RX2 q := all_nil
theorem fo_3_22_0 : FieldOK RX3 22 0 6 1 := ⟨RX0, TX0, 9, "YawnKeys$College", rfl, by decide, bw_78, ⟨wsIn_0, Or.inl rfl⟩, fun x _ => ⟨.int, rfl, by decide +kernel, rfl, rfl⟩, tyX0, tyX0_ok, nmX0⟩
theorem fo_3_31_0 : FieldOK RX3 31 0 1 0 := ⟨RX0, TX0, 9, "YawnKeys$College", rfl, by decide, bw_89, ⟨wsIn_0, Or.inr bw_90⟩, fun x hx => hx.elim, tyX0, tyX0_ok, nmX0⟩
theorem fo_3_40_0 : FieldOK RX3 40 0 3 1 := ⟨RX0, TX0, 9, "YawnKeys$College", rfl, by decide, bw_99, ⟨wsIn_0, Or.inr bw_100⟩, fun x _ => ⟨.int, rfl, by decide +kernel, rfl, rfl⟩, tyX0, tyX0_ok, nmX0⟩
theorem fo_3_9_3 : FieldOK RX3 9 3 0 0 := ⟨RX3, TX3, 3, "YawnKeys$Plan", rfl, by decide, bw_174, ⟨wsIn_3, Or.inl rfl⟩, fun x hx => hx.elim, tyX3, tyX3_ok, nmX3⟩
theorem fo_3_15_3 : FieldOK RX3 15 3 1 1 := ⟨RX3, TX3, 3, "YawnKeys$Plan", rfl, by decide, bw_176, ⟨wsIn_3, Or.inl rfl⟩, fun x _ => ⟨.int, rfl, by decide +kernel, rfl, rfl⟩, tyX3, tyX3_ok, nmX3⟩
theorem fo_3_19_3 : FieldOK RX3 19 3 2 1 := ⟨RX3, TX3, 3, "YawnKeys$Plan", rfl, by decide, bw_178, ⟨wsIn_3, Or.inl rfl⟩, fun x _ => ⟨.int, rfl, by decide +kernel, rfl, rfl⟩, tyX3, tyX3_ok, nmX3⟩
def fX3 : List ((Nat × Nat) × Nat × Nat) := [((22, 0), 6, 1), ((31, 0), 1, 0), ((40, 0), 3, 1), ((9, 3), 0, 0), ((15, 3), 1, 1), ((19, 3), 2, 1)]
theorem fX3_ok : ∀ q ∈ fX3, FieldOK RX3 q.1.1 q.1.2 q.2.1 q.2.2 := all_cons fo_3_22_0 (all_cons fo_3_31_0 (all_cons fo_3_40_0 (all_cons fo_3_9_3 (all_cons fo_3_15_3 (all_cons fo_3_19_3 (all_nil))))))
theorem fl_3_22_0 : fT fX3 22 0 = some (6, 1) := by decide +kernel
theorem fl_3_31_0 : fT fX3 31 0 = some (1, 0) := by decide +kernel
theorem fl_3_40_0 : fT fX3 40 0 = some (3, 1) := by decide +kernel
theorem fl_3_9_3 : fT fX3 9 3 = some (0, 0) := by decide +kernel
theorem fl_3_15_3 : fT fX3 15 3 = some (1, 1) := by decide +kernel
theorem fl_3_19_3 : fT fX3 19 3 = some (2, 1) := by decide +kernel
def kX3 : List (Nat × (Int32 ⊕ Int64)) := []
theorem kX3_ok : ∀ q ∈ kX3, conOK RX3 q := all_nil
theorem fo_4_9_4 : FieldOK RX4 9 4 0 0 := ⟨RX4, TX4, 3, "YawnKeys$Sheet", rfl, by decide, bw_194, ⟨wsIn_4, Or.inl rfl⟩, fun x hx => hx.elim, tyX4, tyX4_ok, nmX4⟩
theorem fo_4_15_4 : FieldOK RX4 15 4 1 1 := ⟨RX4, TX4, 3, "YawnKeys$Sheet", rfl, by decide, bw_196, ⟨wsIn_4, Or.inl rfl⟩, fun x _ => ⟨.int, rfl, by decide +kernel, rfl, rfl⟩, tyX4, tyX4_ok, nmX4⟩
theorem fo_4_19_4 : FieldOK RX4 19 4 2 1 := ⟨RX4, TX4, 3, "YawnKeys$Sheet", rfl, by decide, bw_198, ⟨wsIn_4, Or.inl rfl⟩, fun x _ => ⟨.int, rfl, by decide +kernel, rfl, rfl⟩, tyX4, tyX4_ok, nmX4⟩
def fX4 : List ((Nat × Nat) × Nat × Nat) := [((9, 4), 0, 0), ((15, 4), 1, 1), ((19, 4), 2, 1)]
theorem fX4_ok : ∀ q ∈ fX4, FieldOK RX4 q.1.1 q.1.2 q.2.1 q.2.2 := all_cons fo_4_9_4 (all_cons fo_4_15_4 (all_cons fo_4_19_4 (all_nil)))
theorem fl_4_9_4 : fT fX4 9 4 = some (0, 0) := by decide +kernel
theorem fl_4_15_4 : fT fX4 15 4 = some (1, 1) := by decide +kernel
theorem fl_4_19_4 : fT fX4 19 4 = some (2, 1) := by decide +kernel
def kX4 : List (Nat × (Int32 ⊕ Int64)) := []
theorem kX4_ok : ∀ q ∈ kX4, conOK RX4 q := all_nil
theorem fo_5_52_0 : FieldOK RX5 52 0 6 1 := ⟨RX0, TX0, 9, "YawnKeys$College", rfl, by decide, bw_80, ⟨wsIn_0, Or.inl rfl⟩, fun x _ => ⟨.int, rfl, by decide +kernel, rfl, rfl⟩, tyX0, tyX0_ok, nmX0⟩
theorem fo_5_47_0 : FieldOK RX5 47 0 7 1 := ⟨RX0, TX0, 9, "YawnKeys$College", rfl, by decide, bw_83, ⟨wsIn_0, Or.inl rfl⟩, fun x _ => ⟨.int, rfl, by decide +kernel, rfl, rfl⟩, tyX0, tyX0_ok, nmX0⟩
theorem fo_5_77_0 : FieldOK RX5 77 0 1 0 := ⟨RX0, TX0, 9, "YawnKeys$College", rfl, by decide, bw_93, ⟨wsIn_0, Or.inr bw_90⟩, fun x hx => hx.elim, tyX0, tyX0_ok, nmX0⟩
theorem fo_5_9_5 : FieldOK RX5 9 5 0 0 := ⟨RX5, TX5, 3, "YawnKeys$Tape", rfl, by decide, bw_157, ⟨wsIn_5, Or.inl rfl⟩, fun x hx => hx.elim, tyX5, tyX5_ok, nmX5⟩
theorem fo_5_15_5 : FieldOK RX5 15 5 1 1 := ⟨RX5, TX5, 3, "YawnKeys$Tape", rfl, by decide, bw_158, ⟨wsIn_5, Or.inl rfl⟩, fun x _ => ⟨.int, rfl, by decide +kernel, rfl, rfl⟩, tyX5, tyX5_ok, nmX5⟩
theorem fo_5_19_5 : FieldOK RX5 19 5 2 1 := ⟨RX5, TX5, 3, "YawnKeys$Tape", rfl, by decide, bw_160, ⟨wsIn_5, Or.inl rfl⟩, fun x _ => ⟨.int, rfl, by decide +kernel, rfl, rfl⟩, tyX5, tyX5_ok, nmX5⟩
def fX5 : List ((Nat × Nat) × Nat × Nat) := [((52, 0), 6, 1), ((47, 0), 7, 1), ((77, 0), 1, 0), ((9, 5), 0, 0), ((15, 5), 1, 1), ((19, 5), 2, 1)]
theorem fX5_ok : ∀ q ∈ fX5, FieldOK RX5 q.1.1 q.1.2 q.2.1 q.2.2 := all_cons fo_5_52_0 (all_cons fo_5_47_0 (all_cons fo_5_77_0 (all_cons fo_5_9_5 (all_cons fo_5_15_5 (all_cons fo_5_19_5 (all_nil))))))
theorem fl_5_52_0 : fT fX5 52 0 = some (6, 1) := by decide +kernel
theorem fl_5_47_0 : fT fX5 47 0 = some (7, 1) := by decide +kernel
theorem fl_5_77_0 : fT fX5 77 0 = some (1, 0) := by decide +kernel
theorem fl_5_9_5 : fT fX5 9 5 = some (0, 0) := by decide +kernel
theorem fl_5_15_5 : fT fX5 15 5 = some (1, 1) := by decide +kernel
theorem fl_5_19_5 : fT fX5 19 5 = some (2, 1) := by decide +kernel
def kX5 : List (Nat × (Int32 ⊕ Int64)) := []
theorem kX5_ok : ∀ q ∈ kX5, conOK RX5 q := all_nil
theorem fo_6_85_0 : FieldOK RX6 85 0 5 0 := ⟨RX0, TX0, 9, "YawnKeys$College", rfl, by decide, bw_76, ⟨wsIn_0, Or.inl rfl⟩, fun x hx => hx.elim, tyX0, tyX0_ok, nmX0⟩
theorem fo_6_61_0 : FieldOK RX6 61 0 6 1 := ⟨RX0, TX0, 9, "YawnKeys$College", rfl, by decide, bw_79, ⟨wsIn_0, Or.inl rfl⟩, fun x _ => ⟨.int, rfl, by decide +kernel, rfl, rfl⟩, tyX0, tyX0_ok, nmX0⟩
theorem fo_6_72_0 : FieldOK RX6 72 0 7 1 := ⟨RX0, TX0, 9, "YawnKeys$College", rfl, by decide, bw_82, ⟨wsIn_0, Or.inl rfl⟩, fun x _ => ⟨.int, rfl, by decide +kernel, rfl, rfl⟩, tyX0, tyX0_ok, nmX0⟩
theorem fo_6_96_0 : FieldOK RX6 96 0 1 0 := ⟨RX0, TX0, 9, "YawnKeys$College", rfl, by decide, bw_91, ⟨wsIn_0, Or.inr bw_90⟩, fun x hx => hx.elim, tyX0, tyX0_ok, nmX0⟩
theorem fo_6_115_0 : FieldOK RX6 115 0 2 1 := ⟨RX0, TX0, 9, "YawnKeys$College", rfl, by decide, bw_95, ⟨wsIn_0, Or.inr bw_96⟩, fun x _ => ⟨.int, rfl, by decide +kernel, rfl, rfl⟩, tyX0, tyX0_ok, nmX0⟩
theorem fo_6_118_0 : FieldOK RX6 118 0 3 1 := ⟨RX0, TX0, 9, "YawnKeys$College", rfl, by decide, bw_101, ⟨wsIn_0, Or.inr bw_100⟩, fun x _ => ⟨.int, rfl, by decide +kernel, rfl, rfl⟩, tyX0, tyX0_ok, nmX0⟩
theorem fo_6_121_0 : FieldOK RX6 121 0 4 1 := ⟨RX0, TX0, 9, "YawnKeys$College", rfl, by decide, bw_104, ⟨wsIn_0, Or.inr bw_105⟩, fun x _ => ⟨.int, rfl, by decide +kernel, rfl, rfl⟩, tyX0, tyX0_ok, nmX0⟩
theorem fo_6_138_2 : FieldOK RX6 138 2 1 1 := ⟨RX2, TX2, 2, "YawnKeys$Past", rfl, by decide, bw_145, ⟨wsIn_2, Or.inl rfl⟩, fun x _ => ⟨.int, rfl, by decide +kernel, rfl, rfl⟩, tyX2, tyX2_ok, nmX2⟩
theorem fo_6_105_5 : FieldOK RX6 105 5 1 1 := ⟨RX5, TX5, 3, "YawnKeys$Tape", rfl, by decide, bw_159, ⟨wsIn_5, Or.inl rfl⟩, fun x _ => ⟨.int, rfl, by decide +kernel, rfl, rfl⟩, tyX5, tyX5_ok, nmX5⟩
theorem fo_6_180_3 : FieldOK RX6 180 3 0 0 := ⟨RX3, TX3, 3, "YawnKeys$Plan", rfl, by decide, bw_175, ⟨wsIn_3, Or.inl rfl⟩, fun x hx => hx.elim, tyX3, tyX3_ok, nmX3⟩
theorem fo_6_176_3 : FieldOK RX6 176 3 1 1 := ⟨RX3, TX3, 3, "YawnKeys$Plan", rfl, by decide, bw_177, ⟨wsIn_3, Or.inl rfl⟩, fun x _ => ⟨.int, rfl, by decide +kernel, rfl, rfl⟩, tyX3, tyX3_ok, nmX3⟩
theorem fo_6_177_3 : FieldOK RX6 177 3 2 1 := ⟨RX3, TX3, 3, "YawnKeys$Plan", rfl, by decide, bw_179, ⟨wsIn_3, Or.inl rfl⟩, fun x _ => ⟨.int, rfl, by decide +kernel, rfl, rfl⟩, tyX3, tyX3_ok, nmX3⟩
theorem fo_6_230_4 : FieldOK RX6 230 4 0 0 := ⟨RX4, TX4, 3, "YawnKeys$Sheet", rfl, by decide, bw_195, ⟨wsIn_4, Or.inl rfl⟩, fun x hx => hx.elim, tyX4, tyX4_ok, nmX4⟩
theorem fo_6_223_4 : FieldOK RX6 223 4 1 1 := ⟨RX4, TX4, 3, "YawnKeys$Sheet", rfl, by decide, bw_197, ⟨wsIn_4, Or.inl rfl⟩, fun x _ => ⟨.int, rfl, by decide +kernel, rfl, rfl⟩, tyX4, tyX4_ok, nmX4⟩
theorem fo_6_10_6 : FieldOK RX6 10 6 0 0 := ⟨RX6, TX6, 9, "YawnKeys", rfl, by decide, bw_207, ⟨wsIn_6, Or.inl rfl⟩, fun x hx => hx.elim, tyX6, tyX6_ok, nmX6⟩
theorem fo_6_16_6 : FieldOK RX6 16 6 1 0 := ⟨RX6, TX6, 9, "YawnKeys", rfl, by decide, bw_208, ⟨wsIn_6, Or.inl rfl⟩, fun x hx => hx.elim, tyX6, tyX6_ok, nmX6⟩
theorem fo_6_22_6 : FieldOK RX6 22 6 2 0 := ⟨RX6, TX6, 9, "YawnKeys", rfl, by decide, bw_209, ⟨wsIn_6, Or.inl rfl⟩, fun x hx => hx.elim, tyX6, tyX6_ok, nmX6⟩
theorem fo_6_26_6 : FieldOK RX6 26 6 3 0 := ⟨RX6, TX6, 9, "YawnKeys", rfl, by decide, bw_210, ⟨wsIn_6, Or.inl rfl⟩, fun x hx => hx.elim, tyX6, tyX6_ok, nmX6⟩
theorem fo_6_29_6 : FieldOK RX6 29 6 4 0 := ⟨RX6, TX6, 9, "YawnKeys", rfl, by decide, bw_211, ⟨wsIn_6, Or.inl rfl⟩, fun x hx => hx.elim, tyX6, tyX6_ok, nmX6⟩
theorem fo_6_32_6 : FieldOK RX6 32 6 5 2 := ⟨RX6, TX6, 9, "YawnKeys", rfl, by decide, bw_212, ⟨wsIn_6, Or.inl rfl⟩, fun x hx => ⟨.boolean, rfl, by decide +kernel, by rcases hx with rfl | rfl <;> rfl, by rcases hx with rfl | rfl <;> rfl⟩, tyX6, tyX6_ok, nmX6⟩
theorem fo_6_39_6 : FieldOK RX6 39 6 6 0 := ⟨RX6, TX6, 9, "YawnKeys", rfl, by decide, bw_213, ⟨wsIn_6, Or.inl rfl⟩, fun x hx => hx.elim, tyX6, tyX6_ok, nmX6⟩
theorem fo_6_46_6 : FieldOK RX6 46 6 7 0 := ⟨RX6, TX6, 9, "YawnKeys", rfl, by decide, bw_214, ⟨wsIn_6, Or.inl rfl⟩, fun x hx => hx.elim, tyX6, tyX6_ok, nmX6⟩
theorem fo_6_53_6 : FieldOK RX6 53 6 8 0 := ⟨RX6, TX6, 9, "YawnKeys", rfl, by decide, bw_215, ⟨wsIn_6, Or.inl rfl⟩, fun x hx => hx.elim, tyX6, tyX6_ok, nmX6⟩
def fX6 : List ((Nat × Nat) × Nat × Nat) := [((85, 0), 5, 0), ((61, 0), 6, 1), ((72, 0), 7, 1), ((96, 0), 1, 0), ((115, 0), 2, 1), ((118, 0), 3, 1), ((121, 0), 4, 1), ((138, 2), 1, 1), ((105, 5), 1, 1), ((180, 3), 0, 0), ((176, 3), 1, 1), ((177, 3), 2, 1), ((230, 4), 0, 0), ((223, 4), 1, 1), ((10, 6), 0, 0), ((16, 6), 1, 0), ((22, 6), 2, 0), ((26, 6), 3, 0), ((29, 6), 4, 0), ((32, 6), 5, 2), ((39, 6), 6, 0), ((46, 6), 7, 0), ((53, 6), 8, 0)]
theorem fX6_ok : ∀ q ∈ fX6, FieldOK RX6 q.1.1 q.1.2 q.2.1 q.2.2 := all_cons fo_6_85_0 (all_cons fo_6_61_0 (all_cons fo_6_72_0 (all_cons fo_6_96_0 (all_cons fo_6_115_0 (all_cons fo_6_118_0 (all_cons fo_6_121_0 (all_cons fo_6_138_2 (all_cons fo_6_105_5 (all_cons fo_6_180_3 (all_cons fo_6_176_3 (all_cons fo_6_177_3 (all_cons fo_6_230_4 (all_cons fo_6_223_4 (all_cons fo_6_10_6 (all_cons fo_6_16_6 (all_cons fo_6_22_6 (all_cons fo_6_26_6 (all_cons fo_6_29_6 (all_cons fo_6_32_6 (all_cons fo_6_39_6 (all_cons fo_6_46_6 (all_cons fo_6_53_6 (all_nil)))))))))))))))))))))))
theorem fl_6_85_0 : fT fX6 85 0 = some (5, 0) := by decide +kernel
theorem fl_6_61_0 : fT fX6 61 0 = some (6, 1) := by decide +kernel
theorem fl_6_72_0 : fT fX6 72 0 = some (7, 1) := by decide +kernel
theorem fl_6_96_0 : fT fX6 96 0 = some (1, 0) := by decide +kernel
theorem fl_6_115_0 : fT fX6 115 0 = some (2, 1) := by decide +kernel
theorem fl_6_118_0 : fT fX6 118 0 = some (3, 1) := by decide +kernel
theorem fl_6_121_0 : fT fX6 121 0 = some (4, 1) := by decide +kernel
theorem fl_6_138_2 : fT fX6 138 2 = some (1, 1) := by decide +kernel
theorem fl_6_105_5 : fT fX6 105 5 = some (1, 1) := by decide +kernel
theorem fl_6_180_3 : fT fX6 180 3 = some (0, 0) := by decide +kernel
theorem fl_6_176_3 : fT fX6 176 3 = some (1, 1) := by decide +kernel
theorem fl_6_177_3 : fT fX6 177 3 = some (2, 1) := by decide +kernel
theorem fl_6_230_4 : fT fX6 230 4 = some (0, 0) := by decide +kernel
theorem fl_6_223_4 : fT fX6 223 4 = some (1, 1) := by decide +kernel
theorem fl_6_10_6 : fT fX6 10 6 = some (0, 0) := by decide +kernel
theorem fl_6_16_6 : fT fX6 16 6 = some (1, 0) := by decide +kernel
theorem fl_6_22_6 : fT fX6 22 6 = some (2, 0) := by decide +kernel
theorem fl_6_26_6 : fT fX6 26 6 = some (3, 0) := by decide +kernel
theorem fl_6_29_6 : fT fX6 29 6 = some (4, 0) := by decide +kernel
theorem fl_6_32_6 : fT fX6 32 6 = some (5, 2) := by decide +kernel
theorem fl_6_39_6 : fT fX6 39 6 = some (6, 0) := by decide +kernel
theorem fl_6_46_6 : fT fX6 46 6 = some (7, 0) := by decide +kernel
theorem fl_6_53_6 : fT fX6 53 6 = some (8, 0) := by decide +kernel
def kX6 : List (Nat × (Int32 ⊕ Int64)) := []
theorem kX6_ok : ∀ q ∈ kX6, conOK RX6 q := all_nil
theorem fo_7_60_7 : FieldOK RX7 60 7 0 1 := ⟨RX7, TX7, 26, "YawnKeysModel", rfl, by decide, bw_711, ⟨wsIn_7, Or.inl rfl⟩, fun x _ => ⟨.int, rfl, by decide +kernel, rfl, rfl⟩, tyX7, tyX7_ok, nmX7⟩
theorem fo_7_7_7 : FieldOK RX7 7 7 1 1 := ⟨RX7, TX7, 26, "YawnKeysModel", rfl, by decide, bw_712, ⟨wsIn_7, Or.inl rfl⟩, fun x _ => ⟨.int, rfl, by decide +kernel, rfl, rfl⟩, tyX7, tyX7_ok, nmX7⟩
theorem fo_7_13_7 : FieldOK RX7 13 7 2 0 := ⟨RX7, TX7, 26, "YawnKeysModel", rfl, by decide, bw_713, ⟨wsIn_7, Or.inl rfl⟩, fun x hx => hx.elim, tyX7, tyX7_ok, nmX7⟩
theorem fo_7_17_7 : FieldOK RX7 17 7 3 0 := ⟨RX7, TX7, 26, "YawnKeysModel", rfl, by decide, bw_714, ⟨wsIn_7, Or.inl rfl⟩, fun x hx => hx.elim, tyX7, tyX7_ok, nmX7⟩
theorem fo_7_20_7 : FieldOK RX7 20 7 4 0 := ⟨RX7, TX7, 26, "YawnKeysModel", rfl, by decide, bw_715, ⟨wsIn_7, Or.inl rfl⟩, fun x hx => hx.elim, tyX7, tyX7_ok, nmX7⟩
theorem fo_7_23_7 : FieldOK RX7 23 7 5 0 := ⟨RX7, TX7, 26, "YawnKeysModel", rfl, by decide, bw_716, ⟨wsIn_7, Or.inl rfl⟩, fun x hx => hx.elim, tyX7, tyX7_ok, nmX7⟩
theorem fo_7_104_7 : FieldOK RX7 104 7 6 1 := ⟨RX7, TX7, 26, "YawnKeysModel", rfl, by decide, bw_717, ⟨wsIn_7, Or.inl rfl⟩, fun x _ => ⟨.int, rfl, by decide +kernel, rfl, rfl⟩, tyX7, tyX7_ok, nmX7⟩
theorem fo_7_207_7 : FieldOK RX7 207 7 7 2 := ⟨RX7, TX7, 26, "YawnKeysModel", rfl, by decide, bw_718, ⟨wsIn_7, Or.inl rfl⟩, fun x hx => ⟨.boolean, rfl, by decide +kernel, by rcases hx with rfl | rfl <;> rfl, by rcases hx with rfl | rfl <;> rfl⟩, tyX7, tyX7_ok, nmX7⟩
theorem fo_7_26_7 : FieldOK RX7 26 7 8 0 := ⟨RX7, TX7, 26, "YawnKeysModel", rfl, by decide, bw_719, ⟨wsIn_7, Or.inl rfl⟩, fun x hx => hx.elim, tyX7, tyX7_ok, nmX7⟩
theorem fo_7_29_7 : FieldOK RX7 29 7 9 0 := ⟨RX7, TX7, 26, "YawnKeysModel", rfl, by decide, bw_720, ⟨wsIn_7, Or.inl rfl⟩, fun x hx => hx.elim, tyX7, tyX7_ok, nmX7⟩
theorem fo_7_32_7 : FieldOK RX7 32 7 10 0 := ⟨RX7, TX7, 26, "YawnKeysModel", rfl, by decide, bw_721, ⟨wsIn_7, Or.inl rfl⟩, fun x hx => hx.elim, tyX7, tyX7_ok, nmX7⟩
theorem fo_7_35_7 : FieldOK RX7 35 7 11 0 := ⟨RX7, TX7, 26, "YawnKeysModel", rfl, by decide, bw_722, ⟨wsIn_7, Or.inl rfl⟩, fun x hx => hx.elim, tyX7, tyX7_ok, nmX7⟩
theorem fo_7_39_7 : FieldOK RX7 39 7 12 0 := ⟨RX7, TX7, 26, "YawnKeysModel", rfl, by decide, bw_723, ⟨wsIn_7, Or.inl rfl⟩, fun x hx => hx.elim, tyX7, tyX7_ok, nmX7⟩
theorem fo_7_42_7 : FieldOK RX7 42 7 13 0 := ⟨RX7, TX7, 26, "YawnKeysModel", rfl, by decide, bw_724, ⟨wsIn_7, Or.inl rfl⟩, fun x hx => hx.elim, tyX7, tyX7_ok, nmX7⟩
theorem fo_7_129_7 : FieldOK RX7 129 7 14 1 := ⟨RX7, TX7, 26, "YawnKeysModel", rfl, by decide, bw_725, ⟨wsIn_7, Or.inl rfl⟩, fun x _ => ⟨.int, rfl, by decide +kernel, rfl, rfl⟩, tyX7, tyX7_ok, nmX7⟩
theorem fo_7_45_7 : FieldOK RX7 45 7 15 0 := ⟨RX7, TX7, 26, "YawnKeysModel", rfl, by decide, bw_726, ⟨wsIn_7, Or.inl rfl⟩, fun x hx => hx.elim, tyX7, tyX7_ok, nmX7⟩
theorem fo_7_48_7 : FieldOK RX7 48 7 16 1 := ⟨RX7, TX7, 26, "YawnKeysModel", rfl, by decide, bw_727, ⟨wsIn_7, Or.inl rfl⟩, fun x _ => ⟨.int, rfl, by decide +kernel, rfl, rfl⟩, tyX7, tyX7_ok, nmX7⟩
theorem fo_7_69_7 : FieldOK RX7 69 7 17 1 := ⟨RX7, TX7, 26, "YawnKeysModel", rfl, by decide, bw_728, ⟨wsIn_7, Or.inl rfl⟩, fun x _ => ⟨.int, rfl, by decide +kernel, rfl, rfl⟩, tyX7, tyX7_ok, nmX7⟩
theorem fo_7_51_7 : FieldOK RX7 51 7 18 0 := ⟨RX7, TX7, 26, "YawnKeysModel", rfl, by decide, bw_729, ⟨wsIn_7, Or.inl rfl⟩, fun x hx => hx.elim, tyX7, tyX7_ok, nmX7⟩
theorem fo_7_79_7 : FieldOK RX7 79 7 19 1 := ⟨RX7, TX7, 26, "YawnKeysModel", rfl, by decide, bw_730, ⟨wsIn_7, Or.inl rfl⟩, fun x _ => ⟨.int, rfl, by decide +kernel, rfl, rfl⟩, tyX7, tyX7_ok, nmX7⟩
theorem fo_7_132_7 : FieldOK RX7 132 7 20 1 := ⟨RX7, TX7, 26, "YawnKeysModel", rfl, by decide, bw_731, ⟨wsIn_7, Or.inl rfl⟩, fun x _ => ⟨.int, rfl, by decide +kernel, rfl, rfl⟩, tyX7, tyX7_ok, nmX7⟩
theorem fo_7_135_7 : FieldOK RX7 135 7 21 1 := ⟨RX7, TX7, 26, "YawnKeysModel", rfl, by decide, bw_732, ⟨wsIn_7, Or.inl rfl⟩, fun x _ => ⟨.int, rfl, by decide +kernel, rfl, rfl⟩, tyX7, tyX7_ok, nmX7⟩
theorem fo_7_149_7 : FieldOK RX7 149 7 22 1 := ⟨RX7, TX7, 26, "YawnKeysModel", rfl, by decide, bw_733, ⟨wsIn_7, Or.inl rfl⟩, fun x _ => ⟨.int, rfl, by decide +kernel, rfl, rfl⟩, tyX7, tyX7_ok, nmX7⟩
theorem fo_7_155_7 : FieldOK RX7 155 7 23 1 := ⟨RX7, TX7, 26, "YawnKeysModel", rfl, by decide, bw_734, ⟨wsIn_7, Or.inl rfl⟩, fun x _ => ⟨.int, rfl, by decide +kernel, rfl, rfl⟩, tyX7, tyX7_ok, nmX7⟩
theorem fo_7_54_7 : FieldOK RX7 54 7 24 0 := ⟨RX7, TX7, 26, "YawnKeysModel", rfl, by decide, bw_735, ⟨wsIn_7, Or.inl rfl⟩, fun x hx => hx.elim, tyX7, tyX7_ok, nmX7⟩
theorem fo_7_57_7 : FieldOK RX7 57 7 25 0 := ⟨RX7, TX7, 26, "YawnKeysModel", rfl, by decide, bw_736, ⟨wsIn_7, Or.inl rfl⟩, fun x hx => hx.elim, tyX7, tyX7_ok, nmX7⟩
def fX7 : List ((Nat × Nat) × Nat × Nat) := [((60, 7), 0, 1), ((7, 7), 1, 1), ((13, 7), 2, 0), ((17, 7), 3, 0), ((20, 7), 4, 0), ((23, 7), 5, 0), ((104, 7), 6, 1), ((207, 7), 7, 2), ((26, 7), 8, 0), ((29, 7), 9, 0), ((32, 7), 10, 0), ((35, 7), 11, 0), ((39, 7), 12, 0), ((42, 7), 13, 0), ((129, 7), 14, 1), ((45, 7), 15, 0), ((48, 7), 16, 1), ((69, 7), 17, 1), ((51, 7), 18, 0), ((79, 7), 19, 1), ((132, 7), 20, 1), ((135, 7), 21, 1), ((149, 7), 22, 1), ((155, 7), 23, 1), ((54, 7), 24, 0), ((57, 7), 25, 0)]
theorem fX7_ok : ∀ q ∈ fX7, FieldOK RX7 q.1.1 q.1.2 q.2.1 q.2.2 := all_cons fo_7_60_7 (all_cons fo_7_7_7 (all_cons fo_7_13_7 (all_cons fo_7_17_7 (all_cons fo_7_20_7 (all_cons fo_7_23_7 (all_cons fo_7_104_7 (all_cons fo_7_207_7 (all_cons fo_7_26_7 (all_cons fo_7_29_7 (all_cons fo_7_32_7 (all_cons fo_7_35_7 (all_cons fo_7_39_7 (all_cons fo_7_42_7 (all_cons fo_7_129_7 (all_cons fo_7_45_7 (all_cons fo_7_48_7 (all_cons fo_7_69_7 (all_cons fo_7_51_7 (all_cons fo_7_79_7 (all_cons fo_7_132_7 (all_cons fo_7_135_7 (all_cons fo_7_149_7 (all_cons fo_7_155_7 (all_cons fo_7_54_7 (all_cons fo_7_57_7 (all_nil))))))))))))))))))))))))))
theorem fl_7_60_7 : fT fX7 60 7 = some (0, 1) := by decide +kernel
theorem fl_7_7_7 : fT fX7 7 7 = some (1, 1) := by decide +kernel
theorem fl_7_13_7 : fT fX7 13 7 = some (2, 0) := by decide +kernel
theorem fl_7_17_7 : fT fX7 17 7 = some (3, 0) := by decide +kernel
theorem fl_7_20_7 : fT fX7 20 7 = some (4, 0) := by decide +kernel
theorem fl_7_23_7 : fT fX7 23 7 = some (5, 0) := by decide +kernel
theorem fl_7_104_7 : fT fX7 104 7 = some (6, 1) := by decide +kernel
theorem fl_7_207_7 : fT fX7 207 7 = some (7, 2) := by decide +kernel
theorem fl_7_26_7 : fT fX7 26 7 = some (8, 0) := by decide +kernel
theorem fl_7_29_7 : fT fX7 29 7 = some (9, 0) := by decide +kernel
theorem fl_7_32_7 : fT fX7 32 7 = some (10, 0) := by decide +kernel
theorem fl_7_35_7 : fT fX7 35 7 = some (11, 0) := by decide +kernel
theorem fl_7_39_7 : fT fX7 39 7 = some (12, 0) := by decide +kernel
theorem fl_7_42_7 : fT fX7 42 7 = some (13, 0) := by decide +kernel
theorem fl_7_129_7 : fT fX7 129 7 = some (14, 1) := by decide +kernel
theorem fl_7_45_7 : fT fX7 45 7 = some (15, 0) := by decide +kernel
theorem fl_7_48_7 : fT fX7 48 7 = some (16, 1) := by decide +kernel
theorem fl_7_69_7 : fT fX7 69 7 = some (17, 1) := by decide +kernel
theorem fl_7_51_7 : fT fX7 51 7 = some (18, 0) := by decide +kernel
theorem fl_7_79_7 : fT fX7 79 7 = some (19, 1) := by decide +kernel
theorem fl_7_132_7 : fT fX7 132 7 = some (20, 1) := by decide +kernel
theorem fl_7_135_7 : fT fX7 135 7 = some (21, 1) := by decide +kernel
theorem fl_7_149_7 : fT fX7 149 7 = some (22, 1) := by decide +kernel
theorem fl_7_155_7 : fT fX7 155 7 = some (23, 1) := by decide +kernel
theorem fl_7_54_7 : fT fX7 54 7 = some (24, 0) := by decide +kernel
theorem fl_7_57_7 : fT fX7 57 7 = some (25, 0) := by decide +kernel
def kX7 : List (Nat × (Int32 ⊕ Int64)) := [(100, .inr (4 : Int64)), (102, .inr (20 : Int64)), (67, .inr (3 : Int64)), (114, .inr (2 : Int64)), (125, .inr (32 : Int64)), (127, .inr (126 : Int64)), (138, .inr (48 : Int64)), (140, .inr (57 : Int64)), (158, .inr (97 : Int64)), (160, .inr (117 : Int64)), (181, .inr (40 : Int64)), (189, .inr (1103515245 : Int64)), (191, .inr (12345 : Int64)), (193, .inr (2147483647 : Int64)), (195, .inl (65536 : Int32)), (196, .inr (60 : Int64)), (201, .inr (30 : Int64)), (203, .inr (-2 : Int64)), (205, .inr (10 : Int64)), (225, .inr (8 : Int64)), (241, .inr (24 : Int64))]
theorem kX7_ok : ∀ q ∈ kX7, conOK RX7 q := all_cons bw_794 (all_cons bw_798 (all_cons bw_814 (all_cons bw_819 (all_cons bw_856 (all_cons bw_857 (all_cons bw_877 (all_cons bw_878 (all_cons bw_886 (all_cons bw_887 (all_cons bw_908 (all_cons bw_941 (all_cons bw_942 (all_cons bw_943 (all_cons bw_944 (all_cons bw_957 (all_cons bw_986 (all_cons bw_987 (all_cons bw_1000 (all_cons bw_1019 (all_cons bw_1048 (all_nil)))))))))))))))))))))
theorem cl_7_100 : cT kX7 100 = some (.inr (4 : Int64)) := by decide +kernel
theorem cl_7_102 : cT kX7 102 = some (.inr (20 : Int64)) := by decide +kernel
theorem cl_7_67 : cT kX7 67 = some (.inr (3 : Int64)) := by decide +kernel
theorem cl_7_114 : cT kX7 114 = some (.inr (2 : Int64)) := by decide +kernel
theorem cl_7_125 : cT kX7 125 = some (.inr (32 : Int64)) := by decide +kernel
theorem cl_7_127 : cT kX7 127 = some (.inr (126 : Int64)) := by decide +kernel
theorem cl_7_138 : cT kX7 138 = some (.inr (48 : Int64)) := by decide +kernel
theorem cl_7_140 : cT kX7 140 = some (.inr (57 : Int64)) := by decide +kernel
theorem cl_7_158 : cT kX7 158 = some (.inr (97 : Int64)) := by decide +kernel
theorem cl_7_160 : cT kX7 160 = some (.inr (117 : Int64)) := by decide +kernel
theorem cl_7_181 : cT kX7 181 = some (.inr (40 : Int64)) := by decide +kernel
theorem cl_7_189 : cT kX7 189 = some (.inr (1103515245 : Int64)) := by decide +kernel
theorem cl_7_191 : cT kX7 191 = some (.inr (12345 : Int64)) := by decide +kernel
theorem cl_7_193 : cT kX7 193 = some (.inr (2147483647 : Int64)) := by decide +kernel
theorem cl_7_195 : cT kX7 195 = some (.inl (65536 : Int32)) := by decide +kernel
theorem cl_7_196 : cT kX7 196 = some (.inr (60 : Int64)) := by decide +kernel
theorem cl_7_201 : cT kX7 201 = some (.inr (30 : Int64)) := by decide +kernel
theorem cl_7_203 : cT kX7 203 = some (.inr (-2 : Int64)) := by decide +kernel
theorem cl_7_205 : cT kX7 205 = some (.inr (10 : Int64)) := by decide +kernel
theorem cl_7_225 : cT kX7 225 = some (.inr (8 : Int64)) := by decide +kernel
theorem cl_7_241 : cT kX7 241 = some (.inr (24 : Int64)) := by decide +kernel
theorem cl_5_58 : cT kX5 58 = none := by decide +kernel
