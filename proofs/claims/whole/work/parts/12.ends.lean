/-! Calls, ends, and the contract of every method out of a run of the small machine. -/
def zretOk (M pc : Nat) : Bool := match zTab M pc with
  | none => true
  | some i => match i.1 with
    | .ireturn => (decide (zMr M = some .int) && !(zBo M)) || (decide (zMr M = some .boolean) && zBo M)
    | .lreturn => decide (zMr M = some .long)
    | .return_ => decide (zMr M = none)
    | _ => true
theorem zro_of {M B : Nat} {f : Nat → Option zI} (h : ∀ pc : Nat, zTab M pc = bif Nat.blt pc B then f pc else none) (d : ∀ pc : Nat, pc < B → zretOk M pc = true) : ∀ pc : Nat, zretOk M pc = true := by
  intro pc
  by_cases hp : pc < B
  · exact d pc hp
  · unfold zretOk
    rw [h, zblt hp]
    rfl
theorem zro_0 : ∀ pc : Nat, zretOk 0 pc = true := zro_of (B := 33) (f := zc_0) (fun _ => rfl) (by decide +kernel)
theorem zro_1 : ∀ pc : Nat, zretOk 1 pc = true := zro_of (B := 13) (f := zc_1) (fun _ => rfl) (by decide +kernel)
theorem zro_2 : ∀ pc : Nat, zretOk 2 pc = true := zro_of (B := 23) (f := zc_2) (fun _ => rfl) (by decide +kernel)
theorem zro_3 : ∀ pc : Nat, zretOk 3 pc = true := zro_of (B := 25) (f := zc_3) (fun _ => rfl) (by decide +kernel)
theorem zro_4 : ∀ pc : Nat, zretOk 4 pc = true := zro_of (B := 19) (f := zc_4) (fun _ => rfl) (by decide +kernel)
theorem zro_5 : ∀ pc : Nat, zretOk 5 pc = true := zro_of (B := 36) (f := zc_5) (fun _ => rfl) (by decide +kernel)
theorem zro_6 : ∀ pc : Nat, zretOk 6 pc = true := zro_of (B := 35) (f := zc_6) (fun _ => rfl) (by decide +kernel)
theorem zro_7 : ∀ pc : Nat, zretOk 7 pc = true := zro_of (B := 40) (f := zc_7) (fun _ => rfl) (by decide +kernel)
theorem zro_8 : ∀ pc : Nat, zretOk 8 pc = true := zro_of (B := 31) (f := zc_8) (fun _ => rfl) (by decide +kernel)
theorem zro_9 : ∀ pc : Nat, zretOk 9 pc = true := zro_of (B := 30) (f := zc_9) (fun _ => rfl) (by decide +kernel)
theorem zro_10 : ∀ pc : Nat, zretOk 10 pc = true := zro_of (B := 48) (f := zc_10) (fun _ => rfl) (by decide +kernel)
theorem zro_11 : ∀ pc : Nat, zretOk 11 pc = true := zro_of (B := 98) (f := zc_11) (fun _ => rfl) (by decide +kernel)
theorem zro_12 : ∀ pc : Nat, zretOk 12 pc = true := zro_of (B := 13) (f := zc_12) (fun _ => rfl) (by decide +kernel)
theorem zro_13 : ∀ pc : Nat, zretOk 13 pc = true := zro_of (B := 29) (f := zc_13) (fun _ => rfl) (by decide +kernel)
theorem zro_14 : ∀ pc : Nat, zretOk 14 pc = true := zro_of (B := 50) (f := zc_14) (fun _ => rfl) (by decide +kernel)
theorem zro_15 : ∀ pc : Nat, zretOk 15 pc = true := zro_of (B := 15) (f := zc_15) (fun _ => rfl) (by decide +kernel)
theorem zro_16 : ∀ pc : Nat, zretOk 16 pc = true := zro_of (B := 51) (f := zc_16) (fun _ => rfl) (by decide +kernel)
theorem zro_17 : ∀ pc : Nat, zretOk 17 pc = true := zro_of (B := 151) (f := zc_17) (fun _ => rfl) (by decide +kernel)
theorem zro_18 : ∀ pc : Nat, zretOk 18 pc = true := zro_of (B := 97) (f := zc_18) (fun _ => rfl) (by decide +kernel)
theorem zro_19 : ∀ pc : Nat, zretOk 19 pc = true := zro_of (B := 37) (f := zc_19) (fun _ => rfl) (by decide +kernel)
theorem zro_20 : ∀ pc : Nat, zretOk 20 pc = true := zro_of (B := 21) (f := zc_20) (fun _ => rfl) (by decide +kernel)
theorem zro_21 : ∀ pc : Nat, zretOk 21 pc = true := zro_of (B := 20) (f := zc_21) (fun _ => rfl) (by decide +kernel)
theorem zro_22 : ∀ pc : Nat, zretOk 22 pc = true := zro_of (B := 26) (f := zc_22) (fun _ => rfl) (by decide +kernel)
theorem zro_23 : ∀ pc : Nat, zretOk 23 pc = true := zro_of (B := 32) (f := zc_23) (fun _ => rfl) (by decide +kernel)
theorem zro_24 : ∀ pc : Nat, zretOk 24 pc = true := zro_of (B := 86) (f := zc_24) (fun _ => rfl) (by decide +kernel)
theorem zro_25 : ∀ pc : Nat, zretOk 25 pc = true := zro_of (B := 35) (f := zc_25) (fun _ => rfl) (by decide +kernel)
theorem zro_26 : ∀ pc : Nat, zretOk 26 pc = true := zro_of (B := 29) (f := zc_26) (fun _ => rfl) (by decide +kernel)
theorem zro_27 : ∀ pc : Nat, zretOk 27 pc = true := zro_of (B := 27) (f := zc_27) (fun _ => rfl) (by decide +kernel)
theorem zro_28 : ∀ pc : Nat, zretOk 28 pc = true := zro_of (B := 79) (f := zc_28) (fun _ => rfl) (by decide +kernel)
theorem zro_29 : ∀ pc : Nat, zretOk 29 pc = true := zro_of (B := 44) (f := zc_29) (fun _ => rfl) (by decide +kernel)
theorem zro_30 : ∀ pc : Nat, zretOk 30 pc = true := zro_of (B := 39) (f := zc_30) (fun _ => rfl) (by decide +kernel)
theorem zro_31 : ∀ pc : Nat, zretOk 31 pc = true := zro_of (B := 44) (f := zc_31) (fun _ => rfl) (by decide +kernel)
theorem zro_32 : ∀ pc : Nat, zretOk 32 pc = true := zro_of (B := 56) (f := zc_32) (fun _ => rfl) (by decide +kernel)
theorem zro_33 : ∀ pc : Nat, zretOk 33 pc = true := zro_of (B := 48) (f := zc_33) (fun _ => rfl) (by decide +kernel)
theorem zro_34 : ∀ pc : Nat, zretOk 34 pc = true := zro_of (B := 10) (f := zc_34) (fun _ => rfl) (by decide +kernel)
theorem zro_35 : ∀ pc : Nat, zretOk 35 pc = true := zro_of (B := 52) (f := zc_35) (fun _ => rfl) (by decide +kernel)
theorem zro_36 : ∀ pc : Nat, zretOk 36 pc = true := zro_of (B := 45) (f := zc_36) (fun _ => rfl) (by decide +kernel)
theorem zro_37 : ∀ pc : Nat, zretOk 37 pc = true := zro_of (B := 76) (f := zc_37) (fun _ => rfl) (by decide +kernel)
theorem zro_38 : ∀ pc : Nat, zretOk 38 pc = true := zro_of (B := 53) (f := zc_38) (fun _ => rfl) (by decide +kernel)
theorem zro_39 : ∀ pc : Nat, zretOk 39 pc = true := zro_of (B := 119) (f := zc_39) (fun _ => rfl) (by decide +kernel)
theorem zro_40 : ∀ pc : Nat, zretOk 40 pc = true := zro_of (B := 37) (f := zc_40) (fun _ => rfl) (by decide +kernel)
theorem zro_41 : ∀ pc : Nat, zretOk 41 pc = true := zro_of (B := 121) (f := zc_41) (fun _ => rfl) (by decide +kernel)
theorem zro_42 : ∀ pc : Nat, zretOk 42 pc = true := zro_of (B := 64) (f := zc_42) (fun _ => rfl) (by decide +kernel)
theorem zro_43 : ∀ pc : Nat, zretOk 43 pc = true := zro_of (B := 14) (f := zc_43) (fun _ => rfl) (by decide +kernel)
theorem zro_44 : ∀ pc : Nat, zretOk 44 pc = true := zro_of (B := 24) (f := zc_44) (fun _ => rfl) (by decide +kernel)
theorem zro_45 : ∀ pc : Nat, zretOk 45 pc = true := zro_of (B := 32) (f := zc_45) (fun _ => rfl) (by decide +kernel)
theorem zro_46 : ∀ pc : Nat, zretOk 46 pc = true := zro_of (B := 113) (f := zc_46) (fun _ => rfl) (by decide +kernel)
theorem zro_47 : ∀ pc : Nat, zretOk 47 pc = true := zro_of (B := 96) (f := zc_47) (fun _ => rfl) (by decide +kernel)
theorem zro_48 : ∀ pc : Nat, zretOk 48 pc = true := zro_of (B := 24) (f := zc_48) (fun _ => rfl) (by decide +kernel)
theorem zro_49 : ∀ pc : Nat, zretOk 49 pc = true := zro_of (B := 43) (f := zc_49) (fun _ => rfl) (by decide +kernel)
theorem zro_50 : ∀ pc : Nat, zretOk 50 pc = true := zro_of (B := 17) (f := zc_50) (fun _ => rfl) (by decide +kernel)
theorem zro_51 : ∀ pc : Nat, zretOk 51 pc = true := zro_of (B := 180) (f := zc_51) (fun _ => rfl) (by decide +kernel)
theorem zro_52 : ∀ pc : Nat, zretOk 52 pc = true := zro_of (B := 32) (f := zc_52) (fun _ => rfl) (by decide +kernel)
theorem zro_53 : ∀ pc : Nat, zretOk 53 pc = true := zro_of (B := 74) (f := zc_53) (fun _ => rfl) (by decide +kernel)
theorem zro_54 : ∀ pc : Nat, zretOk 54 pc = true := zro_of (B := 31) (f := zc_54) (fun _ => rfl) (by decide +kernel)
theorem zro_55 : ∀ pc : Nat, zretOk 55 pc = true := zro_of (B := 40) (f := zc_55) (fun _ => rfl) (by decide +kernel)
theorem zro_56 : ∀ pc : Nat, zretOk 56 pc = true := zro_of (B := 55) (f := zc_56) (fun _ => rfl) (by decide +kernel)
theorem zro_57 : ∀ pc : Nat, zretOk 57 pc = true := zro_of (B := 110) (f := zc_57) (fun _ => rfl) (by decide +kernel)
theorem zro_58 : ∀ pc : Nat, zretOk 58 pc = true := zro_of (B := 82) (f := zc_58) (fun _ => rfl) (by decide +kernel)
theorem zro_59 : ∀ pc : Nat, zretOk 59 pc = true := zro_of (B := 44) (f := zc_59) (fun _ => rfl) (by decide +kernel)
theorem zro_60 : ∀ pc : Nat, zretOk 60 pc = true := zro_of (B := 42) (f := zc_60) (fun _ => rfl) (by decide +kernel)
theorem zro_61 : ∀ pc : Nat, zretOk 61 pc = true := zro_of (B := 150) (f := zc_61) (fun _ => rfl) (by decide +kernel)
theorem zro_62 : ∀ pc : Nat, zretOk 62 pc = true := zro_of (B := 36) (f := zc_62) (fun _ => rfl) (by decide +kernel)
theorem zro_63 : ∀ pc : Nat, zretOk 63 pc = true := zro_of (B := 30) (f := zc_63) (fun _ => rfl) (by decide +kernel)
theorem zro_64 : ∀ pc : Nat, zretOk 64 pc = true := zro_of (B := 47) (f := zc_64) (fun _ => rfl) (by decide +kernel)
theorem zro_65 : ∀ pc : Nat, zretOk 65 pc = true := zro_of (B := 34) (f := zc_65) (fun _ => rfl) (by decide +kernel)
theorem zro_66 : ∀ pc : Nat, zretOk 66 pc = true := zro_of (B := 74) (f := zc_66) (fun _ => rfl) (by decide +kernel)
theorem zro_67 : ∀ pc : Nat, zretOk 67 pc = true := zro_of (B := 55) (f := zc_67) (fun _ => rfl) (by decide +kernel)
theorem zro_68 : ∀ pc : Nat, zretOk 68 pc = true := zro_of (B := 30) (f := zc_68) (fun _ => rfl) (by decide +kernel)
theorem zro_69 : ∀ pc : Nat, zretOk 69 pc = true := zro_of (B := 23) (f := zc_69) (fun _ => rfl) (by decide +kernel)
theorem zro_70 : ∀ pc : Nat, zretOk 70 pc = true := zro_of (B := 24) (f := zc_70) (fun _ => rfl) (by decide +kernel)
theorem zro_71 : ∀ pc : Nat, zretOk 71 pc = true := zro_of (B := 28) (f := zc_71) (fun _ => rfl) (by decide +kernel)
theorem zro_72 : ∀ pc : Nat, zretOk 72 pc = true := zro_of (B := 62) (f := zc_72) (fun _ => rfl) (by decide +kernel)
theorem zro_73 : ∀ pc : Nat, zretOk 73 pc = true := zro_of (B := 50) (f := zc_73) (fun _ => rfl) (by decide +kernel)
theorem zro_74 : ∀ pc : Nat, zretOk 74 pc = true := zro_of (B := 23) (f := zc_74) (fun _ => rfl) (by decide +kernel)
theorem zro_75 : ∀ pc : Nat, zretOk 75 pc = true := zro_of (B := 10) (f := zc_75) (fun _ => rfl) (by decide +kernel)
theorem zro_76 : ∀ pc : Nat, zretOk 76 pc = true := zro_of (B := 55) (f := zc_76) (fun _ => rfl) (by decide +kernel)
theorem zro_77 : ∀ pc : Nat, zretOk 77 pc = true := zro_of (B := 45) (f := zc_77) (fun _ => rfl) (by decide +kernel)
theorem zro_78 : ∀ pc : Nat, zretOk 78 pc = true := zro_of (B := 29) (f := zc_78) (fun _ => rfl) (by decide +kernel)
theorem zro_79 : ∀ pc : Nat, zretOk 79 pc = true := zro_of (B := 47) (f := zc_79) (fun _ => rfl) (by decide +kernel)
theorem zro_80 : ∀ pc : Nat, zretOk 80 pc = true := zro_of (B := 54) (f := zc_80) (fun _ => rfl) (by decide +kernel)
theorem zro_81 : ∀ pc : Nat, zretOk 81 pc = true := zro_of (B := 42) (f := zc_81) (fun _ => rfl) (by decide +kernel)
theorem zro_82 : ∀ pc : Nat, zretOk 82 pc = true := zro_of (B := 60) (f := zc_82) (fun _ => rfl) (by decide +kernel)
theorem zro_83 : ∀ pc : Nat, zretOk 83 pc = true := zro_of (B := 54) (f := zc_83) (fun _ => rfl) (by decide +kernel)
theorem zro_84 : ∀ pc : Nat, zretOk 84 pc = true := zro_of (B := 170) (f := zc_84) (fun _ => rfl) (by decide +kernel)
theorem zro_85 : ∀ pc : Nat, zretOk 85 pc = true := zro_of (B := 36) (f := zc_85) (fun _ => rfl) (by decide +kernel)
theorem zro_86 : ∀ pc : Nat, zretOk 86 pc = true := zro_of (B := 55) (f := zc_86) (fun _ => rfl) (by decide +kernel)
theorem zro_87 : ∀ pc : Nat, zretOk 87 pc = true := zro_of (B := 82) (f := zc_87) (fun _ => rfl) (by decide +kernel)
theorem zro_88 : ∀ pc : Nat, zretOk 88 pc = true := zro_of (B := 44) (f := zc_88) (fun _ => rfl) (by decide +kernel)
theorem zro_89 : ∀ pc : Nat, zretOk 89 pc = true := zro_of (B := 47) (f := zc_89) (fun _ => rfl) (by decide +kernel)
theorem zro_90 : ∀ pc : Nat, zretOk 90 pc = true := zro_of (B := 82) (f := zc_90) (fun _ => rfl) (by decide +kernel)
theorem zro_91 : ∀ pc : Nat, zretOk 91 pc = true := zro_of (B := 113) (f := zc_91) (fun _ => rfl) (by decide +kernel)
theorem zro_92 : ∀ pc : Nat, zretOk 92 pc = true := zro_of (B := 15) (f := zc_92) (fun _ => rfl) (by decide +kernel)
theorem zro_93 : ∀ pc : Nat, zretOk 93 pc = true := zro_of (B := 15) (f := zc_93) (fun _ => rfl) (by decide +kernel)
theorem zro_94 : ∀ pc : Nat, zretOk 94 pc = true := zro_of (B := 88) (f := zc_94) (fun _ => rfl) (by decide +kernel)
theorem zro_95 : ∀ pc : Nat, zretOk 95 pc = true := zro_of (B := 111) (f := zc_95) (fun _ => rfl) (by decide +kernel)
theorem zro_96 : ∀ pc : Nat, zretOk 96 pc = true := zro_of (B := 14) (f := zc_96) (fun _ => rfl) (by decide +kernel)
theorem zro_97 : ∀ pc : Nat, zretOk 97 pc = true := zro_of (B := 95) (f := zc_97) (fun _ => rfl) (by decide +kernel)
theorem zro_98 : ∀ pc : Nat, zretOk 98 pc = true := zro_of (B := 8) (f := zc_98) (fun _ => rfl) (by decide +kernel)
theorem zro_99 : ∀ pc : Nat, zretOk 99 pc = true := zro_of (B := 5) (f := zc_99) (fun _ => rfl) (by decide +kernel)
theorem zro_100 : ∀ pc : Nat, zretOk 100 pc = true := zro_of (B := 9) (f := zc_100) (fun _ => rfl) (by decide +kernel)
theorem zro_101 : ∀ pc : Nat, zretOk 101 pc = true := zro_of (B := 17) (f := zc_101) (fun _ => rfl) (by decide +kernel)
theorem zro_102 : ∀ pc : Nat, zretOk 102 pc = true := zro_of (B := 177) (f := zc_102) (fun _ => rfl) (by decide +kernel)
theorem zro_103 : ∀ pc : Nat, zretOk 103 pc = true := zro_of (B := 19) (f := zc_103) (fun _ => rfl) (by decide +kernel)
theorem zro_104 : ∀ pc : Nat, zretOk 104 pc = true := zro_of (B := 14) (f := zc_104) (fun _ => rfl) (by decide +kernel)
theorem zro_105 : ∀ pc : Nat, zretOk 105 pc = true := zro_of (B := 245) (f := zc_105) (fun _ => rfl) (by decide +kernel)
theorem zro_106 : ∀ pc : Nat, zretOk 106 pc = true := zro_of (B := 64) (f := zc_106) (fun _ => rfl) (by decide +kernel)
theorem zro_107 : ∀ pc : Nat, zretOk 107 pc = true := zro_of (B := 44) (f := zc_107) (fun _ => rfl) (by decide +kernel)
theorem zro_108 : ∀ pc : Nat, zretOk 108 pc = true := zro_of (B := 121) (f := zc_108) (fun _ => rfl) (by decide +kernel)
theorem zro_109 : ∀ pc : Nat, zretOk 109 pc = true := zro_of (B := 16) (f := zc_109) (fun _ => rfl) (by decide +kernel)
theorem zro_110 : ∀ pc : Nat, zretOk 110 pc = true := zro_of (B := 60) (f := zc_110) (fun _ => rfl) (by decide +kernel)
theorem zro_111 : ∀ pc : Nat, zretOk 111 pc = true := zro_of (B := 207) (f := zc_111) (fun _ => rfl) (by decide +kernel)
theorem zro_112 : ∀ pc : Nat, zretOk 112 pc = true := zro_of (B := 62) (f := zc_112) (fun _ => rfl) (by decide +kernel)
theorem zro_113 : ∀ pc : Nat, zretOk 113 pc = true := zro_of (B := 27) (f := zc_113) (fun _ => rfl) (by decide +kernel)
theorem zro_114 : ∀ pc : Nat, zretOk 114 pc = true := zro_of (B := 126) (f := zc_114) (fun _ => rfl) (by decide +kernel)
theorem zro_115 : ∀ pc : Nat, zretOk 115 pc = true := zro_of (B := 17) (f := zc_115) (fun _ => rfl) (by decide +kernel)
theorem zro_116 : ∀ pc : Nat, zretOk 116 pc = true := zro_of (B := 155) (f := zc_116) (fun _ => rfl) (by decide +kernel)
theorem zro_117 : ∀ pc : Nat, zretOk 117 pc = true := zro_of (B := 33) (f := zc_117) (fun _ => rfl) (by decide +kernel)
theorem zro_118 : ∀ pc : Nat, zretOk 118 pc = true := zro_of (B := 39) (f := zc_118) (fun _ => rfl) (by decide +kernel)
theorem zro_119 : ∀ pc : Nat, zretOk 119 pc = true := zro_of (B := 67) (f := zc_119) (fun _ => rfl) (by decide +kernel)
theorem zro_120 : ∀ pc : Nat, zretOk 120 pc = true := zro_of (B := 69) (f := zc_120) (fun _ => rfl) (by decide +kernel)
theorem zro_121 : ∀ pc : Nat, zretOk 121 pc = true := zro_of (B := 38) (f := zc_121) (fun _ => rfl) (by decide +kernel)
theorem zro_122 : ∀ pc : Nat, zretOk 122 pc = true := zro_of (B := 102) (f := zc_122) (fun _ => rfl) (by decide +kernel)
theorem zro_123 : ∀ pc : Nat, zretOk 123 pc = true := zro_of (B := 254) (f := zc_123) (fun _ => rfl) (by decide +kernel)
theorem zro_124 : ∀ pc : Nat, zretOk 124 pc = true := zro_of (B := 102) (f := zc_124) (fun _ => rfl) (by decide +kernel)
theorem zro_125 : ∀ pc : Nat, zretOk 125 pc = true := zro_of (B := 32) (f := zc_125) (fun _ => rfl) (by decide +kernel)
theorem zro_126 : ∀ pc : Nat, zretOk 126 pc = true := zro_of (B := 31) (f := zc_126) (fun _ => rfl) (by decide +kernel)
theorem zro_127 : ∀ pc : Nat, zretOk 127 pc = true := zro_of (B := 202) (f := zc_127) (fun _ => rfl) (by decide +kernel)
theorem zro_128 : ∀ pc : Nat, zretOk 128 pc = true := zro_of (B := 47) (f := zc_128) (fun _ => rfl) (by decide +kernel)
theorem zro_129 : ∀ pc : Nat, zretOk 129 pc = true := zro_of (B := 93) (f := zc_129) (fun _ => rfl) (by decide +kernel)
theorem zro_130 : ∀ pc : Nat, zretOk 130 pc = true := zro_of (B := 79) (f := zc_130) (fun _ => rfl) (by decide +kernel)
theorem zro_131 : ∀ pc : Nat, zretOk 131 pc = true := zro_of (B := 84) (f := zc_131) (fun _ => rfl) (by decide +kernel)
theorem zro_132 : ∀ pc : Nat, zretOk 132 pc = true := zro_of (B := 50) (f := zc_132) (fun _ => rfl) (by decide +kernel)
theorem zro_133 : ∀ pc : Nat, zretOk 133 pc = true := zro_of (B := 83) (f := zc_133) (fun _ => rfl) (by decide +kernel)
theorem zro_134 : ∀ pc : Nat, zretOk 134 pc = true := zro_of (B := 29) (f := zc_134) (fun _ => rfl) (by decide +kernel)
theorem zro_135 : ∀ pc : Nat, zretOk 135 pc = true := zro_of (B := 54) (f := zc_135) (fun _ => rfl) (by decide +kernel)
theorem zro_136 : ∀ pc : Nat, zretOk 136 pc = true := zro_of (B := 50) (f := zc_136) (fun _ => rfl) (by decide +kernel)
theorem zro_137 : ∀ pc : Nat, zretOk 137 pc = true := zro_of (B := 60) (f := zc_137) (fun _ => rfl) (by decide +kernel)
theorem zro_138 : ∀ pc : Nat, zretOk 138 pc = true := zro_of (B := 46) (f := zc_138) (fun _ => rfl) (by decide +kernel)
theorem zro_139 : ∀ pc : Nat, zretOk 139 pc = true := zro_of (B := 374) (f := zc_139) (fun _ => rfl) (by decide +kernel)
theorem zro_140 : ∀ pc : Nat, zretOk 140 pc = true := zro_of (B := 51) (f := zc_140) (fun _ => rfl) (by decide +kernel)
theorem zro_141 : ∀ pc : Nat, zretOk 141 pc = true := zro_of (B := 407) (f := zc_141) (fun _ => rfl) (by decide +kernel)
theorem zro_142 : ∀ pc : Nat, zretOk 142 pc = true := zro_of (B := 7) (f := zc_142) (fun _ => rfl) (by decide +kernel)
theorem zro_143 : ∀ pc : Nat, zretOk 143 pc = true := zro_of (B := 107) (f := zc_143) (fun _ => rfl) (by decide +kernel)
theorem zro_144 : ∀ pc : Nat, zretOk 144 pc = true := zro_of (B := 133) (f := zc_144) (fun _ => rfl) (by decide +kernel)
theorem zro_145 : ∀ pc : Nat, zretOk 145 pc = true := zro_of (B := 118) (f := zc_145) (fun _ => rfl) (by decide +kernel)
theorem zro_146 : ∀ pc : Nat, zretOk 146 pc = true := zro_of (B := 88) (f := zc_146) (fun _ => rfl) (by decide +kernel)
theorem zro_147 : ∀ pc : Nat, zretOk 147 pc = true := zro_of (B := 47) (f := zc_147) (fun _ => rfl) (by decide +kernel)
theorem zro_148 : ∀ pc : Nat, zretOk 148 pc = true := zro_of (B := 160) (f := zc_148) (fun _ => rfl) (by decide +kernel)
theorem zro_149 : ∀ pc : Nat, zretOk 149 pc = true := zro_of (B := 222) (f := zc_149) (fun _ => rfl) (by decide +kernel)
theorem zro_150 : ∀ pc : Nat, zretOk 150 pc = true := zro_of (B := 84) (f := zc_150) (fun _ => rfl) (by decide +kernel)
theorem zro_151 : ∀ pc : Nat, zretOk 151 pc = true := zro_of (B := 10) (f := zc_151) (fun _ => rfl) (by decide +kernel)
theorem zro_152 : ∀ pc : Nat, zretOk 152 pc = true := zro_of (B := 10) (f := zc_152) (fun _ => rfl) (by decide +kernel)
theorem zret_ok (M : Nat) (hM : M < 153) : ∀ pc : Nat, zretOk M pc = true := by
  match M, hM with
  | 0, _ => exact zro_0
  | 1, _ => exact zro_1
  | 2, _ => exact zro_2
  | 3, _ => exact zro_3
  | 4, _ => exact zro_4
  | 5, _ => exact zro_5
  | 6, _ => exact zro_6
  | 7, _ => exact zro_7
  | 8, _ => exact zro_8
  | 9, _ => exact zro_9
  | 10, _ => exact zro_10
  | 11, _ => exact zro_11
  | 12, _ => exact zro_12
  | 13, _ => exact zro_13
  | 14, _ => exact zro_14
  | 15, _ => exact zro_15
  | 16, _ => exact zro_16
  | 17, _ => exact zro_17
  | 18, _ => exact zro_18
  | 19, _ => exact zro_19
  | 20, _ => exact zro_20
  | 21, _ => exact zro_21
  | 22, _ => exact zro_22
  | 23, _ => exact zro_23
  | 24, _ => exact zro_24
  | 25, _ => exact zro_25
  | 26, _ => exact zro_26
  | 27, _ => exact zro_27
  | 28, _ => exact zro_28
  | 29, _ => exact zro_29
  | 30, _ => exact zro_30
  | 31, _ => exact zro_31
  | 32, _ => exact zro_32
  | 33, _ => exact zro_33
  | 34, _ => exact zro_34
  | 35, _ => exact zro_35
  | 36, _ => exact zro_36
  | 37, _ => exact zro_37
  | 38, _ => exact zro_38
  | 39, _ => exact zro_39
  | 40, _ => exact zro_40
  | 41, _ => exact zro_41
  | 42, _ => exact zro_42
  | 43, _ => exact zro_43
  | 44, _ => exact zro_44
  | 45, _ => exact zro_45
  | 46, _ => exact zro_46
  | 47, _ => exact zro_47
  | 48, _ => exact zro_48
  | 49, _ => exact zro_49
  | 50, _ => exact zro_50
  | 51, _ => exact zro_51
  | 52, _ => exact zro_52
  | 53, _ => exact zro_53
  | 54, _ => exact zro_54
  | 55, _ => exact zro_55
  | 56, _ => exact zro_56
  | 57, _ => exact zro_57
  | 58, _ => exact zro_58
  | 59, _ => exact zro_59
  | 60, _ => exact zro_60
  | 61, _ => exact zro_61
  | 62, _ => exact zro_62
  | 63, _ => exact zro_63
  | 64, _ => exact zro_64
  | 65, _ => exact zro_65
  | 66, _ => exact zro_66
  | 67, _ => exact zro_67
  | 68, _ => exact zro_68
  | 69, _ => exact zro_69
  | 70, _ => exact zro_70
  | 71, _ => exact zro_71
  | 72, _ => exact zro_72
  | 73, _ => exact zro_73
  | 74, _ => exact zro_74
  | 75, _ => exact zro_75
  | 76, _ => exact zro_76
  | 77, _ => exact zro_77
  | 78, _ => exact zro_78
  | 79, _ => exact zro_79
  | 80, _ => exact zro_80
  | 81, _ => exact zro_81
  | 82, _ => exact zro_82
  | 83, _ => exact zro_83
  | 84, _ => exact zro_84
  | 85, _ => exact zro_85
  | 86, _ => exact zro_86
  | 87, _ => exact zro_87
  | 88, _ => exact zro_88
  | 89, _ => exact zro_89
  | 90, _ => exact zro_90
  | 91, _ => exact zro_91
  | 92, _ => exact zro_92
  | 93, _ => exact zro_93
  | 94, _ => exact zro_94
  | 95, _ => exact zro_95
  | 96, _ => exact zro_96
  | 97, _ => exact zro_97
  | 98, _ => exact zro_98
  | 99, _ => exact zro_99
  | 100, _ => exact zro_100
  | 101, _ => exact zro_101
  | 102, _ => exact zro_102
  | 103, _ => exact zro_103
  | 104, _ => exact zro_104
  | 105, _ => exact zro_105
  | 106, _ => exact zro_106
  | 107, _ => exact zro_107
  | 108, _ => exact zro_108
  | 109, _ => exact zro_109
  | 110, _ => exact zro_110
  | 111, _ => exact zro_111
  | 112, _ => exact zro_112
  | 113, _ => exact zro_113
  | 114, _ => exact zro_114
  | 115, _ => exact zro_115
  | 116, _ => exact zro_116
  | 117, _ => exact zro_117
  | 118, _ => exact zro_118
  | 119, _ => exact zro_119
  | 120, _ => exact zro_120
  | 121, _ => exact zro_121
  | 122, _ => exact zro_122
  | 123, _ => exact zro_123
  | 124, _ => exact zro_124
  | 125, _ => exact zro_125
  | 126, _ => exact zro_126
  | 127, _ => exact zro_127
  | 128, _ => exact zro_128
  | 129, _ => exact zro_129
  | 130, _ => exact zro_130
  | 131, _ => exact zro_131
  | 132, _ => exact zro_132
  | 133, _ => exact zro_133
  | 134, _ => exact zro_134
  | 135, _ => exact zro_135
  | 136, _ => exact zro_136
  | 137, _ => exact zro_137
  | 138, _ => exact zro_138
  | 139, _ => exact zro_139
  | 140, _ => exact zro_140
  | 141, _ => exact zro_141
  | 142, _ => exact zro_142
  | 143, _ => exact zro_143
  | 144, _ => exact zro_144
  | 145, _ => exact zro_145
  | 146, _ => exact zro_146
  | 147, _ => exact zro_147
  | 148, _ => exact zro_148
  | 149, _ => exact zro_149
  | 150, _ => exact zro_150
  | 151, _ => exact zro_151
  | 152, _ => exact zro_152
  | n + 153, h => exact absurd h (by omega)
/-- what a program decides of each method -/
def zmOk (M : Nat) : Bool := plainName (zMy M).cls && decide ((zMy M).cls ≠ "java/lang/invoke/MethodHandle") && decide ((zMy M).cls ≠ "java/lang/invoke/VarHandle") && decide ((parseMethodDescriptor (zMy M).desc).map (fun d => d.parameters.length) = some (zNa M)) && zhas 30 (.initialized (zMy M).cls) && decide ((zCl (zMc M)).1 = (zMy M).cls) && Nat.blt (zMc M) 9 && Nat.ble (zMx M) 19
theorem zm_ok : ∀ M : Nat, M < 153 → zmOk M = true := by decide +kernel
def zRm (d mc ms : Nat) : Room := { frames := d, cells := mc, slots := ms, locals := 38 * d + 8 }
def zWs (M : Nat) : List Cond := Cond.code (zMy M) (zMb M) (zMx M) (zMr M) :: zT
def zPre (g : zG) (σ : zS) (as : List zV) : Array Value → State → Prop := va_Pc (as.map (ztr g)) (fun U => zWd g σ U.heap ∧ zU g U ∧ zOrd g U U.heap)
def zPost (g : zG) (r : Option zV) (σ' : zS) : Array Value → State → Outcome → State → Prop := fun _ st o t => o = .returned (r.map (ztr g)) ∧ zWd g σ' t.heap ∧ ∀ q : Nat, q < g.1.1 → t.heap[q]? = st.heap[q]?
def zMet (l : Launch) (g : zG) (d M : Nat) (as : List zV) (σ : zS) (r : Option zV) (σ' : zS) : Prop := ∃ mc ms : Nat, σ'.1 = σ.1 + mc ∧ σ'.2.1 = σ.2.1 + ms ∧ Met l (zMy M) (zWs M) (zRm d mc ms) (zPre g σ as) (zPost g r σ') mc ms (fun q => g.1.1 ≤ q)
theorem zU_same {g : zG} {u U : State} (h : u.vm = U.vm) (hU : zU g u) : zU g U := by
  have hA : u.vm.Alike U.vm := by rw [← h]; exact Vm.Alike.refl u.vm
  obtain ⟨h1, h2, h3, h4, h5⟩ := hU
  exact ⟨h1.moved hA, fun q hq => (h2 q hq).same rfl h, zOA_movedA hA h3, zOA_movedA hA h4, va_AO.moved hA h5⟩
theorem zOrd_same {g : zG} {u U : State} {H : Heap} (hA : u.vm.Alike U.vm) (h : zOrd g u H) : zOrd g U H := ⟨h.1.moved hA, h.2.1.moved hA, h.2.2.moved hA⟩
theorem zOrd_kept {g : zG} {U : State} {H H1 : Heap} (h : zOrd g U H) (hq : ∀ a : Nat, a < H.size → ¬ g.1.1 ≤ a → H1[a]? = H[a]?) : zOrd g U H1 := ⟨h.1.kept hq, h.2.1.kept hq, h.2.2.kept hq⟩
theorem zPre_blind {g : zG} {σ : zS} {as : List zV} : FrameBlind (zPre g σ as) := by
  intro a U gg mk h
  obtain ⟨h1, h2, h3, h4⟩ := h
  exact ⟨h1, h2, zU_same (u := U) (U := U.calling gg mk a) rfl h3, zOrd_same (u := U) (U := U.calling gg mk a) (Vm.Alike.refl U.vm) h4⟩
