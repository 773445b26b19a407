set_option maxRecDepth 100000 in
theorem xw_0 : lw_tbl[88]? = some (Cond.code (xm_y 0) (xm_c 0) (xm_l 0) (xm_r 0)) := rfl
set_option maxRecDepth 100000 in
theorem xw_1 : lw_tbl[91]? = some (Cond.code (xm_y 1) (xm_c 1) (xm_l 1) (xm_r 1)) := rfl
set_option maxRecDepth 100000 in
theorem xw_2 : lw_tbl[94]? = some (Cond.code (xm_y 2) (xm_c 2) (xm_l 2) (xm_r 2)) := rfl
set_option maxRecDepth 100000 in
theorem xw_3 : lw_tbl[657]? = some (Cond.code (xm_y 3) (xm_c 3) (xm_l 3) (xm_r 3)) := rfl
set_option maxRecDepth 100000 in
theorem xw_4 : lw_tbl[661]? = some (Cond.code (xm_y 4) (xm_c 4) (xm_l 4) (xm_r 4)) := rfl
set_option maxRecDepth 100000 in
theorem xw_5 : lw_tbl[154]? = some (Cond.code (xm_y 5) (xm_c 5) (xm_l 5) (xm_r 5)) := rfl
set_option maxRecDepth 100000 in
theorem xw_6 : lw_tbl[460]? = some (Cond.code (xm_y 6) (xm_c 6) (xm_l 6) (xm_r 6)) := rfl
set_option maxRecDepth 100000 in
theorem xw_7 : lw_tbl[464]? = some (Cond.code (xm_y 7) (xm_c 7) (xm_l 7) (xm_r 7)) := rfl
set_option maxRecDepth 100000 in
theorem xw_8 : lw_tbl[470]? = some (Cond.code (xm_y 8) (xm_c 8) (xm_l 8) (xm_r 8)) := rfl
set_option maxRecDepth 100000 in
theorem xw_9 : lw_tbl[474]? = some (Cond.code (xm_y 9) (xm_c 9) (xm_l 9) (xm_r 9)) := rfl
set_option maxRecDepth 100000 in
theorem xw_10 : lw_tbl[477]? = some (Cond.code (xm_y 10) (xm_c 10) (xm_l 10) (xm_r 10)) := rfl
set_option maxRecDepth 100000 in
theorem xw_11 : lw_tbl[184]? = some (Cond.code (xm_y 11) (xm_c 11) (xm_l 11) (xm_r 11)) := rfl
set_option maxRecDepth 100000 in
theorem xw_12 : lw_tbl[551]? = some (Cond.code (xm_y 12) (xm_c 12) (xm_l 12) (xm_r 12)) := rfl
set_option maxRecDepth 100000 in
theorem xw_13 : lw_tbl[622]? = some (Cond.code (xm_y 13) (xm_c 13) (xm_l 13) (xm_r 13)) := rfl
set_option maxRecDepth 100000 in
theorem xw_14 : lw_tbl[669]? = some (Cond.code (xm_y 14) (xm_c 14) (xm_l 14) (xm_r 14)) := rfl
set_option maxRecDepth 100000 in
theorem xw_15 : lw_tbl[673]? = some (Cond.code (xm_y 15) (xm_c 15) (xm_l 15) (xm_r 15)) := rfl
set_option maxRecDepth 100000 in
theorem xw_16 : lw_tbl[681]? = some (Cond.code (xm_y 16) (xm_c 16) (xm_l 16) (xm_r 16)) := rfl
set_option maxRecDepth 100000 in
theorem xw_17 : lw_tbl[686]? = some (Cond.code (xm_y 17) (xm_c 17) (xm_l 17) (xm_r 17)) := rfl
set_option maxRecDepth 100000 in
theorem xw_18 : lw_tbl[690]? = some (Cond.code (xm_y 18) (xm_c 18) (xm_l 18) (xm_r 18)) := rfl
set_option maxRecDepth 100000 in
theorem xw_19 : lw_tbl[728]? = some (Cond.code (xm_y 19) (xm_c 19) (xm_l 19) (xm_r 19)) := rfl
set_option maxRecDepth 100000 in
theorem xw_20 : lw_tbl[743]? = some (Cond.code (xm_y 20) (xm_c 20) (xm_l 20) (xm_r 20)) := rfl
set_option maxRecDepth 100000 in
theorem xw_21 : lw_tbl[806]? = some (Cond.code (xm_y 21) (xm_c 21) (xm_l 21) (xm_r 21)) := rfl
set_option maxRecDepth 100000 in
theorem xw_22 : lw_tbl[811]? = some (Cond.code (xm_y 22) (xm_c 22) (xm_l 22) (xm_r 22)) := rfl
set_option maxRecDepth 100000 in
theorem xw_23 : lw_tbl[250]? = some (Cond.code (xm_y 23) (xm_c 23) (xm_l 23) (xm_r 23)) := rfl
set_option maxRecDepth 100000 in
theorem xw_24 : lw_tbl[375]? = some (Cond.code (xm_y 24) (xm_c 24) (xm_l 24) (xm_r 24)) := rfl
set_option maxRecDepth 100000 in
theorem xw_25 : lw_tbl[391]? = some (Cond.code (xm_y 25) (xm_c 25) (xm_l 25) (xm_r 25)) := rfl
set_option maxRecDepth 100000 in
theorem xw_26 : lw_tbl[111]? = some (Cond.code (xm_y 26) (xm_c 26) (xm_l 26) (xm_r 26)) := rfl
set_option maxRecDepth 100000 in
theorem xw_27 : lw_tbl[383]? = some (Cond.code (xm_y 27) (xm_c 27) (xm_l 27) (xm_r 27)) := rfl
set_option maxRecDepth 100000 in
theorem xw_28 : lw_tbl[387]? = some (Cond.code (xm_y 28) (xm_c 28) (xm_l 28) (xm_r 28)) := rfl
set_option maxRecDepth 100000 in
theorem xw_29 : lw_tbl[395]? = some (Cond.code (xm_y 29) (xm_c 29) (xm_l 29) (xm_r 29)) := rfl
set_option maxRecDepth 100000 in
theorem xw_30 : lw_tbl[399]? = some (Cond.code (xm_y 30) (xm_c 30) (xm_l 30) (xm_r 30)) := rfl
set_option maxRecDepth 100000 in
theorem xw_31 : lw_tbl[403]? = some (Cond.code (xm_y 31) (xm_c 31) (xm_l 31) (xm_r 31)) := rfl
set_option maxRecDepth 100000 in
theorem xw_32 : lw_tbl[407]? = some (Cond.code (xm_y 32) (xm_c 32) (xm_l 32) (xm_r 32)) := rfl
set_option maxRecDepth 100000 in
theorem xw_33 : lw_tbl[411]? = some (Cond.code (xm_y 33) (xm_c 33) (xm_l 33) (xm_r 33)) := rfl
set_option maxRecDepth 100000 in
theorem xw_34 : lw_tbl[415]? = some (Cond.code (xm_y 34) (xm_c 34) (xm_l 34) (xm_r 34)) := rfl
set_option maxRecDepth 100000 in
theorem xw_35 : lw_tbl[422]? = some (Cond.code (xm_y 35) (xm_c 35) (xm_l 35) (xm_r 35)) := rfl
set_option maxRecDepth 100000 in
theorem xw_36 : lw_tbl[425]? = some (Cond.code (xm_y 36) (xm_c 36) (xm_l 36) (xm_r 36)) := rfl
set_option maxRecDepth 100000 in
theorem xw_37 : lw_tbl[105]? = some (Cond.code (xm_y 37) (xm_c 37) (xm_l 37) (xm_r 37)) := rfl
set_option maxRecDepth 100000 in
theorem xw_38 : lw_tbl[626]? = some (Cond.code (xm_y 38) (xm_c 38) (xm_l 38) (xm_r 38)) := rfl
set_option maxRecDepth 100000 in
theorem xw_39 : lw_tbl[633]? = some (Cond.code (xm_y 39) (xm_c 39) (xm_l 39) (xm_r 39)) := rfl
set_option maxRecDepth 100000 in
theorem xw_40 : lw_tbl[637]? = some (Cond.code (xm_y 40) (xm_c 40) (xm_l 40) (xm_r 40)) := rfl
set_option maxRecDepth 100000 in
theorem xw_41 : lw_tbl[641]? = some (Cond.code (xm_y 41) (xm_c 41) (xm_l 41) (xm_r 41)) := rfl
set_option maxRecDepth 100000 in
theorem xw_42 : lw_tbl[645]? = some (Cond.code (xm_y 42) (xm_c 42) (xm_l 42) (xm_r 42)) := rfl
set_option maxRecDepth 100000 in
theorem xw_43 : lw_tbl[650]? = some (Cond.code (xm_y 43) (xm_c 43) (xm_l 43) (xm_r 43)) := rfl
set_option maxRecDepth 100000 in
theorem xw_44 : lw_tbl[654]? = some (Cond.code (xm_y 44) (xm_c 44) (xm_l 44) (xm_r 44)) := rfl
set_option maxRecDepth 100000 in
theorem xw_45 : lw_tbl[732]? = some (Cond.code (xm_y 45) (xm_c 45) (xm_l 45) (xm_r 45)) := rfl
set_option maxRecDepth 100000 in
theorem xw_46 : lw_tbl[736]? = some (Cond.code (xm_y 46) (xm_c 46) (xm_l 46) (xm_r 46)) := rfl
set_option maxRecDepth 100000 in
theorem xw_47 : lw_tbl[788]? = some (Cond.code (xm_y 47) (xm_c 47) (xm_l 47) (xm_r 47)) := rfl
set_option maxRecDepth 100000 in
theorem xw_48 : lw_tbl[798]? = some (Cond.code (xm_y 48) (xm_c 48) (xm_l 48) (xm_r 48)) := rfl
set_option maxRecDepth 100000 in
theorem xw_49 : lw_tbl[99]? = some (Cond.code (xm_y 49) (xm_c 49) (xm_l 49) (xm_r 49)) := rfl
set_option maxRecDepth 100000 in
theorem xw_50 : lw_tbl[371]? = some (Cond.code (xm_y 50) (xm_c 50) (xm_l 50) (xm_r 50)) := rfl
set_option maxRecDepth 100000 in
theorem xw_51 : lw_tbl[581]? = some (Cond.code (xm_y 51) (xm_c 51) (xm_l 51) (xm_r 51)) := rfl
set_option maxRecDepth 100000 in
theorem xw_52 : lw_tbl[585]? = some (Cond.code (xm_y 52) (xm_c 52) (xm_l 52) (xm_r 52)) := rfl
set_option maxRecDepth 100000 in
theorem xw_53 : lw_tbl[589]? = some (Cond.code (xm_y 53) (xm_c 53) (xm_l 53) (xm_r 53)) := rfl
set_option maxRecDepth 100000 in
theorem xw_54 : lw_tbl[610]? = some (Cond.code (xm_y 54) (xm_c 54) (xm_l 54) (xm_r 54)) := rfl
set_option maxRecDepth 100000 in
theorem xw_55 : lw_tbl[614]? = some (Cond.code (xm_y 55) (xm_c 55) (xm_l 55) (xm_r 55)) := rfl
set_option maxRecDepth 100000 in
theorem xw_56 : lw_tbl[802]? = some (Cond.code (xm_y 56) (xm_c 56) (xm_l 56) (xm_r 56)) := rfl
set_option maxRecDepth 100000 in
theorem xw_57 : lw_tbl[330]? = some (Cond.code (xm_y 57) (xm_c 57) (xm_l 57) (xm_r 57)) := rfl
set_option maxRecDepth 100000 in
theorem xw_58 : lw_tbl[429]? = some (Cond.code (xm_y 58) (xm_c 58) (xm_l 58) (xm_r 58)) := rfl
set_option maxRecDepth 100000 in
theorem xw_59 : lw_tbl[433]? = some (Cond.code (xm_y 59) (xm_c 59) (xm_l 59) (xm_r 59)) := rfl
set_option maxRecDepth 100000 in
theorem xw_60 : lw_tbl[437]? = some (Cond.code (xm_y 60) (xm_c 60) (xm_l 60) (xm_r 60)) := rfl
set_option maxRecDepth 100000 in
theorem xw_61 : lw_tbl[456]? = some (Cond.code (xm_y 61) (xm_c 61) (xm_l 61) (xm_r 61)) := rfl
set_option maxRecDepth 100000 in
theorem xw_62 : lw_tbl[508]? = some (Cond.code (xm_y 62) (xm_c 62) (xm_l 62) (xm_r 62)) := rfl
set_option maxRecDepth 100000 in
theorem xw_63 : lw_tbl[511]? = some (Cond.code (xm_y 63) (xm_c 63) (xm_l 63) (xm_r 63)) := rfl
set_option maxRecDepth 100000 in
theorem xw_64 : lw_tbl[518]? = some (Cond.code (xm_y 64) (xm_c 64) (xm_l 64) (xm_r 64)) := rfl
set_option maxRecDepth 100000 in
theorem xw_65 : lw_tbl[521]? = some (Cond.code (xm_y 65) (xm_c 65) (xm_l 65) (xm_r 65)) := rfl
set_option maxRecDepth 100000 in
theorem xw_66 : lw_tbl[524]? = some (Cond.code (xm_y 66) (xm_c 66) (xm_l 66) (xm_r 66)) := rfl
set_option maxRecDepth 100000 in
theorem xw_67 : lw_tbl[528]? = some (Cond.code (xm_y 67) (xm_c 67) (xm_l 67) (xm_r 67)) := rfl
set_option maxRecDepth 100000 in
theorem xw_68 : lw_tbl[532]? = some (Cond.code (xm_y 68) (xm_c 68) (xm_l 68) (xm_r 68)) := rfl
set_option maxRecDepth 100000 in
theorem xw_69 : lw_tbl[536]? = some (Cond.code (xm_y 69) (xm_c 69) (xm_l 69) (xm_r 69)) := rfl
set_option maxRecDepth 100000 in
theorem xw_70 : lw_tbl[298]? = some (Cond.code (xm_y 70) (xm_c 70) (xm_l 70) (xm_r 70)) := rfl
set_option maxRecDepth 100000 in
theorem xw_71 : lw_tbl[539]? = some (Cond.code (xm_y 71) (xm_c 71) (xm_l 71) (xm_r 71)) := rfl
set_option maxRecDepth 100000 in
theorem xw_72 : lw_tbl[555]? = some (Cond.code (xm_y 72) (xm_c 72) (xm_l 72) (xm_r 72)) := rfl
set_option maxRecDepth 100000 in
theorem xw_73 : lw_tbl[560]? = some (Cond.code (xm_y 73) (xm_c 73) (xm_l 73) (xm_r 73)) := rfl
set_option maxRecDepth 100000 in
theorem xw_74 : lw_tbl[564]? = some (Cond.code (xm_y 74) (xm_c 74) (xm_l 74) (xm_r 74)) := rfl
set_option maxRecDepth 100000 in
theorem xw_75 : lw_tbl[568]? = some (Cond.code (xm_y 75) (xm_c 75) (xm_l 75) (xm_r 75)) := rfl
set_option maxRecDepth 100000 in
theorem xw_76 : lw_tbl[572]? = some (Cond.code (xm_y 76) (xm_c 76) (xm_l 76) (xm_r 76)) := rfl
set_option maxRecDepth 100000 in
theorem xw_77 : lw_tbl[577]? = some (Cond.code (xm_y 77) (xm_c 77) (xm_l 77) (xm_r 77)) := rfl
set_option maxRecDepth 100000 in
theorem xw_78 : lw_tbl[593]? = some (Cond.code (xm_y 78) (xm_c 78) (xm_l 78) (xm_r 78)) := rfl
set_option maxRecDepth 100000 in
theorem xw_79 : lw_tbl[597]? = some (Cond.code (xm_y 79) (xm_c 79) (xm_l 79) (xm_r 79)) := rfl
set_option maxRecDepth 100000 in
theorem xw_80 : lw_tbl[602]? = some (Cond.code (xm_y 80) (xm_c 80) (xm_l 80) (xm_r 80)) := rfl
set_option maxRecDepth 100000 in
theorem xw_81 : lw_tbl[606]? = some (Cond.code (xm_y 81) (xm_c 81) (xm_l 81) (xm_r 81)) := rfl
set_option maxRecDepth 100000 in
theorem xw_82 : lw_tbl[618]? = some (Cond.code (xm_y 82) (xm_c 82) (xm_l 82) (xm_r 82)) := rfl
set_option maxRecDepth 100000 in
theorem xw_83 : lw_tbl[665]? = some (Cond.code (xm_y 83) (xm_c 83) (xm_l 83) (xm_r 83)) := rfl
set_option maxRecDepth 100000 in
theorem xw_84 : lw_tbl[677]? = some (Cond.code (xm_y 84) (xm_c 84) (xm_l 84) (xm_r 84)) := rfl
set_option maxRecDepth 100000 in
theorem xw_85 : lw_tbl[693]? = some (Cond.code (xm_y 85) (xm_c 85) (xm_l 85) (xm_r 85)) := rfl
set_option maxRecDepth 100000 in
theorem xw_86 : lw_tbl[697]? = some (Cond.code (xm_y 86) (xm_c 86) (xm_l 86) (xm_r 86)) := rfl
set_option maxRecDepth 100000 in
theorem xw_87 : lw_tbl[700]? = some (Cond.code (xm_y 87) (xm_c 87) (xm_l 87) (xm_r 87)) := rfl
set_option maxRecDepth 100000 in
theorem xw_88 : lw_tbl[705]? = some (Cond.code (xm_y 88) (xm_c 88) (xm_l 88) (xm_r 88)) := rfl
set_option maxRecDepth 100000 in
theorem xw_89 : lw_tbl[708]? = some (Cond.code (xm_y 89) (xm_c 89) (xm_l 89) (xm_r 89)) := rfl
set_option maxRecDepth 100000 in
theorem xw_90 : lw_tbl[712]? = some (Cond.code (xm_y 90) (xm_c 90) (xm_l 90) (xm_r 90)) := rfl
set_option maxRecDepth 100000 in
theorem xw_91 : lw_tbl[715]? = some (Cond.code (xm_y 91) (xm_c 91) (xm_l 91) (xm_r 91)) := rfl
set_option maxRecDepth 100000 in
theorem xw_92 : lw_tbl[718]? = some (Cond.code (xm_y 92) (xm_c 92) (xm_l 92) (xm_r 92)) := rfl
set_option maxRecDepth 100000 in
theorem xw_93 : lw_tbl[721]? = some (Cond.code (xm_y 93) (xm_c 93) (xm_l 93) (xm_r 93)) := rfl
set_option maxRecDepth 100000 in
theorem xw_94 : lw_tbl[724]? = some (Cond.code (xm_y 94) (xm_c 94) (xm_l 94) (xm_r 94)) := rfl
set_option maxRecDepth 100000 in
theorem xw_95 : lw_tbl[739]? = some (Cond.code (xm_y 95) (xm_c 95) (xm_l 95) (xm_r 95)) := rfl
set_option maxRecDepth 100000 in
theorem xw_96 : lw_tbl[746]? = some (Cond.code (xm_y 96) (xm_c 96) (xm_l 96) (xm_r 96)) := rfl
set_option maxRecDepth 100000 in
theorem xw_97 : lw_tbl[85]? = some (Cond.code (xm_y 97) (xm_c 97) (xm_l 97) (xm_r 97)) := rfl
set_option maxRecDepth 100000 in
theorem xw_98 : lw_tbl[367]? = some (Cond.code (xm_y 98) (xm_c 98) (xm_l 98) (xm_r 98)) := rfl
set_option maxRecDepth 100000 in
theorem xw_99 : lw_tbl[379]? = some (Cond.code (xm_y 99) (xm_c 99) (xm_l 99) (xm_r 99)) := rfl
set_option maxRecDepth 100000 in
theorem xw_100 : lw_tbl[418]? = some (Cond.code (xm_y 100) (xm_c 100) (xm_l 100) (xm_r 100)) := rfl
set_option maxRecDepth 100000 in
theorem xw_101 : lw_tbl[544]? = some (Cond.code (xm_y 101) (xm_c 101) (xm_l 101) (xm_r 101)) := rfl
set_option maxRecDepth 100000 in
theorem xw_102 : lw_tbl[547]? = some (Cond.code (xm_y 102) (xm_c 102) (xm_l 102) (xm_r 102)) := rfl
set_option maxRecDepth 100000 in
theorem xw_103 : lw_tbl[750]? = some (Cond.code (xm_y 103) (xm_c 103) (xm_l 103) (xm_r 103)) := rfl
set_option maxRecDepth 100000 in
theorem xw_104 : lw_tbl[754]? = some (Cond.code (xm_y 104) (xm_c 104) (xm_l 104) (xm_r 104)) := rfl
set_option maxRecDepth 100000 in
theorem xw_105 : lw_tbl[758]? = some (Cond.code (xm_y 105) (xm_c 105) (xm_l 105) (xm_r 105)) := rfl
set_option maxRecDepth 100000 in
theorem xw_106 : lw_tbl[763]? = some (Cond.code (xm_y 106) (xm_c 106) (xm_l 106) (xm_r 106)) := rfl
set_option maxRecDepth 100000 in
theorem xw_107 : lw_tbl[768]? = some (Cond.code (xm_y 107) (xm_c 107) (xm_l 107) (xm_r 107)) := rfl
set_option maxRecDepth 100000 in
theorem xw_108 : lw_tbl[773]? = some (Cond.code (xm_y 108) (xm_c 108) (xm_l 108) (xm_r 108)) := rfl
set_option maxRecDepth 100000 in
theorem xw_109 : lw_tbl[778]? = some (Cond.code (xm_y 109) (xm_c 109) (xm_l 109) (xm_r 109)) := rfl
set_option maxRecDepth 100000 in
theorem xw_110 : lw_tbl[784]? = some (Cond.code (xm_y 110) (xm_c 110) (xm_l 110) (xm_r 110)) := rfl
set_option maxRecDepth 100000 in
theorem xw_111 : lw_tbl[793]? = some (Cond.code (xm_y 111) (xm_c 111) (xm_l 111) (xm_r 111)) := rfl
set_option maxRecDepth 100000 in
theorem xw_112 : lw_tbl[820]? = some (Cond.code (xm_y 112) (xm_c 112) (xm_l 112) (xm_r 112)) := rfl
set_option maxRecDepth 100000 in
theorem xw_113 : lw_tbl[825]? = some (Cond.code (xm_y 113) (xm_c 113) (xm_l 113) (xm_r 113)) := rfl
set_option maxRecDepth 100000 in
theorem xw_114 : lw_tbl[941]? = some (Cond.code (xm_y 114) (xm_c 114) (xm_l 114) (xm_r 114)) := rfl
set_option maxRecDepth 100000 in
theorem xw_115 : lw_tbl[944]? = some (Cond.code (xm_y 115) (xm_c 115) (xm_l 115) (xm_r 115)) := rfl
set_option maxRecDepth 100000 in
theorem xw_116 : lw_tbl[948]? = some (Cond.code (xm_y 116) (xm_c 116) (xm_l 116) (xm_r 116)) := rfl
set_option maxRecDepth 100000 in
theorem xw_117 : lw_tbl[952]? = some (Cond.code (xm_y 117) (xm_c 117) (xm_l 117) (xm_r 117)) := rfl
set_option maxRecDepth 100000 in
theorem xw_118 : lw_tbl[956]? = some (Cond.code (xm_y 118) (xm_c 118) (xm_l 118) (xm_r 118)) := rfl
set_option maxRecDepth 100000 in
theorem xw_119 : lw_tbl[960]? = some (Cond.code (xm_y 119) (xm_c 119) (xm_l 119) (xm_r 119)) := rfl
set_option maxRecDepth 100000 in
theorem xw_120 : lw_tbl[964]? = some (Cond.code (xm_y 120) (xm_c 120) (xm_l 120) (xm_r 120)) := rfl
set_option maxRecDepth 100000 in
theorem xw_121 : lw_tbl[968]? = some (Cond.code (xm_y 121) (xm_c 121) (xm_l 121) (xm_r 121)) := rfl
set_option maxRecDepth 100000 in
theorem xw_122 : lw_tbl[971]? = some (Cond.code (xm_y 122) (xm_c 122) (xm_l 122) (xm_r 122)) := rfl
set_option maxRecDepth 100000 in
theorem xw_123 : lw_tbl[975]? = some (Cond.code (xm_y 123) (xm_c 123) (xm_l 123) (xm_r 123)) := rfl
set_option maxRecDepth 100000 in
theorem xw_124 : lw_tbl[979]? = some (Cond.code (xm_y 124) (xm_c 124) (xm_l 124) (xm_r 124)) := rfl
set_option maxRecDepth 100000 in
theorem xw_125 : lw_tbl[983]? = some (Cond.code (xm_y 125) (xm_c 125) (xm_l 125) (xm_r 125)) := rfl
set_option maxRecDepth 100000 in
theorem xw_126 : lw_tbl[987]? = some (Cond.code (xm_y 126) (xm_c 126) (xm_l 126) (xm_r 126)) := rfl
set_option maxRecDepth 100000 in
theorem xw_127 : lw_tbl[991]? = some (Cond.code (xm_y 127) (xm_c 127) (xm_l 127) (xm_r 127)) := rfl
set_option maxRecDepth 100000 in
theorem xw_128 : lw_tbl[995]? = some (Cond.code (xm_y 128) (xm_c 128) (xm_l 128) (xm_r 128)) := rfl
set_option maxRecDepth 100000 in
theorem xw_129 : lw_tbl[999]? = some (Cond.code (xm_y 129) (xm_c 129) (xm_l 129) (xm_r 129)) := rfl
set_option maxRecDepth 100000 in
theorem xw_130 : lw_tbl[1003]? = some (Cond.code (xm_y 130) (xm_c 130) (xm_l 130) (xm_r 130)) := rfl
set_option maxRecDepth 100000 in
theorem xw_131 : lw_tbl[1007]? = some (Cond.code (xm_y 131) (xm_c 131) (xm_l 131) (xm_r 131)) := rfl
set_option maxRecDepth 100000 in
theorem xw_132 : lw_tbl[1011]? = some (Cond.code (xm_y 132) (xm_c 132) (xm_l 132) (xm_r 132)) := rfl
set_option maxRecDepth 100000 in
theorem xw_133 : lw_tbl[1015]? = some (Cond.code (xm_y 133) (xm_c 133) (xm_l 133) (xm_r 133)) := rfl
set_option maxRecDepth 100000 in
theorem xw_134 : lw_tbl[1019]? = some (Cond.code (xm_y 134) (xm_c 134) (xm_l 134) (xm_r 134)) := rfl
set_option maxRecDepth 100000 in
theorem xw_135 : lw_tbl[1023]? = some (Cond.code (xm_y 135) (xm_c 135) (xm_l 135) (xm_r 135)) := rfl
set_option maxRecDepth 100000 in
theorem xw_136 : lw_tbl[1027]? = some (Cond.code (xm_y 136) (xm_c 136) (xm_l 136) (xm_r 136)) := rfl
set_option maxRecDepth 100000 in
theorem xw_137 : lw_tbl[1031]? = some (Cond.code (xm_y 137) (xm_c 137) (xm_l 137) (xm_r 137)) := rfl
set_option maxRecDepth 100000 in
theorem xw_138 : lw_tbl[1035]? = some (Cond.code (xm_y 138) (xm_c 138) (xm_l 138) (xm_r 138)) := rfl
set_option maxRecDepth 100000 in
theorem xw_139 : lw_tbl[1039]? = some (Cond.code (xm_y 139) (xm_c 139) (xm_l 139) (xm_r 139)) := rfl
set_option maxRecDepth 100000 in
theorem xw_140 : lw_tbl[1043]? = some (Cond.code (xm_y 140) (xm_c 140) (xm_l 140) (xm_r 140)) := rfl
set_option maxRecDepth 100000 in
theorem xw_141 : lw_tbl[1047]? = some (Cond.code (xm_y 141) (xm_c 141) (xm_l 141) (xm_r 141)) := rfl
set_option maxRecDepth 100000 in
theorem xw_142 : lw_tbl[1050]? = some (Cond.code (xm_y 142) (xm_c 142) (xm_l 142) (xm_r 142)) := rfl
set_option maxRecDepth 100000 in
theorem xw_143 : lw_tbl[1054]? = some (Cond.code (xm_y 143) (xm_c 143) (xm_l 143) (xm_r 143)) := rfl
set_option maxRecDepth 100000 in
theorem xw_144 : lw_tbl[1058]? = some (Cond.code (xm_y 144) (xm_c 144) (xm_l 144) (xm_r 144)) := rfl
set_option maxRecDepth 100000 in
theorem xw_145 : lw_tbl[1062]? = some (Cond.code (xm_y 145) (xm_c 145) (xm_l 145) (xm_r 145)) := rfl
set_option maxRecDepth 100000 in
theorem xw_146 : lw_tbl[1066]? = some (Cond.code (xm_y 146) (xm_c 146) (xm_l 146) (xm_r 146)) := rfl
set_option maxRecDepth 100000 in
theorem xw_147 : lw_tbl[1070]? = some (Cond.code (xm_y 147) (xm_c 147) (xm_l 147) (xm_r 147)) := rfl
set_option maxRecDepth 100000 in
theorem xw_148 : lw_tbl[1073]? = some (Cond.code (xm_y 148) (xm_c 148) (xm_l 148) (xm_r 148)) := rfl
set_option maxRecDepth 100000 in
theorem xw_149 : lw_tbl[1076]? = some (Cond.code (xm_y 149) (xm_c 149) (xm_l 149) (xm_r 149)) := rfl
set_option maxRecDepth 100000 in
theorem xw_150 : lw_tbl[1079]? = some (Cond.code (xm_y 150) (xm_c 150) (xm_l 150) (xm_r 150)) := rfl
set_option maxRecDepth 100000 in
theorem xw_151 : lw_tbl[1083]? = some (Cond.code (xm_y 151) (xm_c 151) (xm_l 151) (xm_r 151)) := rfl
set_option maxRecDepth 100000 in
theorem xw_152 : lw_tbl[1086]? = some (Cond.code (xm_y 152) (xm_c 152) (xm_l 152) (xm_r 152)) := rfl
set_option maxRecDepth 100000 in
theorem xw_153 : lw_tbl[1090]? = some (Cond.code (xm_y 153) (xm_c 153) (xm_l 153) (xm_r 153)) := rfl
set_option maxRecDepth 100000 in
theorem xw_154 : lw_tbl[1094]? = some (Cond.code (xm_y 154) (xm_c 154) (xm_l 154) (xm_r 154)) := rfl
set_option maxRecDepth 100000 in
theorem xw_155 : lw_tbl[1098]? = some (Cond.code (xm_y 155) (xm_c 155) (xm_l 155) (xm_r 155)) := rfl
set_option maxRecDepth 100000 in
theorem xw_156 : lw_tbl[1102]? = some (Cond.code (xm_y 156) (xm_c 156) (xm_l 156) (xm_r 156)) := rfl
set_option maxRecDepth 100000 in
theorem xw_157 : lw_tbl[1106]? = some (Cond.code (xm_y 157) (xm_c 157) (xm_l 157) (xm_r 157)) := rfl
set_option maxRecDepth 100000 in
theorem xw_158 : lw_tbl[1110]? = some (Cond.code (xm_y 158) (xm_c 158) (xm_l 158) (xm_r 158)) := rfl
set_option maxRecDepth 100000 in
theorem xw_159 : lw_tbl[1114]? = some (Cond.code (xm_y 159) (xm_c 159) (xm_l 159) (xm_r 159)) := rfl
set_option maxRecDepth 100000 in
theorem xw_160 : lw_tbl[1118]? = some (Cond.code (xm_y 160) (xm_c 160) (xm_l 160) (xm_r 160)) := rfl
set_option maxRecDepth 100000 in
theorem xw_161 : lw_tbl[1122]? = some (Cond.code (xm_y 161) (xm_c 161) (xm_l 161) (xm_r 161)) := rfl
set_option maxRecDepth 100000 in
theorem xw_162 : lw_tbl[1126]? = some (Cond.code (xm_y 162) (xm_c 162) (xm_l 162) (xm_r 162)) := rfl
set_option maxRecDepth 100000 in
theorem xw_163 : lw_tbl[1130]? = some (Cond.code (xm_y 163) (xm_c 163) (xm_l 163) (xm_r 163)) := rfl
set_option maxRecDepth 100000 in
theorem xw_164 : lw_tbl[1134]? = some (Cond.code (xm_y 164) (xm_c 164) (xm_l 164) (xm_r 164)) := rfl
set_option maxRecDepth 100000 in
theorem xw_165 : lw_tbl[1138]? = some (Cond.code (xm_y 165) (xm_c 165) (xm_l 165) (xm_r 165)) := rfl
set_option maxRecDepth 100000 in
theorem xw_166 : lw_tbl[815]? = some (Cond.code (xm_y 166) (xm_c 166) (xm_l 166) (xm_r 166)) := rfl
set_option maxRecDepth 100000 in
theorem xw_167 : lw_tbl[480]? = some (Cond.code (xm_y 167) (xm_c 167) (xm_l 167) (xm_r 167)) := rfl
set_option maxRecDepth 100000 in
theorem xw_168 : lw_tbl[485]? = some (Cond.code (xm_y 168) (xm_c 168) (xm_l 168) (xm_r 168)) := rfl
theorem xw_cm (mi : Nat) (h : mi + 1 < xt_n) : Cond.code (xm_y mi) (xm_c mi) (xm_l mi) (xm_r mi) ∈ xw_s := by
  refine List.mem_filter.mpr ⟨?_, rfl⟩
  have h : mi < 169 := by have h : mi + 1 < 170 := h; omega
  rcases Nat.lt_or_ge mi 85 with h1 | h1
  · rcases Nat.lt_or_ge mi 42 with h1 | h1
    · rcases Nat.lt_or_ge mi 21 with h1 | h1
      · rcases Nat.lt_or_ge mi 10 with h1 | h1
        · rcases Nat.lt_or_ge mi 5 with h1 | h1
          · rcases Nat.lt_or_ge mi 2 with h1 | h1
            · rcases Nat.lt_or_ge mi 1 with h1 | h1
              · obtain rfl : mi = 0 := by omega
                exact List.mem_of_getElem? xw_0
              · obtain rfl : mi = 1 := by omega
                exact List.mem_of_getElem? xw_1
            · rcases Nat.lt_or_ge mi 3 with h1 | h1
              · obtain rfl : mi = 2 := by omega
                exact List.mem_of_getElem? xw_2
              · rcases Nat.lt_or_ge mi 4 with h1 | h1
                · obtain rfl : mi = 3 := by omega
                  exact List.mem_of_getElem? xw_3
                · obtain rfl : mi = 4 := by omega
                  exact List.mem_of_getElem? xw_4
          · rcases Nat.lt_or_ge mi 7 with h1 | h1
            · rcases Nat.lt_or_ge mi 6 with h1 | h1
              · obtain rfl : mi = 5 := by omega
                exact List.mem_of_getElem? xw_5
              · obtain rfl : mi = 6 := by omega
                exact List.mem_of_getElem? xw_6
            · rcases Nat.lt_or_ge mi 8 with h1 | h1
              · obtain rfl : mi = 7 := by omega
                exact List.mem_of_getElem? xw_7
              · rcases Nat.lt_or_ge mi 9 with h1 | h1
                · obtain rfl : mi = 8 := by omega
                  exact List.mem_of_getElem? xw_8
                · obtain rfl : mi = 9 := by omega
                  exact List.mem_of_getElem? xw_9
        · rcases Nat.lt_or_ge mi 15 with h1 | h1
          · rcases Nat.lt_or_ge mi 12 with h1 | h1
            · rcases Nat.lt_or_ge mi 11 with h1 | h1
              · obtain rfl : mi = 10 := by omega
                exact List.mem_of_getElem? xw_10
              · obtain rfl : mi = 11 := by omega
                exact List.mem_of_getElem? xw_11
            · rcases Nat.lt_or_ge mi 13 with h1 | h1
              · obtain rfl : mi = 12 := by omega
                exact List.mem_of_getElem? xw_12
              · rcases Nat.lt_or_ge mi 14 with h1 | h1
                · obtain rfl : mi = 13 := by omega
                  exact List.mem_of_getElem? xw_13
                · obtain rfl : mi = 14 := by omega
                  exact List.mem_of_getElem? xw_14
          · rcases Nat.lt_or_ge mi 18 with h1 | h1
            · rcases Nat.lt_or_ge mi 16 with h1 | h1
              · obtain rfl : mi = 15 := by omega
                exact List.mem_of_getElem? xw_15
              · rcases Nat.lt_or_ge mi 17 with h1 | h1
                · obtain rfl : mi = 16 := by omega
                  exact List.mem_of_getElem? xw_16
                · obtain rfl : mi = 17 := by omega
                  exact List.mem_of_getElem? xw_17
            · rcases Nat.lt_or_ge mi 19 with h1 | h1
              · obtain rfl : mi = 18 := by omega
                exact List.mem_of_getElem? xw_18
              · rcases Nat.lt_or_ge mi 20 with h1 | h1
                · obtain rfl : mi = 19 := by omega
                  exact List.mem_of_getElem? xw_19
                · obtain rfl : mi = 20 := by omega
                  exact List.mem_of_getElem? xw_20
      · rcases Nat.lt_or_ge mi 31 with h1 | h1
        · rcases Nat.lt_or_ge mi 26 with h1 | h1
          · rcases Nat.lt_or_ge mi 23 with h1 | h1
            · rcases Nat.lt_or_ge mi 22 with h1 | h1
              · obtain rfl : mi = 21 := by omega
                exact List.mem_of_getElem? xw_21
              · obtain rfl : mi = 22 := by omega
                exact List.mem_of_getElem? xw_22
            · rcases Nat.lt_or_ge mi 24 with h1 | h1
              · obtain rfl : mi = 23 := by omega
                exact List.mem_of_getElem? xw_23
              · rcases Nat.lt_or_ge mi 25 with h1 | h1
                · obtain rfl : mi = 24 := by omega
                  exact List.mem_of_getElem? xw_24
                · obtain rfl : mi = 25 := by omega
                  exact List.mem_of_getElem? xw_25
          · rcases Nat.lt_or_ge mi 28 with h1 | h1
            · rcases Nat.lt_or_ge mi 27 with h1 | h1
              · obtain rfl : mi = 26 := by omega
                exact List.mem_of_getElem? xw_26
              · obtain rfl : mi = 27 := by omega
                exact List.mem_of_getElem? xw_27
            · rcases Nat.lt_or_ge mi 29 with h1 | h1
              · obtain rfl : mi = 28 := by omega
                exact List.mem_of_getElem? xw_28
              · rcases Nat.lt_or_ge mi 30 with h1 | h1
                · obtain rfl : mi = 29 := by omega
                  exact List.mem_of_getElem? xw_29
                · obtain rfl : mi = 30 := by omega
                  exact List.mem_of_getElem? xw_30
        · rcases Nat.lt_or_ge mi 36 with h1 | h1
          · rcases Nat.lt_or_ge mi 33 with h1 | h1
            · rcases Nat.lt_or_ge mi 32 with h1 | h1
              · obtain rfl : mi = 31 := by omega
                exact List.mem_of_getElem? xw_31
              · obtain rfl : mi = 32 := by omega
                exact List.mem_of_getElem? xw_32
            · rcases Nat.lt_or_ge mi 34 with h1 | h1
              · obtain rfl : mi = 33 := by omega
                exact List.mem_of_getElem? xw_33
              · rcases Nat.lt_or_ge mi 35 with h1 | h1
                · obtain rfl : mi = 34 := by omega
                  exact List.mem_of_getElem? xw_34
                · obtain rfl : mi = 35 := by omega
                  exact List.mem_of_getElem? xw_35
          · rcases Nat.lt_or_ge mi 39 with h1 | h1
            · rcases Nat.lt_or_ge mi 37 with h1 | h1
              · obtain rfl : mi = 36 := by omega
                exact List.mem_of_getElem? xw_36
              · rcases Nat.lt_or_ge mi 38 with h1 | h1
                · obtain rfl : mi = 37 := by omega
                  exact List.mem_of_getElem? xw_37
                · obtain rfl : mi = 38 := by omega
                  exact List.mem_of_getElem? xw_38
            · rcases Nat.lt_or_ge mi 40 with h1 | h1
              · obtain rfl : mi = 39 := by omega
                exact List.mem_of_getElem? xw_39
              · rcases Nat.lt_or_ge mi 41 with h1 | h1
                · obtain rfl : mi = 40 := by omega
                  exact List.mem_of_getElem? xw_40
                · obtain rfl : mi = 41 := by omega
                  exact List.mem_of_getElem? xw_41
    · rcases Nat.lt_or_ge mi 63 with h1 | h1
      · rcases Nat.lt_or_ge mi 52 with h1 | h1
        · rcases Nat.lt_or_ge mi 47 with h1 | h1
          · rcases Nat.lt_or_ge mi 44 with h1 | h1
            · rcases Nat.lt_or_ge mi 43 with h1 | h1
              · obtain rfl : mi = 42 := by omega
                exact List.mem_of_getElem? xw_42
              · obtain rfl : mi = 43 := by omega
                exact List.mem_of_getElem? xw_43
            · rcases Nat.lt_or_ge mi 45 with h1 | h1
              · obtain rfl : mi = 44 := by omega
                exact List.mem_of_getElem? xw_44
              · rcases Nat.lt_or_ge mi 46 with h1 | h1
                · obtain rfl : mi = 45 := by omega
                  exact List.mem_of_getElem? xw_45
                · obtain rfl : mi = 46 := by omega
                  exact List.mem_of_getElem? xw_46
          · rcases Nat.lt_or_ge mi 49 with h1 | h1
            · rcases Nat.lt_or_ge mi 48 with h1 | h1
              · obtain rfl : mi = 47 := by omega
                exact List.mem_of_getElem? xw_47
              · obtain rfl : mi = 48 := by omega
                exact List.mem_of_getElem? xw_48
            · rcases Nat.lt_or_ge mi 50 with h1 | h1
              · obtain rfl : mi = 49 := by omega
                exact List.mem_of_getElem? xw_49
              · rcases Nat.lt_or_ge mi 51 with h1 | h1
                · obtain rfl : mi = 50 := by omega
                  exact List.mem_of_getElem? xw_50
                · obtain rfl : mi = 51 := by omega
                  exact List.mem_of_getElem? xw_51
        · rcases Nat.lt_or_ge mi 57 with h1 | h1
          · rcases Nat.lt_or_ge mi 54 with h1 | h1
            · rcases Nat.lt_or_ge mi 53 with h1 | h1
              · obtain rfl : mi = 52 := by omega
                exact List.mem_of_getElem? xw_52
              · obtain rfl : mi = 53 := by omega
                exact List.mem_of_getElem? xw_53
            · rcases Nat.lt_or_ge mi 55 with h1 | h1
              · obtain rfl : mi = 54 := by omega
                exact List.mem_of_getElem? xw_54
              · rcases Nat.lt_or_ge mi 56 with h1 | h1
                · obtain rfl : mi = 55 := by omega
                  exact List.mem_of_getElem? xw_55
                · obtain rfl : mi = 56 := by omega
                  exact List.mem_of_getElem? xw_56
          · rcases Nat.lt_or_ge mi 60 with h1 | h1
            · rcases Nat.lt_or_ge mi 58 with h1 | h1
              · obtain rfl : mi = 57 := by omega
                exact List.mem_of_getElem? xw_57
              · rcases Nat.lt_or_ge mi 59 with h1 | h1
                · obtain rfl : mi = 58 := by omega
                  exact List.mem_of_getElem? xw_58
                · obtain rfl : mi = 59 := by omega
                  exact List.mem_of_getElem? xw_59
            · rcases Nat.lt_or_ge mi 61 with h1 | h1
              · obtain rfl : mi = 60 := by omega
                exact List.mem_of_getElem? xw_60
              · rcases Nat.lt_or_ge mi 62 with h1 | h1
                · obtain rfl : mi = 61 := by omega
                  exact List.mem_of_getElem? xw_61
                · obtain rfl : mi = 62 := by omega
                  exact List.mem_of_getElem? xw_62
      · rcases Nat.lt_or_ge mi 74 with h1 | h1
        · rcases Nat.lt_or_ge mi 68 with h1 | h1
          · rcases Nat.lt_or_ge mi 65 with h1 | h1
            · rcases Nat.lt_or_ge mi 64 with h1 | h1
              · obtain rfl : mi = 63 := by omega
                exact List.mem_of_getElem? xw_63
              · obtain rfl : mi = 64 := by omega
                exact List.mem_of_getElem? xw_64
            · rcases Nat.lt_or_ge mi 66 with h1 | h1
              · obtain rfl : mi = 65 := by omega
                exact List.mem_of_getElem? xw_65
              · rcases Nat.lt_or_ge mi 67 with h1 | h1
                · obtain rfl : mi = 66 := by omega
                  exact List.mem_of_getElem? xw_66
                · obtain rfl : mi = 67 := by omega
                  exact List.mem_of_getElem? xw_67
          · rcases Nat.lt_or_ge mi 71 with h1 | h1
            · rcases Nat.lt_or_ge mi 69 with h1 | h1
              · obtain rfl : mi = 68 := by omega
                exact List.mem_of_getElem? xw_68
              · rcases Nat.lt_or_ge mi 70 with h1 | h1
                · obtain rfl : mi = 69 := by omega
                  exact List.mem_of_getElem? xw_69
                · obtain rfl : mi = 70 := by omega
                  exact List.mem_of_getElem? xw_70
            · rcases Nat.lt_or_ge mi 72 with h1 | h1
              · obtain rfl : mi = 71 := by omega
                exact List.mem_of_getElem? xw_71
              · rcases Nat.lt_or_ge mi 73 with h1 | h1
                · obtain rfl : mi = 72 := by omega
                  exact List.mem_of_getElem? xw_72
                · obtain rfl : mi = 73 := by omega
                  exact List.mem_of_getElem? xw_73
        · rcases Nat.lt_or_ge mi 79 with h1 | h1
          · rcases Nat.lt_or_ge mi 76 with h1 | h1
            · rcases Nat.lt_or_ge mi 75 with h1 | h1
              · obtain rfl : mi = 74 := by omega
                exact List.mem_of_getElem? xw_74
              · obtain rfl : mi = 75 := by omega
                exact List.mem_of_getElem? xw_75
            · rcases Nat.lt_or_ge mi 77 with h1 | h1
              · obtain rfl : mi = 76 := by omega
                exact List.mem_of_getElem? xw_76
              · rcases Nat.lt_or_ge mi 78 with h1 | h1
                · obtain rfl : mi = 77 := by omega
                  exact List.mem_of_getElem? xw_77
                · obtain rfl : mi = 78 := by omega
                  exact List.mem_of_getElem? xw_78
          · rcases Nat.lt_or_ge mi 82 with h1 | h1
            · rcases Nat.lt_or_ge mi 80 with h1 | h1
              · obtain rfl : mi = 79 := by omega
                exact List.mem_of_getElem? xw_79
              · rcases Nat.lt_or_ge mi 81 with h1 | h1
                · obtain rfl : mi = 80 := by omega
                  exact List.mem_of_getElem? xw_80
                · obtain rfl : mi = 81 := by omega
                  exact List.mem_of_getElem? xw_81
            · rcases Nat.lt_or_ge mi 83 with h1 | h1
              · obtain rfl : mi = 82 := by omega
                exact List.mem_of_getElem? xw_82
              · rcases Nat.lt_or_ge mi 84 with h1 | h1
                · obtain rfl : mi = 83 := by omega
                  exact List.mem_of_getElem? xw_83
                · obtain rfl : mi = 84 := by omega
                  exact List.mem_of_getElem? xw_84
  · rcases Nat.lt_or_ge mi 127 with h1 | h1
    · rcases Nat.lt_or_ge mi 106 with h1 | h1
      · rcases Nat.lt_or_ge mi 95 with h1 | h1
        · rcases Nat.lt_or_ge mi 90 with h1 | h1
          · rcases Nat.lt_or_ge mi 87 with h1 | h1
            · rcases Nat.lt_or_ge mi 86 with h1 | h1
              · obtain rfl : mi = 85 := by omega
                exact List.mem_of_getElem? xw_85
              · obtain rfl : mi = 86 := by omega
                exact List.mem_of_getElem? xw_86
            · rcases Nat.lt_or_ge mi 88 with h1 | h1
              · obtain rfl : mi = 87 := by omega
                exact List.mem_of_getElem? xw_87
              · rcases Nat.lt_or_ge mi 89 with h1 | h1
                · obtain rfl : mi = 88 := by omega
                  exact List.mem_of_getElem? xw_88
                · obtain rfl : mi = 89 := by omega
                  exact List.mem_of_getElem? xw_89
          · rcases Nat.lt_or_ge mi 92 with h1 | h1
            · rcases Nat.lt_or_ge mi 91 with h1 | h1
              · obtain rfl : mi = 90 := by omega
                exact List.mem_of_getElem? xw_90
              · obtain rfl : mi = 91 := by omega
                exact List.mem_of_getElem? xw_91
            · rcases Nat.lt_or_ge mi 93 with h1 | h1
              · obtain rfl : mi = 92 := by omega
                exact List.mem_of_getElem? xw_92
              · rcases Nat.lt_or_ge mi 94 with h1 | h1
                · obtain rfl : mi = 93 := by omega
                  exact List.mem_of_getElem? xw_93
                · obtain rfl : mi = 94 := by omega
                  exact List.mem_of_getElem? xw_94
        · rcases Nat.lt_or_ge mi 100 with h1 | h1
          · rcases Nat.lt_or_ge mi 97 with h1 | h1
            · rcases Nat.lt_or_ge mi 96 with h1 | h1
              · obtain rfl : mi = 95 := by omega
                exact List.mem_of_getElem? xw_95
              · obtain rfl : mi = 96 := by omega
                exact List.mem_of_getElem? xw_96
            · rcases Nat.lt_or_ge mi 98 with h1 | h1
              · obtain rfl : mi = 97 := by omega
                exact List.mem_of_getElem? xw_97
              · rcases Nat.lt_or_ge mi 99 with h1 | h1
                · obtain rfl : mi = 98 := by omega
                  exact List.mem_of_getElem? xw_98
                · obtain rfl : mi = 99 := by omega
                  exact List.mem_of_getElem? xw_99
          · rcases Nat.lt_or_ge mi 103 with h1 | h1
            · rcases Nat.lt_or_ge mi 101 with h1 | h1
              · obtain rfl : mi = 100 := by omega
                exact List.mem_of_getElem? xw_100
              · rcases Nat.lt_or_ge mi 102 with h1 | h1
                · obtain rfl : mi = 101 := by omega
                  exact List.mem_of_getElem? xw_101
                · obtain rfl : mi = 102 := by omega
                  exact List.mem_of_getElem? xw_102
            · rcases Nat.lt_or_ge mi 104 with h1 | h1
              · obtain rfl : mi = 103 := by omega
                exact List.mem_of_getElem? xw_103
              · rcases Nat.lt_or_ge mi 105 with h1 | h1
                · obtain rfl : mi = 104 := by omega
                  exact List.mem_of_getElem? xw_104
                · obtain rfl : mi = 105 := by omega
                  exact List.mem_of_getElem? xw_105
      · rcases Nat.lt_or_ge mi 116 with h1 | h1
        · rcases Nat.lt_or_ge mi 111 with h1 | h1
          · rcases Nat.lt_or_ge mi 108 with h1 | h1
            · rcases Nat.lt_or_ge mi 107 with h1 | h1
              · obtain rfl : mi = 106 := by omega
                exact List.mem_of_getElem? xw_106
              · obtain rfl : mi = 107 := by omega
                exact List.mem_of_getElem? xw_107
            · rcases Nat.lt_or_ge mi 109 with h1 | h1
              · obtain rfl : mi = 108 := by omega
                exact List.mem_of_getElem? xw_108
              · rcases Nat.lt_or_ge mi 110 with h1 | h1
                · obtain rfl : mi = 109 := by omega
                  exact List.mem_of_getElem? xw_109
                · obtain rfl : mi = 110 := by omega
                  exact List.mem_of_getElem? xw_110
          · rcases Nat.lt_or_ge mi 113 with h1 | h1
            · rcases Nat.lt_or_ge mi 112 with h1 | h1
              · obtain rfl : mi = 111 := by omega
                exact List.mem_of_getElem? xw_111
              · obtain rfl : mi = 112 := by omega
                exact List.mem_of_getElem? xw_112
            · rcases Nat.lt_or_ge mi 114 with h1 | h1
              · obtain rfl : mi = 113 := by omega
                exact List.mem_of_getElem? xw_113
              · rcases Nat.lt_or_ge mi 115 with h1 | h1
                · obtain rfl : mi = 114 := by omega
                  exact List.mem_of_getElem? xw_114
                · obtain rfl : mi = 115 := by omega
                  exact List.mem_of_getElem? xw_115
        · rcases Nat.lt_or_ge mi 121 with h1 | h1
          · rcases Nat.lt_or_ge mi 118 with h1 | h1
            · rcases Nat.lt_or_ge mi 117 with h1 | h1
              · obtain rfl : mi = 116 := by omega
                exact List.mem_of_getElem? xw_116
              · obtain rfl : mi = 117 := by omega
                exact List.mem_of_getElem? xw_117
            · rcases Nat.lt_or_ge mi 119 with h1 | h1
              · obtain rfl : mi = 118 := by omega
                exact List.mem_of_getElem? xw_118
              · rcases Nat.lt_or_ge mi 120 with h1 | h1
                · obtain rfl : mi = 119 := by omega
                  exact List.mem_of_getElem? xw_119
                · obtain rfl : mi = 120 := by omega
                  exact List.mem_of_getElem? xw_120
          · rcases Nat.lt_or_ge mi 124 with h1 | h1
            · rcases Nat.lt_or_ge mi 122 with h1 | h1
              · obtain rfl : mi = 121 := by omega
                exact List.mem_of_getElem? xw_121
              · rcases Nat.lt_or_ge mi 123 with h1 | h1
                · obtain rfl : mi = 122 := by omega
                  exact List.mem_of_getElem? xw_122
                · obtain rfl : mi = 123 := by omega
                  exact List.mem_of_getElem? xw_123
            · rcases Nat.lt_or_ge mi 125 with h1 | h1
              · obtain rfl : mi = 124 := by omega
                exact List.mem_of_getElem? xw_124
              · rcases Nat.lt_or_ge mi 126 with h1 | h1
                · obtain rfl : mi = 125 := by omega
                  exact List.mem_of_getElem? xw_125
                · obtain rfl : mi = 126 := by omega
                  exact List.mem_of_getElem? xw_126
    · rcases Nat.lt_or_ge mi 148 with h1 | h1
      · rcases Nat.lt_or_ge mi 137 with h1 | h1
        · rcases Nat.lt_or_ge mi 132 with h1 | h1
          · rcases Nat.lt_or_ge mi 129 with h1 | h1
            · rcases Nat.lt_or_ge mi 128 with h1 | h1
              · obtain rfl : mi = 127 := by omega
                exact List.mem_of_getElem? xw_127
              · obtain rfl : mi = 128 := by omega
                exact List.mem_of_getElem? xw_128
            · rcases Nat.lt_or_ge mi 130 with h1 | h1
              · obtain rfl : mi = 129 := by omega
                exact List.mem_of_getElem? xw_129
              · rcases Nat.lt_or_ge mi 131 with h1 | h1
                · obtain rfl : mi = 130 := by omega
                  exact List.mem_of_getElem? xw_130
                · obtain rfl : mi = 131 := by omega
                  exact List.mem_of_getElem? xw_131
          · rcases Nat.lt_or_ge mi 134 with h1 | h1
            · rcases Nat.lt_or_ge mi 133 with h1 | h1
              · obtain rfl : mi = 132 := by omega
                exact List.mem_of_getElem? xw_132
              · obtain rfl : mi = 133 := by omega
                exact List.mem_of_getElem? xw_133
            · rcases Nat.lt_or_ge mi 135 with h1 | h1
              · obtain rfl : mi = 134 := by omega
                exact List.mem_of_getElem? xw_134
              · rcases Nat.lt_or_ge mi 136 with h1 | h1
                · obtain rfl : mi = 135 := by omega
                  exact List.mem_of_getElem? xw_135
                · obtain rfl : mi = 136 := by omega
                  exact List.mem_of_getElem? xw_136
        · rcases Nat.lt_or_ge mi 142 with h1 | h1
          · rcases Nat.lt_or_ge mi 139 with h1 | h1
            · rcases Nat.lt_or_ge mi 138 with h1 | h1
              · obtain rfl : mi = 137 := by omega
                exact List.mem_of_getElem? xw_137
              · obtain rfl : mi = 138 := by omega
                exact List.mem_of_getElem? xw_138
            · rcases Nat.lt_or_ge mi 140 with h1 | h1
              · obtain rfl : mi = 139 := by omega
                exact List.mem_of_getElem? xw_139
              · rcases Nat.lt_or_ge mi 141 with h1 | h1
                · obtain rfl : mi = 140 := by omega
                  exact List.mem_of_getElem? xw_140
                · obtain rfl : mi = 141 := by omega
                  exact List.mem_of_getElem? xw_141
          · rcases Nat.lt_or_ge mi 145 with h1 | h1
            · rcases Nat.lt_or_ge mi 143 with h1 | h1
              · obtain rfl : mi = 142 := by omega
                exact List.mem_of_getElem? xw_142
              · rcases Nat.lt_or_ge mi 144 with h1 | h1
                · obtain rfl : mi = 143 := by omega
                  exact List.mem_of_getElem? xw_143
                · obtain rfl : mi = 144 := by omega
                  exact List.mem_of_getElem? xw_144
            · rcases Nat.lt_or_ge mi 146 with h1 | h1
              · obtain rfl : mi = 145 := by omega
                exact List.mem_of_getElem? xw_145
              · rcases Nat.lt_or_ge mi 147 with h1 | h1
                · obtain rfl : mi = 146 := by omega
                  exact List.mem_of_getElem? xw_146
                · obtain rfl : mi = 147 := by omega
                  exact List.mem_of_getElem? xw_147
      · rcases Nat.lt_or_ge mi 158 with h1 | h1
        · rcases Nat.lt_or_ge mi 153 with h1 | h1
          · rcases Nat.lt_or_ge mi 150 with h1 | h1
            · rcases Nat.lt_or_ge mi 149 with h1 | h1
              · obtain rfl : mi = 148 := by omega
                exact List.mem_of_getElem? xw_148
              · obtain rfl : mi = 149 := by omega
                exact List.mem_of_getElem? xw_149
            · rcases Nat.lt_or_ge mi 151 with h1 | h1
              · obtain rfl : mi = 150 := by omega
                exact List.mem_of_getElem? xw_150
              · rcases Nat.lt_or_ge mi 152 with h1 | h1
                · obtain rfl : mi = 151 := by omega
                  exact List.mem_of_getElem? xw_151
                · obtain rfl : mi = 152 := by omega
                  exact List.mem_of_getElem? xw_152
          · rcases Nat.lt_or_ge mi 155 with h1 | h1
            · rcases Nat.lt_or_ge mi 154 with h1 | h1
              · obtain rfl : mi = 153 := by omega
                exact List.mem_of_getElem? xw_153
              · obtain rfl : mi = 154 := by omega
                exact List.mem_of_getElem? xw_154
            · rcases Nat.lt_or_ge mi 156 with h1 | h1
              · obtain rfl : mi = 155 := by omega
                exact List.mem_of_getElem? xw_155
              · rcases Nat.lt_or_ge mi 157 with h1 | h1
                · obtain rfl : mi = 156 := by omega
                  exact List.mem_of_getElem? xw_156
                · obtain rfl : mi = 157 := by omega
                  exact List.mem_of_getElem? xw_157
        · rcases Nat.lt_or_ge mi 163 with h1 | h1
          · rcases Nat.lt_or_ge mi 160 with h1 | h1
            · rcases Nat.lt_or_ge mi 159 with h1 | h1
              · obtain rfl : mi = 158 := by omega
                exact List.mem_of_getElem? xw_158
              · obtain rfl : mi = 159 := by omega
                exact List.mem_of_getElem? xw_159
            · rcases Nat.lt_or_ge mi 161 with h1 | h1
              · obtain rfl : mi = 160 := by omega
                exact List.mem_of_getElem? xw_160
              · rcases Nat.lt_or_ge mi 162 with h1 | h1
                · obtain rfl : mi = 161 := by omega
                  exact List.mem_of_getElem? xw_161
                · obtain rfl : mi = 162 := by omega
                  exact List.mem_of_getElem? xw_162
          · rcases Nat.lt_or_ge mi 166 with h1 | h1
            · rcases Nat.lt_or_ge mi 164 with h1 | h1
              · obtain rfl : mi = 163 := by omega
                exact List.mem_of_getElem? xw_163
              · rcases Nat.lt_or_ge mi 165 with h1 | h1
                · obtain rfl : mi = 164 := by omega
                  exact List.mem_of_getElem? xw_164
                · obtain rfl : mi = 165 := by omega
                  exact List.mem_of_getElem? xw_165
            · rcases Nat.lt_or_ge mi 167 with h1 | h1
              · obtain rfl : mi = 166 := by omega
                exact List.mem_of_getElem? xw_166
              · rcases Nat.lt_or_ge mi 168 with h1 | h1
                · obtain rfl : mi = 167 := by omega
                  exact List.mem_of_getElem? xw_167
                · obtain rfl : mi = 168 := by omega
                  exact List.mem_of_getElem? xw_168
