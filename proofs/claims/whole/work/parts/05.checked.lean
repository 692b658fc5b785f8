/-! every method is checked (kernel); the code words of the tables -/
set_option maxRecDepth 100000 in
theorem ai_cw_min : lw_tbl[331]? = some (.code Lib.Math.min.name Lib.Math.min.code 2 (some .int)) := rfl
set_option maxRecDepth 100000 in
theorem ai_cw_max : lw_tbl[554]? = some (.code Lib.Math.max.name Lib.Math.max.code 2 (some .int)) := rfl
set_option maxRecDepth 100000 in
theorem ai_cd_0 : lw_tbl[222]? = some (.code yX0_init cX0_init 1 none) := rfl
set_option maxRecDepth 100000 in
theorem ai_cd_1 : lw_tbl[533]? = some (.code yX0_add cX0_add 4 (some .boolean)) := rfl
set_option maxRecDepth 100000 in
theorem ai_cd_2 : lw_tbl[163]? = some (.code yX1_init cX1_init 1 none) := rfl
set_option maxRecDepth 100000 in
theorem ai_cd_3 : lw_tbl[244]? = some (.code yX1_begin cX1_begin 3 none) := rfl
set_option maxRecDepth 100000 in
theorem ai_cd_4 : lw_tbl[402]? = some (.code yX1_become cX1_become 3 none) := rfl
set_option maxRecDepth 100000 in
theorem ai_cd_5 : lw_tbl[202]? = some (.code yX2_init cX2_init 2 none) := rfl
set_option maxRecDepth 100000 in
theorem ai_cd_6 : lw_tbl[395]? = some (.code yX2_remember cX2_remember 3 none) := rfl
set_option maxRecDepth 100000 in
theorem ai_cd_7 : lw_tbl[454]? = some (.code yX2_recall cX2_recall 4 none) := rfl
set_option maxRecDepth 100000 in
theorem ai_cd_8 : lw_tbl[78]? = some (.code yX3_init cX3_init 1 none) := rfl
set_option maxRecDepth 100000 in
theorem ai_cd_9 : lw_tbl[314]? = some (.code yX3_begin cX3_begin 1 none) := rfl
set_option maxRecDepth 100000 in
theorem ai_cd_10 : lw_tbl[355]? = some (.code yX3_tellCaller cX3_tellCaller 3 none) := rfl
set_option maxRecDepth 100000 in
theorem ai_cd_11 : lw_tbl[122]? = some (.code yX4_init cX4_init 1 none) := rfl
set_option maxRecDepth 100000 in
theorem ai_cd_12 : lw_tbl[289]? = some (.code yX4_add cX4_add 2 (some .boolean)) := rfl
set_option maxRecDepth 100000 in
theorem ai_cd_13 : lw_tbl[298]? = some (.code yX4_empty cX4_empty 2 (some .int)) := rfl
set_option maxRecDepth 100000 in
theorem ai_cd_14 : lw_tbl[306]? = some (.code yX4_tell cX4_tell 4 (some .int)) := rfl
set_option maxRecDepth 100000 in
theorem ai_cd_15 : lw_tbl[310]? = some (.code yX4_begin cX4_begin 1 none) := rfl
set_option maxRecDepth 100000 in
theorem ai_cd_16 : lw_tbl[335]? = some (.code yX4_takeToken cX4_takeToken 2 (some .boolean)) := rfl
set_option maxRecDepth 100000 in
theorem ai_cd_17 : lw_tbl[339]? = some (.code yX4_takeLetter cX4_takeLetter 3 (some .boolean)) := rfl
set_option maxRecDepth 100000 in
theorem ai_cd_18 : lw_tbl[343]? = some (.code yX4_takeNumber cX4_takeNumber 2 (some .boolean)) := rfl
set_option maxRecDepth 100000 in
theorem ai_cd_19 : lw_tbl[347]? = some (.code yX4_leastNumber cX4_leastNumber 2 (some .int)) := rfl
set_option maxRecDepth 100000 in
theorem ai_cd_20 : lw_tbl[351]? = some (.code yX4_mostNumber cX4_mostNumber 1 (some .int)) := rfl
set_option maxRecDepth 100000 in
theorem ai_cd_21 : lw_tbl[318]? = some (.code yX4_readToken cX4_readToken 1 none) := rfl
set_option maxRecDepth 100000 in
theorem ai_cd_22 : lw_tbl[328]? = some (.code yX4_readNumber cX4_readNumber 3 none) := rfl
set_option maxRecDepth 100000 in
theorem ai_cd_23 : lw_tbl[324]? = some (.code yX4_isDigit cX4_isDigit 1 (some .boolean)) := rfl
set_option maxRecDepth 100000 in
theorem ai_cd_24 : lw_tbl[70]? = some (.code yX5_init cX5_init 2 none) := rfl
set_option maxRecDepth 100000 in
theorem ai_cd_25 : lw_tbl[285]? = some (.code yX5_type cX5_type 2 (some .int)) := rfl
set_option maxRecDepth 100000 in
theorem ai_cd_26 : lw_tbl[294]? = some (.code yX5_clear cX5_clear 1 (some .int)) := rfl
set_option maxRecDepth 100000 in
theorem ai_cd_27 : lw_tbl[302]? = some (.code yX5_embassy cX5_embassy 3 (some .int)) := rfl
set_option maxRecDepth 100000 in
theorem ai_cd_28 : lw_tbl[360]? = some (.code yX5_caller cX5_caller 3 (some .int)) := rfl
set_option maxRecDepth 100000 in
theorem ai_cd_29 : lw_tbl[376]? = some (.code yX5_now cX5_now 2 (some .int)) := rfl
set_option maxRecDepth 100000 in
theorem ai_cd_30 : lw_tbl[364]? = some (.code yX5_isCaller cX5_isCaller 2 (some .boolean)) := rfl
set_option maxRecDepth 100000 in
theorem ai_cd_31 : lw_tbl[380]? = some (.code yX5_landOf cX5_landOf 4 (some .int)) := rfl
set_option maxRecDepth 100000 in
theorem ai_cd_32 : lw_tbl[372]? = some (.code yX5_ringOf cX5_ringOf 4 (some .int)) := rfl
set_option maxRecDepth 100000 in
theorem ai_cd_33 : lw_tbl[384]? = some (.code yX5_traded cX5_traded 3 (some .int)) := rfl
set_option maxRecDepth 100000 in
theorem ai_cd_34 : lw_tbl[388]? = some (.code yX5_shakes cX5_shakes 4 (some .int)) := rfl
set_option maxRecDepth 100000 in
theorem ai_cd_35 : lw_tbl[434]? = some (.code yX5_opens cX5_opens 2 (some .int)) := rfl
set_option maxRecDepth 100000 in
theorem ai_cd_36 : lw_tbl[438]? = some (.code yX5_lines cX5_lines 3 (some .int)) := rfl
set_option maxRecDepth 100000 in
theorem ai_cd_37 : lw_tbl[442]? = some (.code yX5_winds cX5_winds 2 (some .int)) := rfl
set_option maxRecDepth 100000 in
theorem ai_cd_38 : lw_tbl[446]? = some (.code yX5_consoles cX5_consoles 3 (some .int)) := rfl
set_option maxRecDepth 100000 in
theorem ai_cd_39 : lw_tbl[450]? = some (.code yX5_undo cX5_undo 1 (some .int)) := rfl
set_option maxRecDepth 100000 in
theorem ai_cd_40 : lw_tbl[409]? = some (.code yX5_bruise cX5_bruise 2 (some .int)) := rfl
set_option maxRecDepth 100000 in
theorem ai_cd_41 : lw_tbl[414]? = some (.code yX5_warmth cX5_warmth 2 (some .int)) := rfl
set_option maxRecDepth 100000 in
theorem ai_cd_42 : lw_tbl[418]? = some (.code yX5_decide cX5_decide 3 (some .int)) := rfl
set_option maxRecDepth 100000 in
theorem ai_cd_43 : lw_tbl[430]? = some (.code yX5_countShake cX5_countShake 2 none) := rfl
set_option maxRecDepth 100000 in
theorem ai_cd_44 : lw_tbl[422]? = some (.code yX5_wouldYield cX5_wouldYield 4 (some .boolean)) := rfl
set_option maxRecDepth 100000 in
theorem ai_cd_45 : lw_tbl[426]? = some (.code yX5_wouldLeave cX5_wouldLeave 3 (some .boolean)) := rfl
set_option maxRecDepth 100000 in
theorem ai_cd_46 : lw_tbl[458]? = some (.code yX5_way cX5_way 4 (some .int)) := rfl
set_option maxRecDepth 100000 in
theorem ai_cd_47 : lw_tbl[485]? = some (.code yX5_gain cX5_gain 10 (some .int)) := rfl
set_option maxRecDepth 100000 in
theorem ai_cd_48 : lw_tbl[497]? = some (.code yX5_tune cX5_tune 5 (some .int)) := rfl
set_option maxRecDepth 100000 in
theorem ai_cd_49 : lw_tbl[509]? = some (.code yX5_odds cX5_odds 8 (some .int)) := rfl
set_option maxRecDepth 100000 in
theorem ai_cd_50 : lw_tbl[462]? = some (.code yX5_mayBeWon cX5_mayBeWon 2 (some .boolean)) := rfl
set_option maxRecDepth 100000 in
theorem ai_cd_51 : lw_tbl[466]? = some (.code yX5_reckonWay cX5_reckonWay 4 (some .int)) := rfl
set_option maxRecDepth 100000 in
theorem ai_cd_52 : lw_tbl[469]? = some (.code yX5_cell cX5_cell 2 (some .int)) := rfl
set_option maxRecDepth 100000 in
theorem ai_cd_53 : lw_tbl[473]? = some (.code yX5_fewestBehind cX5_fewestBehind 7 (some .int)) := rfl
set_option maxRecDepth 100000 in
theorem ai_cd_54 : lw_tbl[477]? = some (.code yX5_fewestNext cX5_fewestNext 4 (some .int)) := rfl
set_option maxRecDepth 100000 in
theorem ai_cd_55 : lw_tbl[481]? = some (.code yX5_turnOfWay cX5_turnOfWay 5 (some .int)) := rfl
set_option maxRecDepth 100000 in
theorem ai_cd_56 : lw_tbl[489]? = some (.code yX5_measureWays cX5_measureWays 2 none) := rfl
set_option maxRecDepth 100000 in
theorem ai_cd_57 : lw_tbl[493]? = some (.code yX5_lengthOfWays cX5_lengthOfWays 4 (some .int)) := rfl
set_option maxRecDepth 100000 in
theorem ai_cd_58 : lw_tbl[501]? = some (.code yX5_bringsJust cX5_bringsJust 7 (some .boolean)) := rfl
set_option maxRecDepth 100000 in
theorem ai_cd_59 : lw_tbl[505]? = some (.code yX5_tryPlain cX5_tryPlain 6 (some .int)) := rfl
set_option maxRecDepth 100000 in
theorem ai_cd_60 : lw_tbl[518]? = some (.code yX5_waysToLeave cX5_waysToLeave 6 (some .int)) := rfl
set_option maxRecDepth 100000 in
theorem ai_cd_61 : lw_tbl[521]? = some (.code yX5_power cX5_power 4 (some .int)) := rfl
set_option maxRecDepth 100000 in
theorem ai_cd_62 : lw_tbl[524]? = some (.code yX5_commonDivisor cX5_commonDivisor 6 (some .int)) := rfl
set_option maxRecDepth 100000 in
theorem ai_cd_63 : lw_tbl[529]? = some (.code yX5_tells cX5_tells 4 (some .int)) := rfl
set_option maxRecDepth 100000 in
theorem ai_cd_64 : lw_tbl[538]? = some (.code yX5_forget cX5_forget 2 (some .int)) := rfl
set_option maxRecDepth 100000 in
theorem ai_cd_65 : lw_tbl[542]? = some (.code yX5_soft cX5_soft 5 (some .int)) := rfl
set_option maxRecDepth 100000 in
theorem ai_cd_66 : lw_tbl[550]? = some (.code yX5_ask cX5_ask 9 (some .int)) := rfl
set_option maxRecDepth 100000 in
theorem ai_cd_67 : lw_tbl[546]? = some (.code yX5_yieldingVelvets cX5_yieldingVelvets 5 (some .int)) := rfl
set_option maxRecDepth 100000 in
theorem ai_cd_68 : lw_tbl[558]? = some (.code yX5_rate cX5_rate 3 (some .int)) := rfl
set_option maxRecDepth 100000 in
theorem ai_cd_69 : lw_tbl[592]? = some (.code yX5_keep cX5_keep 3 (some .int)) := rfl
set_option maxRecDepth 100000 in
theorem ai_cd_70 : lw_tbl[598]? = some (.code yX5_back cX5_back 3 (some .int)) := rfl
set_option maxRecDepth 100000 in
theorem ai_cd_71 : lw_tbl[602]? = some (.code yX5_count cX5_count 2 (some .int)) := rfl
set_option maxRecDepth 100000 in
theorem ai_cd_72 : lw_tbl[606]? = some (.code yX5_trace cX5_trace 1 (some .long)) := rfl
set_option maxRecDepth 100000 in
theorem ai_cd_73 : lw_tbl[563]? = some (.code yX5_rateCaller cX5_rateCaller 2 (some .int)) := rfl
set_option maxRecDepth 100000 in
theorem ai_cd_74 : lw_tbl[567]? = some (.code yX5_rateCount cX5_rateCount 2 (some .int)) := rfl
set_option maxRecDepth 100000 in
theorem ai_cd_75 : lw_tbl[572]? = some (.code yX5_rateCharge cX5_rateCharge 2 (some .int)) := rfl
set_option maxRecDepth 100000 in
theorem ai_cd_76 : lw_tbl[577]? = some (.code yX5_rateNuncio cX5_rateNuncio 2 (some .int)) := rfl
set_option maxRecDepth 100000 in
theorem ai_cd_77 : lw_tbl[582]? = some (.code yX5_rateEnvoy cX5_rateEnvoy 2 (some .int)) := rfl
set_option maxRecDepth 100000 in
theorem ai_cd_78 : lw_tbl[587]? = some (.code yX5_rateNun cX5_rateNun 2 (some .int)) := rfl
set_option maxRecDepth 100000 in
theorem ai_cd_79 : lw_tbl[321]? = some (.code yX5_at cX5_at 2 (some .int)) := rfl
set_option maxRecDepth 100000 in
theorem ai_cd_80 : lw_tbl[247]? = some (.code yX5_put cX5_put 3 none) := rfl
set_option maxRecDepth 100000 in
theorem ai_cd_81 : lw_tbl[398]? = some (.code yX5_momentAt cX5_momentAt 2 (some (.object "VelvetHand$Moment"))) := rfl
set_option maxRecDepth 100000 in
theorem ai_cd_82 : lw_tbl[368]? = some (.code yX5_isIn cX5_isIn 2 (some .boolean)) := rfl
set_option maxRecDepth 100000 in
theorem ai_cd_83 : lw_tbl[391]? = some (.code yX5_isOneOrZero cX5_isOneOrZero 1 (some .boolean)) := rfl
set_option maxRecDepth 100000 in
theorem ai_cd_84 : lw_tbl[611]? = some (.code yX6_init cX6_init 1 none) := rfl
set_option maxRecDepth 100000 in
theorem ai_cd_85 : lw_tbl[710]? = some (.code yX6_in cX6_in 3 (some .boolean)) := rfl
set_option maxRecDepth 100000 in
theorem ai_cd_86 : lw_tbl[775]? = some (.code yX6_has cX6_has 2 (some .boolean)) := rfl
set_option maxRecDepth 100000 in
theorem ai_cd_87 : lw_tbl[855]? = some (.code yX6_ones cX6_ones 3 (some .int)) := rfl
set_option maxRecDepth 100000 in
theorem ai_cd_88 : lw_tbl[707]? = some (.code yX6_type cX6_type 2 (some .int)) := rfl
set_option maxRecDepth 100000 in
theorem ai_cd_89 : lw_tbl[714]? = some (.code yX6_clear cX6_clear 2 (some .int)) := rfl
set_option maxRecDepth 100000 in
theorem ai_cd_90 : lw_tbl[726]? = some (.code yX6_letterAt cX6_letterAt 2 (some .int)) := rfl
set_option maxRecDepth 100000 in
theorem ai_cd_91 : lw_tbl[729]? = some (.code yX6_isLetter cX6_isLetter 1 (some .boolean)) := rfl
set_option maxRecDepth 100000 in
theorem ai_cd_92 : lw_tbl[722]? = some (.code yX6_advances cX6_advances 2 none) := rfl
set_option maxRecDepth 100000 in
theorem ai_cd_93 : lw_tbl[733]? = some (.code yX6_isWell cX6_isWell 1 (some .boolean)) := rfl
set_option maxRecDepth 100000 in
theorem ai_cd_94 : lw_tbl[744]? = some (.code yX6_takes cX6_takes 3 (some .int)) := rfl
set_option maxRecDepth 100000 in
theorem ai_cd_95 : lw_tbl[752]? = some (.code yX6_number cX6_number 3 (some .int)) := rfl
set_option maxRecDepth 100000 in
theorem ai_cd_96 : lw_tbl[616]? = some (.code yX6_begins cX6_begins 1 none) := rfl
set_option maxRecDepth 100000 in
theorem ai_cd_97 : lw_tbl[740]? = some (.code yX6_bitOf cX6_bitOf 1 (some .int)) := rfl
set_option maxRecDepth 100000 in
theorem ai_cd_98 : lw_tbl[737]? = some (.code yX6_mayBegin cX6_mayBegin 1 (some .boolean)) := rfl
set_option maxRecDepth 100000 in
theorem ai_cd_99 : lw_tbl[748]? = some (.code yX6_readsItem cX6_readsItem 3 none) := rfl
set_option maxRecDepth 100000 in
theorem ai_cd_100 : lw_tbl[718]? = some (.code yX6_embassy cX6_embassy 3 (some .int)) := rfl
set_option maxRecDepth 100000 in
theorem ai_cd_101 : lw_tbl[620]? = some (.code yX6_settles cX6_settles 2 none) := rfl
set_option maxRecDepth 100000 in
theorem ai_cd_102 : lw_tbl[760]? = some (.code yX6_isCaller cX6_isCaller 2 (some .boolean)) := rfl
set_option maxRecDepth 100000 in
theorem ai_cd_103 : lw_tbl[764]? = some (.code yX6_ringOf cX6_ringOf 4 (some .int)) := rfl
set_option maxRecDepth 100000 in
theorem ai_cd_104 : lw_tbl[756]? = some (.code yX6_caller cX6_caller 3 (some .int)) := rfl
set_option maxRecDepth 100000 in
theorem ai_cd_105 : lw_tbl[772]? = some (.code yX6_landOf cX6_landOf 4 (some .int)) := rfl
set_option maxRecDepth 100000 in
theorem ai_cd_106 : lw_tbl[779]? = some (.code yX6_traded cX6_traded 3 (some .int)) := rfl
set_option maxRecDepth 100000 in
theorem ai_cd_107 : lw_tbl[768]? = some (.code yX6_now cX6_now 2 (some .int)) := rfl
set_option maxRecDepth 100000 in
theorem ai_cd_108 : lw_tbl[787]? = some (.code yX6_notes cX6_notes 2 none) := rfl
set_option maxRecDepth 100000 in
theorem ai_cd_109 : lw_tbl[795]? = some (.code yX6_shake cX6_shake 5 (some .int)) := rfl
set_option maxRecDepth 100000 in
theorem ai_cd_110 : lw_tbl[791]? = some (.code yX6_aside cX6_aside 2 none) := rfl
set_option maxRecDepth 100000 in
theorem ai_cd_111 : lw_tbl[783]? = some (.code yX6_shakes cX6_shakes 5 (some .int)) := rfl
set_option maxRecDepth 100000 in
theorem ai_cd_112 : lw_tbl[799]? = some (.code yX6_opens cX6_opens 2 (some .int)) := rfl
set_option maxRecDepth 100000 in
theorem ai_cd_113 : lw_tbl[803]? = some (.code yX6_lines cX6_lines 3 (some .int)) := rfl
set_option maxRecDepth 100000 in
theorem ai_cd_114 : lw_tbl[807]? = some (.code yX6_winds cX6_winds 2 (some .int)) := rfl
set_option maxRecDepth 100000 in
theorem ai_cd_115 : lw_tbl[811]? = some (.code yX6_consoles cX6_consoles 3 (some .int)) := rfl
set_option maxRecDepth 100000 in
theorem ai_cd_116 : lw_tbl[815]? = some (.code yX6_undo cX6_undo 2 (some .int)) := rfl
set_option maxRecDepth 100000 in
theorem ai_cd_117 : lw_tbl[831]? = some (.code yX6_yieldsBy cX6_yieldsBy 6 (some .boolean)) := rfl
set_option maxRecDepth 100000 in
theorem ai_cd_118 : lw_tbl[827]? = some (.code yX6_wayBy cX6_wayBy 4 (some .int)) := rfl
set_option maxRecDepth 100000 in
theorem ai_cd_119 : lw_tbl[823]? = some (.code yX6_isGone cX6_isGone 2 (some .boolean)) := rfl
set_option maxRecDepth 100000 in
theorem ai_cd_120 : lw_tbl[819]? = some (.code yX6_way cX6_way 5 (some .int)) := rfl
set_option maxRecDepth 100000 in
theorem ai_cd_121 : lw_tbl[840]? = some (.code yX6_shakesFor cX6_shakesFor 4 (some .int)) := rfl
set_option maxRecDepth 100000 in
theorem ai_cd_122 : lw_tbl[835]? = some (.code yX6_gain cX6_gain 7 (some .int)) := rfl
set_option maxRecDepth 100000 in
theorem ai_cd_123 : lw_tbl[848]? = some (.code yX6_comesOf cX6_comesOf 7 (some .int)) := rfl
set_option maxRecDepth 100000 in
theorem ai_cd_124 : lw_tbl[844]? = some (.code yX6_tune cX6_tune 6 (some .int)) := rfl
set_option maxRecDepth 100000 in
theorem ai_cd_125 : lw_tbl[858]? = some (.code yX6_power cX6_power 4 (some .int)) := rfl
set_option maxRecDepth 100000 in
theorem ai_cd_126 : lw_tbl[861]? = some (.code yX6_gcd cX6_gcd 5 (some .int)) := rfl
set_option maxRecDepth 100000 in
theorem ai_cd_127 : lw_tbl[852]? = some (.code yX6_odds cX6_odds 8 (some .int)) := rfl
set_option maxRecDepth 100000 in
theorem ai_cd_128 : lw_tbl[865]? = some (.code yX6_tells cX6_tells 4 (some .int)) := rfl
set_option maxRecDepth 100000 in
theorem ai_cd_129 : lw_tbl[869]? = some (.code yX6_forget cX6_forget 2 (some .int)) := rfl
set_option maxRecDepth 100000 in
theorem ai_cd_130 : lw_tbl[877]? = some (.code yX6_softOnes cX6_softOnes 5 (some .int)) := rfl
set_option maxRecDepth 100000 in
theorem ai_cd_131 : lw_tbl[873]? = some (.code yX6_soft cX6_soft 1 (some .int)) := rfl
set_option maxRecDepth 100000 in
theorem ai_cd_132 : lw_tbl[881]? = some (.code yX6_ask cX6_ask 9 (some .int)) := rfl
set_option maxRecDepth 100000 in
theorem ai_cd_133 : lw_tbl[885]? = some (.code yX6_rate cX6_rate 6 (some .int)) := rfl
set_option maxRecDepth 100000 in
theorem ai_cd_134 : lw_tbl[895]? = some (.code yX6_keep cX6_keep 3 (some .int)) := rfl
set_option maxRecDepth 100000 in
theorem ai_cd_135 : lw_tbl[899]? = some (.code yX6_back cX6_back 3 (some .int)) := rfl
set_option maxRecDepth 100000 in
theorem ai_cd_136 : lw_tbl[903]? = some (.code yX6_count cX6_count 2 (some .int)) := rfl
set_option maxRecDepth 100000 in
theorem ai_cd_137 : lw_tbl[907]? = some (.code yX6_trace cX6_trace 1 (some .long)) := rfl
set_option maxRecDepth 100000 in
theorem ai_cd_138 : lw_tbl[512]? = some (.code yJ6_bitCount_0f7a4 cJ6_bitCount_0f7a4 1 (some .int)) := rfl
theorem ai_ck_0 : ai_ckm 0 = true := by decide +kernel
theorem ai_ck_1 : ai_ckm 1 = true := by decide +kernel
theorem ai_ck_2 : ai_ckm 2 = true := by decide +kernel
theorem ai_ck_3 : ai_ckm 3 = true := by decide +kernel
theorem ai_ck_4 : ai_ckm 4 = true := by decide +kernel
theorem ai_ck_5 : ai_ckm 5 = true := by decide +kernel
theorem ai_ck_6 : ai_ckm 6 = true := by decide +kernel
theorem ai_ck_7 : ai_ckm 7 = true := by decide +kernel
theorem ai_ck_8 : ai_ckm 8 = true := by decide +kernel
theorem ai_ck_9 : ai_ckm 9 = true := by decide +kernel
theorem ai_ck_10 : ai_ckm 10 = true := by decide +kernel
theorem ai_ck_11 : ai_ckm 11 = true := by decide +kernel
theorem ai_ck_12 : ai_ckm 12 = true := by decide +kernel
theorem ai_ck_13 : ai_ckm 13 = true := by decide +kernel
theorem ai_ck_14 : ai_ckm 14 = true := by decide +kernel
theorem ai_ck_15 : ai_ckm 15 = true := by decide +kernel
theorem ai_ck_16 : ai_ckm 16 = true := by decide +kernel
theorem ai_ck_17 : ai_ckm 17 = true := by decide +kernel
theorem ai_ck_18 : ai_ckm 18 = true := by decide +kernel
theorem ai_ck_19 : ai_ckm 19 = true := by decide +kernel
theorem ai_ck_20 : ai_ckm 20 = true := by decide +kernel
theorem ai_ck_21 : ai_ckm 21 = true := by decide +kernel
theorem ai_ck_22 : ai_ckm 22 = true := by decide +kernel
theorem ai_ck_23 : ai_ckm 23 = true := by decide +kernel
theorem ai_ck_24 : ai_ckm 24 = true := by decide +kernel
theorem ai_ck_25 : ai_ckm 25 = true := by decide +kernel
theorem ai_ck_26 : ai_ckm 26 = true := by decide +kernel
theorem ai_ck_27 : ai_ckm 27 = true := by decide +kernel
theorem ai_ck_28 : ai_ckm 28 = true := by decide +kernel
theorem ai_ck_29 : ai_ckm 29 = true := by decide +kernel
theorem ai_ck_30 : ai_ckm 30 = true := by decide +kernel
theorem ai_ck_31 : ai_ckm 31 = true := by decide +kernel
theorem ai_ck_32 : ai_ckm 32 = true := by decide +kernel
theorem ai_ck_33 : ai_ckm 33 = true := by decide +kernel
theorem ai_ck_34 : ai_ckm 34 = true := by decide +kernel
theorem ai_ck_35 : ai_ckm 35 = true := by decide +kernel
theorem ai_ck_36 : ai_ckm 36 = true := by decide +kernel
theorem ai_ck_37 : ai_ckm 37 = true := by decide +kernel
theorem ai_ck_38 : ai_ckm 38 = true := by decide +kernel
theorem ai_ck_39 : ai_ckm 39 = true := by decide +kernel
theorem ai_ck_40 : ai_ckm 40 = true := by decide +kernel
theorem ai_ck_41 : ai_ckm 41 = true := by decide +kernel
theorem ai_ck_42 : ai_ckm 42 = true := by decide +kernel
theorem ai_ck_43 : ai_ckm 43 = true := by decide +kernel
theorem ai_ck_44 : ai_ckm 44 = true := by decide +kernel
theorem ai_ck_45 : ai_ckm 45 = true := by decide +kernel
theorem ai_ck_46 : ai_ckm 46 = true := by decide +kernel
theorem ai_ck_47 : ai_ckm 47 = true := by decide +kernel
theorem ai_ck_48 : ai_ckm 48 = true := by decide +kernel
theorem ai_ck_49 : ai_ckm 49 = true := by decide +kernel
theorem ai_ck_50 : ai_ckm 50 = true := by decide +kernel
theorem ai_ck_51 : ai_ckm 51 = true := by decide +kernel
theorem ai_ck_52 : ai_ckm 52 = true := by decide +kernel
theorem ai_ck_53 : ai_ckm 53 = true := by decide +kernel
theorem ai_ck_54 : ai_ckm 54 = true := by decide +kernel
theorem ai_ck_55 : ai_ckm 55 = true := by decide +kernel
theorem ai_ck_56 : ai_ckm 56 = true := by decide +kernel
theorem ai_ck_57 : ai_ckm 57 = true := by decide +kernel
theorem ai_ck_58 : ai_ckm 58 = true := by decide +kernel
theorem ai_ck_59 : ai_ckm 59 = true := by decide +kernel
theorem ai_ck_60 : ai_ckm 60 = true := by decide +kernel
theorem ai_ck_61 : ai_ckm 61 = true := by decide +kernel
theorem ai_ck_62 : ai_ckm 62 = true := by decide +kernel
theorem ai_ck_63 : ai_ckm 63 = true := by decide +kernel
theorem ai_ck_64 : ai_ckm 64 = true := by decide +kernel
theorem ai_ck_65 : ai_ckm 65 = true := by decide +kernel
theorem ai_ck_66 : ai_ckm 66 = true := by decide +kernel
theorem ai_ck_67 : ai_ckm 67 = true := by decide +kernel
theorem ai_ck_68 : ai_ckm 68 = true := by decide +kernel
theorem ai_ck_69 : ai_ckm 69 = true := by decide +kernel
theorem ai_ck_70 : ai_ckm 70 = true := by decide +kernel
theorem ai_ck_71 : ai_ckm 71 = true := by decide +kernel
theorem ai_ck_72 : ai_ckm 72 = true := by decide +kernel
theorem ai_ck_73 : ai_ckm 73 = true := by decide +kernel
theorem ai_ck_74 : ai_ckm 74 = true := by decide +kernel
theorem ai_ck_75 : ai_ckm 75 = true := by decide +kernel
theorem ai_ck_76 : ai_ckm 76 = true := by decide +kernel
theorem ai_ck_77 : ai_ckm 77 = true := by decide +kernel
theorem ai_ck_78 : ai_ckm 78 = true := by decide +kernel
theorem ai_ck_79 : ai_ckm 79 = true := by decide +kernel
theorem ai_ck_80 : ai_ckm 80 = true := by decide +kernel
theorem ai_ck_81 : ai_ckm 81 = true := by decide +kernel
theorem ai_ck_82 : ai_ckm 82 = true := by decide +kernel
theorem ai_ck_83 : ai_ckm 83 = true := by decide +kernel
theorem ai_ck_84 : ai_ckm 84 = true := by decide +kernel
theorem ai_ck_85 : ai_ckm 85 = true := by decide +kernel
theorem ai_ck_86 : ai_ckm 86 = true := by decide +kernel
theorem ai_ck_87 : ai_ckm 87 = true := by decide +kernel
theorem ai_ck_88 : ai_ckm 88 = true := by decide +kernel
theorem ai_ck_89 : ai_ckm 89 = true := by decide +kernel
theorem ai_ck_90 : ai_ckm 90 = true := by decide +kernel
theorem ai_ck_91 : ai_ckm 91 = true := by decide +kernel
theorem ai_ck_92 : ai_ckm 92 = true := by decide +kernel
theorem ai_ck_93 : ai_ckm 93 = true := by decide +kernel
theorem ai_ck_94 : ai_ckm 94 = true := by decide +kernel
theorem ai_ck_95 : ai_ckm 95 = true := by decide +kernel
theorem ai_ck_96 : ai_ckm 96 = true := by decide +kernel
theorem ai_ck_97 : ai_ckm 97 = true := by decide +kernel
theorem ai_ck_98 : ai_ckm 98 = true := by decide +kernel
theorem ai_ck_99 : ai_ckm 99 = true := by decide +kernel
theorem ai_ck_100 : ai_ckm 100 = true := by decide +kernel
theorem ai_ck_101 : ai_ckm 101 = true := by decide +kernel
theorem ai_ck_102 : ai_ckm 102 = true := by decide +kernel
theorem ai_ck_103 : ai_ckm 103 = true := by decide +kernel
theorem ai_ck_104 : ai_ckm 104 = true := by decide +kernel
theorem ai_ck_105 : ai_ckm 105 = true := by decide +kernel
theorem ai_ck_106 : ai_ckm 106 = true := by decide +kernel
theorem ai_ck_107 : ai_ckm 107 = true := by decide +kernel
theorem ai_ck_108 : ai_ckm 108 = true := by decide +kernel
theorem ai_ck_109 : ai_ckm 109 = true := by decide +kernel
theorem ai_ck_110 : ai_ckm 110 = true := by decide +kernel
theorem ai_ck_111 : ai_ckm 111 = true := by decide +kernel
theorem ai_ck_112 : ai_ckm 112 = true := by decide +kernel
theorem ai_ck_113 : ai_ckm 113 = true := by decide +kernel
theorem ai_ck_114 : ai_ckm 114 = true := by decide +kernel
theorem ai_ck_115 : ai_ckm 115 = true := by decide +kernel
theorem ai_ck_116 : ai_ckm 116 = true := by decide +kernel
theorem ai_ck_117 : ai_ckm 117 = true := by decide +kernel
theorem ai_ck_118 : ai_ckm 118 = true := by decide +kernel
theorem ai_ck_119 : ai_ckm 119 = true := by decide +kernel
theorem ai_ck_120 : ai_ckm 120 = true := by decide +kernel
theorem ai_ck_121 : ai_ckm 121 = true := by decide +kernel
theorem ai_ck_122 : ai_ckm 122 = true := by decide +kernel
theorem ai_ck_123 : ai_ckm 123 = true := by decide +kernel
theorem ai_ck_124 : ai_ckm 124 = true := by decide +kernel
theorem ai_ck_125 : ai_ckm 125 = true := by decide +kernel
theorem ai_ck_126 : ai_ckm 126 = true := by decide +kernel
theorem ai_ck_127 : ai_ckm 127 = true := by decide +kernel
theorem ai_ck_128 : ai_ckm 128 = true := by decide +kernel
theorem ai_ck_129 : ai_ckm 129 = true := by decide +kernel
theorem ai_ck_130 : ai_ckm 130 = true := by decide +kernel
theorem ai_ck_131 : ai_ckm 131 = true := by decide +kernel
theorem ai_ck_132 : ai_ckm 132 = true := by decide +kernel
theorem ai_ck_133 : ai_ckm 133 = true := by decide +kernel
theorem ai_ck_134 : ai_ckm 134 = true := by decide +kernel
theorem ai_ck_135 : ai_ckm 135 = true := by decide +kernel
theorem ai_ck_136 : ai_ckm 136 = true := by decide +kernel
theorem ai_ck_137 : ai_ckm 137 = true := by decide +kernel
theorem ai_ck_138 : ai_ckm 138 = true := by decide +kernel
theorem ai_ck_139 : ai_ckm 139 = true := by decide +kernel
set_option maxRecDepth 100000 in
theorem ai_ck_all : ∀ m, m < 140 → ai_ckm m = true := by
  intro m hm
  have h : ∀ q ∈ [0, 1, 2, 3, 4, 5, 6, 7, 8, 9, 10, 11, 12, 13, 14, 15, 16, 17, 18, 19, 20, 21, 22, 23, 24, 25, 26, 27, 28, 29, 30, 31, 32, 33, 34, 35, 36, 37, 38, 39, 40, 41, 42, 43, 44, 45, 46, 47, 48, 49, 50, 51, 52, 53, 54, 55, 56, 57, 58, 59, 60, 61, 62, 63, 64, 65, 66, 67, 68, 69, 70, 71, 72, 73, 74, 75, 76, 77, 78, 79, 80, 81, 82, 83, 84, 85, 86, 87, 88, 89, 90, 91, 92, 93, 94, 95, 96, 97, 98, 99, 100, 101, 102, 103, 104, 105, 106, 107, 108, 109, 110, 111, 112, 113, 114, 115, 116, 117, 118, 119, 120, 121, 122, 123, 124, 125, 126, 127, 128, 129, 130, 131, 132, 133, 134, 135, 136, 137, 138, 139], ai_ckm q = true := List.forall_mem_cons.mpr ⟨ai_ck_0, List.forall_mem_cons.mpr ⟨ai_ck_1, List.forall_mem_cons.mpr ⟨ai_ck_2, List.forall_mem_cons.mpr ⟨ai_ck_3, List.forall_mem_cons.mpr ⟨ai_ck_4, List.forall_mem_cons.mpr ⟨ai_ck_5, List.forall_mem_cons.mpr ⟨ai_ck_6, List.forall_mem_cons.mpr ⟨ai_ck_7, List.forall_mem_cons.mpr ⟨ai_ck_8, List.forall_mem_cons.mpr ⟨ai_ck_9, List.forall_mem_cons.mpr ⟨ai_ck_10, List.forall_mem_cons.mpr ⟨ai_ck_11, List.forall_mem_cons.mpr ⟨ai_ck_12, List.forall_mem_cons.mpr ⟨ai_ck_13, List.forall_mem_cons.mpr ⟨ai_ck_14, List.forall_mem_cons.mpr ⟨ai_ck_15, List.forall_mem_cons.mpr ⟨ai_ck_16, List.forall_mem_cons.mpr ⟨ai_ck_17, List.forall_mem_cons.mpr ⟨ai_ck_18, List.forall_mem_cons.mpr ⟨ai_ck_19, List.forall_mem_cons.mpr ⟨ai_ck_20, List.forall_mem_cons.mpr ⟨ai_ck_21, List.forall_mem_cons.mpr ⟨ai_ck_22, List.forall_mem_cons.mpr ⟨ai_ck_23, List.forall_mem_cons.mpr ⟨ai_ck_24, List.forall_mem_cons.mpr ⟨ai_ck_25, List.forall_mem_cons.mpr ⟨ai_ck_26, List.forall_mem_cons.mpr ⟨ai_ck_27, List.forall_mem_cons.mpr ⟨ai_ck_28, List.forall_mem_cons.mpr ⟨ai_ck_29, List.forall_mem_cons.mpr ⟨ai_ck_30, List.forall_mem_cons.mpr ⟨ai_ck_31, List.forall_mem_cons.mpr ⟨ai_ck_32, List.forall_mem_cons.mpr ⟨ai_ck_33, List.forall_mem_cons.mpr ⟨ai_ck_34, List.forall_mem_cons.mpr ⟨ai_ck_35, List.forall_mem_cons.mpr ⟨ai_ck_36, List.forall_mem_cons.mpr ⟨ai_ck_37, List.forall_mem_cons.mpr ⟨ai_ck_38, List.forall_mem_cons.mpr ⟨ai_ck_39, List.forall_mem_cons.mpr ⟨ai_ck_40, List.forall_mem_cons.mpr ⟨ai_ck_41, List.forall_mem_cons.mpr ⟨ai_ck_42, List.forall_mem_cons.mpr ⟨ai_ck_43, List.forall_mem_cons.mpr ⟨ai_ck_44, List.forall_mem_cons.mpr ⟨ai_ck_45, List.forall_mem_cons.mpr ⟨ai_ck_46, List.forall_mem_cons.mpr ⟨ai_ck_47, List.forall_mem_cons.mpr ⟨ai_ck_48, List.forall_mem_cons.mpr ⟨ai_ck_49, List.forall_mem_cons.mpr ⟨ai_ck_50, List.forall_mem_cons.mpr ⟨ai_ck_51, List.forall_mem_cons.mpr ⟨ai_ck_52, List.forall_mem_cons.mpr ⟨ai_ck_53, List.forall_mem_cons.mpr ⟨ai_ck_54, List.forall_mem_cons.mpr ⟨ai_ck_55, List.forall_mem_cons.mpr ⟨ai_ck_56, List.forall_mem_cons.mpr ⟨ai_ck_57, List.forall_mem_cons.mpr ⟨ai_ck_58, List.forall_mem_cons.mpr ⟨ai_ck_59, List.forall_mem_cons.mpr ⟨ai_ck_60, List.forall_mem_cons.mpr ⟨ai_ck_61, List.forall_mem_cons.mpr ⟨ai_ck_62, List.forall_mem_cons.mpr ⟨ai_ck_63, List.forall_mem_cons.mpr ⟨ai_ck_64, List.forall_mem_cons.mpr ⟨ai_ck_65, List.forall_mem_cons.mpr ⟨ai_ck_66, List.forall_mem_cons.mpr ⟨ai_ck_67, List.forall_mem_cons.mpr ⟨ai_ck_68, List.forall_mem_cons.mpr ⟨ai_ck_69, List.forall_mem_cons.mpr ⟨ai_ck_70, List.forall_mem_cons.mpr ⟨ai_ck_71, List.forall_mem_cons.mpr ⟨ai_ck_72, List.forall_mem_cons.mpr ⟨ai_ck_73, List.forall_mem_cons.mpr ⟨ai_ck_74, List.forall_mem_cons.mpr ⟨ai_ck_75, List.forall_mem_cons.mpr ⟨ai_ck_76, List.forall_mem_cons.mpr ⟨ai_ck_77, List.forall_mem_cons.mpr ⟨ai_ck_78, List.forall_mem_cons.mpr ⟨ai_ck_79, List.forall_mem_cons.mpr ⟨ai_ck_80, List.forall_mem_cons.mpr ⟨ai_ck_81, List.forall_mem_cons.mpr ⟨ai_ck_82, List.forall_mem_cons.mpr ⟨ai_ck_83, List.forall_mem_cons.mpr ⟨ai_ck_84, List.forall_mem_cons.mpr ⟨ai_ck_85, List.forall_mem_cons.mpr ⟨ai_ck_86, List.forall_mem_cons.mpr ⟨ai_ck_87, List.forall_mem_cons.mpr ⟨ai_ck_88, List.forall_mem_cons.mpr ⟨ai_ck_89, List.forall_mem_cons.mpr ⟨ai_ck_90, List.forall_mem_cons.mpr ⟨ai_ck_91, List.forall_mem_cons.mpr ⟨ai_ck_92, List.forall_mem_cons.mpr ⟨ai_ck_93, List.forall_mem_cons.mpr ⟨ai_ck_94, List.forall_mem_cons.mpr ⟨ai_ck_95, List.forall_mem_cons.mpr ⟨ai_ck_96, List.forall_mem_cons.mpr ⟨ai_ck_97, List.forall_mem_cons.mpr ⟨ai_ck_98, List.forall_mem_cons.mpr ⟨ai_ck_99, List.forall_mem_cons.mpr ⟨ai_ck_100, List.forall_mem_cons.mpr ⟨ai_ck_101, List.forall_mem_cons.mpr ⟨ai_ck_102, List.forall_mem_cons.mpr ⟨ai_ck_103, List.forall_mem_cons.mpr ⟨ai_ck_104, List.forall_mem_cons.mpr ⟨ai_ck_105, List.forall_mem_cons.mpr ⟨ai_ck_106, List.forall_mem_cons.mpr ⟨ai_ck_107, List.forall_mem_cons.mpr ⟨ai_ck_108, List.forall_mem_cons.mpr ⟨ai_ck_109, List.forall_mem_cons.mpr ⟨ai_ck_110, List.forall_mem_cons.mpr ⟨ai_ck_111, List.forall_mem_cons.mpr ⟨ai_ck_112, List.forall_mem_cons.mpr ⟨ai_ck_113, List.forall_mem_cons.mpr ⟨ai_ck_114, List.forall_mem_cons.mpr ⟨ai_ck_115, List.forall_mem_cons.mpr ⟨ai_ck_116, List.forall_mem_cons.mpr ⟨ai_ck_117, List.forall_mem_cons.mpr ⟨ai_ck_118, List.forall_mem_cons.mpr ⟨ai_ck_119, List.forall_mem_cons.mpr ⟨ai_ck_120, List.forall_mem_cons.mpr ⟨ai_ck_121, List.forall_mem_cons.mpr ⟨ai_ck_122, List.forall_mem_cons.mpr ⟨ai_ck_123, List.forall_mem_cons.mpr ⟨ai_ck_124, List.forall_mem_cons.mpr ⟨ai_ck_125, List.forall_mem_cons.mpr ⟨ai_ck_126, List.forall_mem_cons.mpr ⟨ai_ck_127, List.forall_mem_cons.mpr ⟨ai_ck_128, List.forall_mem_cons.mpr ⟨ai_ck_129, List.forall_mem_cons.mpr ⟨ai_ck_130, List.forall_mem_cons.mpr ⟨ai_ck_131, List.forall_mem_cons.mpr ⟨ai_ck_132, List.forall_mem_cons.mpr ⟨ai_ck_133, List.forall_mem_cons.mpr ⟨ai_ck_134, List.forall_mem_cons.mpr ⟨ai_ck_135, List.forall_mem_cons.mpr ⟨ai_ck_136, List.forall_mem_cons.mpr ⟨ai_ck_137, List.forall_mem_cons.mpr ⟨ai_ck_138, List.forall_mem_cons.mpr ⟨ai_ck_139, fun _ h => absurd h List.not_mem_nil⟩⟩⟩⟩⟩⟩⟩⟩⟩⟩⟩⟩⟩⟩⟩⟩⟩⟩⟩⟩⟩⟩⟩⟩⟩⟩⟩⟩⟩⟩⟩⟩⟩⟩⟩⟩⟩⟩⟩⟩⟩⟩⟩⟩⟩⟩⟩⟩⟩⟩⟩⟩⟩⟩⟩⟩⟩⟩⟩⟩⟩⟩⟩⟩⟩⟩⟩⟩⟩⟩⟩⟩⟩⟩⟩⟩⟩⟩⟩⟩⟩⟩⟩⟩⟩⟩⟩⟩⟩⟩⟩⟩⟩⟩⟩⟩⟩⟩⟩⟩⟩⟩⟩⟩⟩⟩⟩⟩⟩⟩⟩⟩⟩⟩⟩⟩⟩⟩⟩⟩⟩⟩⟩⟩⟩⟩⟩⟩⟩⟩⟩⟩⟩⟩⟩⟩⟩⟩⟩⟩
  exact h m (by have h2 : m ∈ List.range 140 := List.mem_range.mpr hm; exact h2)
set_option maxRecDepth 100000 in
theorem ai_cd_all : ∀ m, m < 139 → Cond.code (ai_y m) (ai_c m) (ai_ml m) (ai_rt m) ∈ ai_TB := by
  intro m hm
  have g : ∀ {w : Cond} {i : Nat}, lw_tbl[i]? = some w → goodWord w = true → w ∈ ai_TB := fun h1 h2 => List.mem_filter.mpr ⟨List.mem_of_getElem? h1, h2⟩
  have h : ∀ q ∈ [0, 1, 2, 3, 4, 5, 6, 7, 8, 9, 10, 11, 12, 13, 14, 15, 16, 17, 18, 19, 20, 21, 22, 23, 24, 25, 26, 27, 28, 29, 30, 31, 32, 33, 34, 35, 36, 37, 38, 39, 40, 41, 42, 43, 44, 45, 46, 47, 48, 49, 50, 51, 52, 53, 54, 55, 56, 57, 58, 59, 60, 61, 62, 63, 64, 65, 66, 67, 68, 69, 70, 71, 72, 73, 74, 75, 76, 77, 78, 79, 80, 81, 82, 83, 84, 85, 86, 87, 88, 89, 90, 91, 92, 93, 94, 95, 96, 97, 98, 99, 100, 101, 102, 103, 104, 105, 106, 107, 108, 109, 110, 111, 112, 113, 114, 115, 116, 117, 118, 119, 120, 121, 122, 123, 124, 125, 126, 127, 128, 129, 130, 131, 132, 133, 134, 135, 136, 137, 138], Cond.code (ai_y q) (ai_c q) (ai_ml q) (ai_rt q) ∈ ai_TB := List.forall_mem_cons.mpr ⟨g ai_cd_0 rfl, List.forall_mem_cons.mpr ⟨g ai_cd_1 rfl, List.forall_mem_cons.mpr ⟨g ai_cd_2 rfl, List.forall_mem_cons.mpr ⟨g ai_cd_3 rfl, List.forall_mem_cons.mpr ⟨g ai_cd_4 rfl, List.forall_mem_cons.mpr ⟨g ai_cd_5 rfl, List.forall_mem_cons.mpr ⟨g ai_cd_6 rfl, List.forall_mem_cons.mpr ⟨g ai_cd_7 rfl, List.forall_mem_cons.mpr ⟨g ai_cd_8 rfl, List.forall_mem_cons.mpr ⟨g ai_cd_9 rfl, List.forall_mem_cons.mpr ⟨g ai_cd_10 rfl, List.forall_mem_cons.mpr ⟨g ai_cd_11 rfl, List.forall_mem_cons.mpr ⟨g ai_cd_12 rfl, List.forall_mem_cons.mpr ⟨g ai_cd_13 rfl, List.forall_mem_cons.mpr ⟨g ai_cd_14 rfl, List.forall_mem_cons.mpr ⟨g ai_cd_15 rfl, List.forall_mem_cons.mpr ⟨g ai_cd_16 rfl, List.forall_mem_cons.mpr ⟨g ai_cd_17 rfl, List.forall_mem_cons.mpr ⟨g ai_cd_18 rfl, List.forall_mem_cons.mpr ⟨g ai_cd_19 rfl, List.forall_mem_cons.mpr ⟨g ai_cd_20 rfl, List.forall_mem_cons.mpr ⟨g ai_cd_21 rfl, List.forall_mem_cons.mpr ⟨g ai_cd_22 rfl, List.forall_mem_cons.mpr ⟨g ai_cd_23 rfl, List.forall_mem_cons.mpr ⟨g ai_cd_24 rfl, List.forall_mem_cons.mpr ⟨g ai_cd_25 rfl, List.forall_mem_cons.mpr ⟨g ai_cd_26 rfl, List.forall_mem_cons.mpr ⟨g ai_cd_27 rfl, List.forall_mem_cons.mpr ⟨g ai_cd_28 rfl, List.forall_mem_cons.mpr ⟨g ai_cd_29 rfl, List.forall_mem_cons.mpr ⟨g ai_cd_30 rfl, List.forall_mem_cons.mpr ⟨g ai_cd_31 rfl, List.forall_mem_cons.mpr ⟨g ai_cd_32 rfl, List.forall_mem_cons.mpr ⟨g ai_cd_33 rfl, List.forall_mem_cons.mpr ⟨g ai_cd_34 rfl, List.forall_mem_cons.mpr ⟨g ai_cd_35 rfl, List.forall_mem_cons.mpr ⟨g ai_cd_36 rfl, List.forall_mem_cons.mpr ⟨g ai_cd_37 rfl, List.forall_mem_cons.mpr ⟨g ai_cd_38 rfl, List.forall_mem_cons.mpr ⟨g ai_cd_39 rfl, List.forall_mem_cons.mpr ⟨g ai_cd_40 rfl, List.forall_mem_cons.mpr ⟨g ai_cd_41 rfl, List.forall_mem_cons.mpr ⟨g ai_cd_42 rfl, List.forall_mem_cons.mpr ⟨g ai_cd_43 rfl, List.forall_mem_cons.mpr ⟨g ai_cd_44 rfl, List.forall_mem_cons.mpr ⟨g ai_cd_45 rfl, List.forall_mem_cons.mpr ⟨g ai_cd_46 rfl, List.forall_mem_cons.mpr ⟨g ai_cd_47 rfl, List.forall_mem_cons.mpr ⟨g ai_cd_48 rfl, List.forall_mem_cons.mpr ⟨g ai_cd_49 rfl, List.forall_mem_cons.mpr ⟨g ai_cd_50 rfl, List.forall_mem_cons.mpr ⟨g ai_cd_51 rfl, List.forall_mem_cons.mpr ⟨g ai_cd_52 rfl, List.forall_mem_cons.mpr ⟨g ai_cd_53 rfl, List.forall_mem_cons.mpr ⟨g ai_cd_54 rfl, List.forall_mem_cons.mpr ⟨g ai_cd_55 rfl, List.forall_mem_cons.mpr ⟨g ai_cd_56 rfl, List.forall_mem_cons.mpr ⟨g ai_cd_57 rfl, List.forall_mem_cons.mpr ⟨g ai_cd_58 rfl, List.forall_mem_cons.mpr ⟨g ai_cd_59 rfl, List.forall_mem_cons.mpr ⟨g ai_cd_60 rfl, List.forall_mem_cons.mpr ⟨g ai_cd_61 rfl, List.forall_mem_cons.mpr ⟨g ai_cd_62 rfl, List.forall_mem_cons.mpr ⟨g ai_cd_63 rfl, List.forall_mem_cons.mpr ⟨g ai_cd_64 rfl, List.forall_mem_cons.mpr ⟨g ai_cd_65 rfl, List.forall_mem_cons.mpr ⟨g ai_cd_66 rfl, List.forall_mem_cons.mpr ⟨g ai_cd_67 rfl, List.forall_mem_cons.mpr ⟨g ai_cd_68 rfl, List.forall_mem_cons.mpr ⟨g ai_cd_69 rfl, List.forall_mem_cons.mpr ⟨g ai_cd_70 rfl, List.forall_mem_cons.mpr ⟨g ai_cd_71 rfl, List.forall_mem_cons.mpr ⟨g ai_cd_72 rfl, List.forall_mem_cons.mpr ⟨g ai_cd_73 rfl, List.forall_mem_cons.mpr ⟨g ai_cd_74 rfl, List.forall_mem_cons.mpr ⟨g ai_cd_75 rfl, List.forall_mem_cons.mpr ⟨g ai_cd_76 rfl, List.forall_mem_cons.mpr ⟨g ai_cd_77 rfl, List.forall_mem_cons.mpr ⟨g ai_cd_78 rfl, List.forall_mem_cons.mpr ⟨g ai_cd_79 rfl, List.forall_mem_cons.mpr ⟨g ai_cd_80 rfl, List.forall_mem_cons.mpr ⟨g ai_cd_81 rfl, List.forall_mem_cons.mpr ⟨g ai_cd_82 rfl, List.forall_mem_cons.mpr ⟨g ai_cd_83 rfl, List.forall_mem_cons.mpr ⟨g ai_cd_84 rfl, List.forall_mem_cons.mpr ⟨g ai_cd_85 rfl, List.forall_mem_cons.mpr ⟨g ai_cd_86 rfl, List.forall_mem_cons.mpr ⟨g ai_cd_87 rfl, List.forall_mem_cons.mpr ⟨g ai_cd_88 rfl, List.forall_mem_cons.mpr ⟨g ai_cd_89 rfl, List.forall_mem_cons.mpr ⟨g ai_cd_90 rfl, List.forall_mem_cons.mpr ⟨g ai_cd_91 rfl, List.forall_mem_cons.mpr ⟨g ai_cd_92 rfl, List.forall_mem_cons.mpr ⟨g ai_cd_93 rfl, List.forall_mem_cons.mpr ⟨g ai_cd_94 rfl, List.forall_mem_cons.mpr ⟨g ai_cd_95 rfl, List.forall_mem_cons.mpr ⟨g ai_cd_96 rfl, List.forall_mem_cons.mpr ⟨g ai_cd_97 rfl, List.forall_mem_cons.mpr ⟨g ai_cd_98 rfl, List.forall_mem_cons.mpr ⟨g ai_cd_99 rfl, List.forall_mem_cons.mpr ⟨g ai_cd_100 rfl, List.forall_mem_cons.mpr ⟨g ai_cd_101 rfl, List.forall_mem_cons.mpr ⟨g ai_cd_102 rfl, List.forall_mem_cons.mpr ⟨g ai_cd_103 rfl, List.forall_mem_cons.mpr ⟨g ai_cd_104 rfl, List.forall_mem_cons.mpr ⟨g ai_cd_105 rfl, List.forall_mem_cons.mpr ⟨g ai_cd_106 rfl, List.forall_mem_cons.mpr ⟨g ai_cd_107 rfl, List.forall_mem_cons.mpr ⟨g ai_cd_108 rfl, List.forall_mem_cons.mpr ⟨g ai_cd_109 rfl, List.forall_mem_cons.mpr ⟨g ai_cd_110 rfl, List.forall_mem_cons.mpr ⟨g ai_cd_111 rfl, List.forall_mem_cons.mpr ⟨g ai_cd_112 rfl, List.forall_mem_cons.mpr ⟨g ai_cd_113 rfl, List.forall_mem_cons.mpr ⟨g ai_cd_114 rfl, List.forall_mem_cons.mpr ⟨g ai_cd_115 rfl, List.forall_mem_cons.mpr ⟨g ai_cd_116 rfl, List.forall_mem_cons.mpr ⟨g ai_cd_117 rfl, List.forall_mem_cons.mpr ⟨g ai_cd_118 rfl, List.forall_mem_cons.mpr ⟨g ai_cd_119 rfl, List.forall_mem_cons.mpr ⟨g ai_cd_120 rfl, List.forall_mem_cons.mpr ⟨g ai_cd_121 rfl, List.forall_mem_cons.mpr ⟨g ai_cd_122 rfl, List.forall_mem_cons.mpr ⟨g ai_cd_123 rfl, List.forall_mem_cons.mpr ⟨g ai_cd_124 rfl, List.forall_mem_cons.mpr ⟨g ai_cd_125 rfl, List.forall_mem_cons.mpr ⟨g ai_cd_126 rfl, List.forall_mem_cons.mpr ⟨g ai_cd_127 rfl, List.forall_mem_cons.mpr ⟨g ai_cd_128 rfl, List.forall_mem_cons.mpr ⟨g ai_cd_129 rfl, List.forall_mem_cons.mpr ⟨g ai_cd_130 rfl, List.forall_mem_cons.mpr ⟨g ai_cd_131 rfl, List.forall_mem_cons.mpr ⟨g ai_cd_132 rfl, List.forall_mem_cons.mpr ⟨g ai_cd_133 rfl, List.forall_mem_cons.mpr ⟨g ai_cd_134 rfl, List.forall_mem_cons.mpr ⟨g ai_cd_135 rfl, List.forall_mem_cons.mpr ⟨g ai_cd_136 rfl, List.forall_mem_cons.mpr ⟨g ai_cd_137 rfl, List.forall_mem_cons.mpr ⟨g ai_cd_138 rfl, fun _ h => absurd h List.not_mem_nil⟩⟩⟩⟩⟩⟩⟩⟩⟩⟩⟩⟩⟩⟩⟩⟩⟩⟩⟩⟩⟩⟩⟩⟩⟩⟩⟩⟩⟩⟩⟩⟩⟩⟩⟩⟩⟩⟩⟩⟩⟩⟩⟩⟩⟩⟩⟩⟩⟩⟩⟩⟩⟩⟩⟩⟩⟩⟩⟩⟩⟩⟩⟩⟩⟩⟩⟩⟩⟩⟩⟩⟩⟩⟩⟩⟩⟩⟩⟩⟩⟩⟩⟩⟩⟩⟩⟩⟩⟩⟩⟩⟩⟩⟩⟩⟩⟩⟩⟩⟩⟩⟩⟩⟩⟩⟩⟩⟩⟩⟩⟩⟩⟩⟩⟩⟩⟩⟩⟩⟩⟩⟩⟩⟩⟩⟩⟩⟩⟩⟩⟩⟩⟩⟩⟩⟩⟩⟩⟩
  exact h m (by have h2 : m ∈ List.range 139 := List.mem_range.mpr hm; exact h2)
