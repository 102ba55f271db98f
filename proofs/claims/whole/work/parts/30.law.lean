def m_L_law_L28 (L : Nat) (xs : Nat → Int32) : Nat → Int32 → S_X5 → S_X6 → (Nat → Int64) → (Nat → UInt64) → Option Int32
  | 0, _, _, _, _, _ => none
  | n + 1, y5, S, M, O, OD => if ((Int32.ofNat L) - (3 : Int32)) < y5 then (some 1) else (if y5 < 0 ∨ L ≤ y5.toNatClampNeg then none else (if ((xs y5.toNatClampNeg) &&& (31 : Int32)) = 0 then (if (y5 + (1 : Int32)) < 0 ∨ L ≤ (y5 + (1 : Int32)).toNatClampNeg then none else ((m_L_fill S O (xs (y5 + (1 : Int32)).toNatClampNeg)).bind fun v5 => (nmL (v5.1) fun x6_7 => (if (y5 + (1 : Int32)) < 0 ∨ L ≤ (y5 + (1 : Int32)).toNatClampNeg then none else ((m_X6_fill M (xs (y5 + (1 : Int32)).toNatClampNeg)).bind fun v10 => (nmL (v10.1) fun x7_12 => ((m_X6_thrown v10.2).bind fun v14 => (if v14 = x6_7 then (if x6_7 = 0 then (if (lg_cmp (v5.2.2 (0 : Int32).toNatClampNeg) x7_12.toInt64) = 0 then (nmL (y5 + 3) fun x5_21 => ((m_L_law_L28 L xs n) x5_21 v5.2.1 v10.2 v5.2.2 OD)) else (some 0)) else (nmL (y5 + 3) fun x5_18 => ((m_L_law_L28 L xs n) x5_18 v5.2.1 v10.2 v5.2.2 OD))) else (some 0))))))))) else if ((xs y5.toNatClampNeg) &&& (31 : Int32)) = 1 then (if (y5 + (1 : Int32)) < 0 ∨ L ≤ (y5 + (1 : Int32)).toNatClampNeg then none else ((m_L_tip S O (xs (y5 + (1 : Int32)).toNatClampNeg)).bind fun v25 => (nmL (v25.1) fun x6_27 => (if (y5 + (1 : Int32)) < 0 ∨ L ≤ (y5 + (1 : Int32)).toNatClampNeg then none else ((m_X6_tip M (xs (y5 + (1 : Int32)).toNatClampNeg)).bind fun v30 => (nmL (v30.1) fun x7_32 => ((m_X6_thrown v30.2).bind fun v34 => (if v34 = x6_27 then (if x6_27 = 0 then (if (lg_cmp (v25.2.2 (0 : Int32).toNatClampNeg) x7_32.toInt64) = 0 then (nmL (y5 + 3) fun x5_41 => ((m_L_law_L28 L xs n) x5_41 v25.2.1 v30.2 v25.2.2 OD)) else (some 0)) else (nmL (y5 + 3) fun x5_38 => ((m_L_law_L28 L xs n) x5_38 v25.2.1 v30.2 v25.2.2 OD))) else (some 0))))))))) else if ((xs y5.toNatClampNeg) &&& (31 : Int32)) = 2 then (if (y5 + (1 : Int32)) < 0 ∨ L ≤ (y5 + (1 : Int32)).toNatClampNeg then none else ((m_L_feed S O (xs (y5 + (1 : Int32)).toNatClampNeg)).bind fun v45 => (nmL (v45.1) fun x6_47 => (if (y5 + (1 : Int32)) < 0 ∨ L ≤ (y5 + (1 : Int32)).toNatClampNeg then none else ((m_X6_feed M (xs (y5 + (1 : Int32)).toNatClampNeg)).bind fun v50 => (nmL (v50.1) fun x7_52 => ((m_X6_thrown v50.2).bind fun v54 => (if v54 = x6_47 then (if x6_47 = 0 then (if (lg_cmp (v45.2.2 (0 : Int32).toNatClampNeg) x7_52.toInt64) = 0 then (nmL (y5 + 3) fun x5_61 => ((m_L_law_L28 L xs n) x5_61 v45.2.1 v50.2 v45.2.2 OD)) else (some 0)) else (nmL (y5 + 3) fun x5_58 => ((m_L_law_L28 L xs n) x5_58 v45.2.1 v50.2 v45.2.2 OD))) else (some 0))))))))) else if ((xs y5.toNatClampNeg) &&& (31 : Int32)) = 3 then (if (y5 + (1 : Int32)) < 0 ∨ L ≤ (y5 + (1 : Int32)).toNatClampNeg then none else ((m_L_out S O (xs (y5 + (1 : Int32)).toNatClampNeg)).bind fun v65 => (nmL (v65.1) fun x6_67 => (if (y5 + (1 : Int32)) < 0 ∨ L ≤ (y5 + (1 : Int32)).toNatClampNeg then none else ((m_X6_out M (xs (y5 + (1 : Int32)).toNatClampNeg)).bind fun v70 => (nmL (v70.1) fun x7_72 => ((m_X6_thrown v70.2).bind fun v74 => (if v74 = x6_67 then (if x6_67 = 0 then (if (lg_cmp (v65.2.2 (0 : Int32).toNatClampNeg) x7_72.toInt64) = 0 then (nmL (y5 + 3) fun x5_81 => ((m_L_law_L28 L xs n) x5_81 v65.2.1 v70.2 v65.2.2 OD)) else (some 0)) else (nmL (y5 + 3) fun x5_78 => ((m_L_law_L28 L xs n) x5_78 v65.2.1 v70.2 v65.2.2 OD))) else (some 0))))))))) else if ((xs y5.toNatClampNeg) &&& (31 : Int32)) = 4 then (if (y5 + (1 : Int32)) < 0 ∨ L ≤ (y5 + (1 : Int32)).toNatClampNeg then none else ((m_L_run S O (xs (y5 + (1 : Int32)).toNatClampNeg)).bind fun v85 => (nmL (v85.1) fun x6_87 => (if (y5 + (1 : Int32)) < 0 ∨ L ≤ (y5 + (1 : Int32)).toNatClampNeg then none else ((m_X6_run M (xs (y5 + (1 : Int32)).toNatClampNeg)).bind fun v90 => (nmL (v90.1) fun x7_92 => ((m_X6_thrown v90.2).bind fun v94 => (if v94 = x6_87 then (if x6_87 = 0 then (if (lg_cmp (v85.2.2 (0 : Int32).toNatClampNeg) x7_92.toInt64) = 0 then (nmL (y5 + 3) fun x5_101 => ((m_L_law_L28 L xs n) x5_101 v85.2.1 v90.2 v85.2.2 OD)) else (some 0)) else (nmL (y5 + 3) fun x5_98 => ((m_L_law_L28 L xs n) x5_98 v85.2.1 v90.2 v85.2.2 OD))) else (some 0))))))))) else if ((xs y5.toNatClampNeg) &&& (31 : Int32)) = 5 then ((m_X5_clear S).bind fun v104 => ((m_X6_clear M).bind fun v106 => (if v104.1 = v106.1 then (nmL (y5 + 3) fun x5_109 => ((m_L_law_L28 L xs n) x5_109 v104.2 v106.2 O OD)) else (some 0)))) else if ((xs y5.toNatClampNeg) &&& (31 : Int32)) = 6 then (if (y5 + (1 : Int32)) < 0 ∨ L ≤ (y5 + (1 : Int32)).toNatClampNeg then none else (if (y5 + (2 : Int32)) < 0 ∨ L ≤ (y5 + (2 : Int32)).toNatClampNeg then none else ((m_L_set S O (xs (y5 + (1 : Int32)).toNatClampNeg) (xs (y5 + (2 : Int32)).toNatClampNeg)).bind fun v114 => (nmL (v114.1) fun x6_116 => (if (y5 + (1 : Int32)) < 0 ∨ L ≤ (y5 + (1 : Int32)).toNatClampNeg then none else (if (y5 + (2 : Int32)) < 0 ∨ L ≤ (y5 + (2 : Int32)).toNatClampNeg then none else ((m_X6_set M (xs (y5 + (1 : Int32)).toNatClampNeg) (xs (y5 + (2 : Int32)).toNatClampNeg)).bind fun v120 => (nmL (v120.1) fun x7_122 => ((m_X6_thrown v120.2).bind fun v124 => (if v124 = x6_116 then (if x6_116 = 0 then (if (lg_cmp (v114.2.2 (0 : Int32).toNatClampNeg) x7_122.toInt64) = 0 then (nmL (y5 + 3) fun x5_131 => ((m_L_law_L28 L xs n) x5_131 v114.2.1 v120.2 v114.2.2 OD)) else (some 0)) else (nmL (y5 + 3) fun x5_128 => ((m_L_law_L28 L xs n) x5_128 v114.2.1 v120.2 v114.2.2 OD))) else (some 0))))))))))) else if ((xs y5.toNatClampNeg) &&& (31 : Int32)) = 7 then (if (y5 + (1 : Int32)) < 0 ∨ L ≤ (y5 + (1 : Int32)).toNatClampNeg then none else ((m_L_append S O (xs (y5 + (1 : Int32)).toNatClampNeg)).bind fun v135 => (nmL (v135.1) fun x6_137 => (if (y5 + (1 : Int32)) < 0 ∨ L ≤ (y5 + (1 : Int32)).toNatClampNeg then none else ((m_X6_append M (xs (y5 + (1 : Int32)).toNatClampNeg)).bind fun v140 => (nmL (v140.1) fun x7_142 => ((m_X6_thrown v140.2).bind fun v144 => (if v144 = x6_137 then (if x6_137 = 0 then (if (lg_cmp (v135.2.2 (0 : Int32).toNatClampNeg) x7_142.toInt64) = 0 then (nmL (y5 + 3) fun x5_151 => ((m_L_law_L28 L xs n) x5_151 v135.2.1 v140.2 v135.2.2 OD)) else (some 0)) else (nmL (y5 + 3) fun x5_148 => ((m_L_law_L28 L xs n) x5_148 v135.2.1 v140.2 v135.2.2 OD))) else (some 0))))))))) else if ((xs y5.toNatClampNeg) &&& (31 : Int32)) = 8 then ((m_X5_clearBuffer S).bind fun v154 => ((m_X6_clearBuffer M).bind fun v156 => (if v154.1 = v156.1 then (nmL (y5 + 3) fun x5_159 => ((m_L_law_L28 L xs n) x5_159 v154.2 v156.2 O OD)) else (some 0)))) else if ((xs y5.toNatClampNeg) &&& (31 : Int32)) = 9 then ((m_X5_firstError S).bind fun v162 => ((m_X6_firstError M).bind fun v164 => (if v162.1 = v164.1 then (nmL (y5 + 3) fun x5_167 => ((m_L_law_L28 L xs n) x5_167 v162.2 v164.2 O OD)) else (some 0)))) else if ((xs y5.toNatClampNeg) &&& (31 : Int32)) = 10 then ((m_X5_keep S).bind fun v170 => ((m_X6_keep M).bind fun v172 => (if v170.1 = v172.1 then (nmL (y5 + 3) fun x5_175 => ((m_L_law_L28 L xs n) x5_175 v170.2 v172.2 O OD)) else (some 0)))) else if ((xs y5.toNatClampNeg) &&& (31 : Int32)) = 11 then ((m_L_goBack S O).bind fun v178 => (nmL (v178.1) fun x6_180 => ((m_X6_goBack M).bind fun v182 => (nmL (v182.1) fun x7_184 => ((m_X6_thrown v182.2).bind fun v186 => (if v186 = x6_180 then (if x6_180 = 0 then (if (lg_cmp (v178.2.2 (0 : Int32).toNatClampNeg) x7_184.toInt64) = 0 then (nmL (y5 + 3) fun x5_193 => ((m_L_law_L28 L xs n) x5_193 v178.2.1 v182.2 v178.2.2 OD)) else (some 0)) else (nmL (y5 + 3) fun x5_190 => ((m_L_law_L28 L xs n) x5_190 v178.2.1 v182.2 v178.2.2 OD))) else (some 0))))))) else if ((xs y5.toNatClampNeg) &&& (31 : Int32)) = 12 then ((m_L_undo S O).bind fun v196 => (nmL (v196.1) fun x6_198 => ((m_X6_undo M).bind fun v200 => (nmL (v200.1) fun x7_202 => ((m_X6_thrown v200.2).bind fun v204 => (if v204 = x6_198 then (if x6_198 = 0 then (if (lg_cmp (v196.2.2 (0 : Int32).toNatClampNeg) x7_202.toInt64) = 0 then (nmL (y5 + 3) fun x5_211 => ((m_L_law_L28 L xs n) x5_211 v196.2.1 v200.2 v196.2.2 OD)) else (some 0)) else (nmL (y5 + 3) fun x5_208 => ((m_L_law_L28 L xs n) x5_208 v196.2.1 v200.2 v196.2.2 OD))) else (some 0))))))) else if ((xs y5.toNatClampNeg) &&& (31 : Int32)) = 13 then (if (y5 + (1 : Int32)) < 0 ∨ L ≤ (y5 + (1 : Int32)).toNatClampNeg then none else (if (y5 + (2 : Int32)) < 0 ∨ L ≤ (y5 + (2 : Int32)).toNatClampNeg then none else ((m_L_can S O (xs (y5 + (1 : Int32)).toNatClampNeg) (xs (y5 + (2 : Int32)).toNatClampNeg)).bind fun v216 => (nmL (v216.1) fun x6_218 => (if (y5 + (1 : Int32)) < 0 ∨ L ≤ (y5 + (1 : Int32)).toNatClampNeg then none else (if (y5 + (2 : Int32)) < 0 ∨ L ≤ (y5 + (2 : Int32)).toNatClampNeg then none else ((m_X6_can M (xs (y5 + (1 : Int32)).toNatClampNeg) (xs (y5 + (2 : Int32)).toNatClampNeg)).bind fun v222 => (nmL (v222.1) fun x7_224 => ((m_X6_thrown v222.2).bind fun v226 => (if v226 = x6_218 then (if x6_218 = 0 then (if (lg_cmp (v216.2.2 (0 : Int32).toNatClampNeg) x7_224.toInt64) = 0 then (nmL (y5 + 3) fun x5_233 => ((m_L_law_L28 L xs n) x5_233 v216.2.1 v222.2 v216.2.2 OD)) else (some 0)) else (nmL (y5 + 3) fun x5_230 => ((m_L_law_L28 L xs n) x5_230 v216.2.1 v222.2 v216.2.2 OD))) else (some 0))))))))))) else if ((xs y5.toNatClampNeg) &&& (31 : Int32)) = 14 then (if (y5 + (1 : Int32)) < 0 ∨ L ≤ (y5 + (1 : Int32)).toNatClampNeg then none else (if (y5 + (2 : Int32)) < 0 ∨ L ≤ (y5 + (2 : Int32)).toNatClampNeg then none else ((m_L_metre S O (xs (y5 + (1 : Int32)).toNatClampNeg) (xs (y5 + (2 : Int32)).toNatClampNeg)).bind fun v238 => (nmL (v238.1) fun x6_240 => (if (y5 + (1 : Int32)) < 0 ∨ L ≤ (y5 + (1 : Int32)).toNatClampNeg then none else (if (y5 + (2 : Int32)) < 0 ∨ L ≤ (y5 + (2 : Int32)).toNatClampNeg then none else ((m_X6_metre M (xs (y5 + (1 : Int32)).toNatClampNeg) (xs (y5 + (2 : Int32)).toNatClampNeg)).bind fun v244 => (nmL (v244.1) fun x7_246 => ((m_X6_thrown v244.2).bind fun v248 => (if v248 = x6_240 then (if x6_240 = 0 then (if (lg_cmp (v238.2.2 (0 : Int32).toNatClampNeg) x7_246.toInt64) = 0 then (nmL (y5 + 3) fun x5_255 => ((m_L_law_L28 L xs n) x5_255 v238.2.1 v244.2 v238.2.2 OD)) else (some 0)) else (nmL (y5 + 3) fun x5_252 => ((m_L_law_L28 L xs n) x5_252 v238.2.1 v244.2 v238.2.2 OD))) else (some 0))))))))))) else if ((xs y5.toNatClampNeg) &&& (31 : Int32)) = 15 then (if (y5 + (1 : Int32)) < 0 ∨ L ≤ (y5 + (1 : Int32)).toNatClampNeg then none else ((m_L_feeler S O (xs (y5 + (1 : Int32)).toNatClampNeg)).bind fun v259 => (nmL (v259.1) fun x6_261 => (if (y5 + (1 : Int32)) < 0 ∨ L ≤ (y5 + (1 : Int32)).toNatClampNeg then none else ((m_X6_feeler M (xs (y5 + (1 : Int32)).toNatClampNeg)).bind fun v264 => (nmL (v264.1) fun x7_266 => ((m_X6_thrown v264.2).bind fun v268 => (if v268 = x6_261 then (if x6_261 = 0 then (if (lg_cmp (v259.2.2 (0 : Int32).toNatClampNeg) x7_266.toInt64) = 0 then (nmL (y5 + 3) fun x5_275 => ((m_L_law_L28 L xs n) x5_275 v259.2.1 v264.2 v259.2.2 OD)) else (some 0)) else (nmL (y5 + 3) fun x5_272 => ((m_L_law_L28 L xs n) x5_272 v259.2.1 v264.2 v259.2.2 OD))) else (some 0))))))))) else if ((xs y5.toNatClampNeg) &&& (31 : Int32)) = 16 then (if (y5 + (1 : Int32)) < 0 ∨ L ≤ (y5 + (1 : Int32)).toNatClampNeg then none else ((m_L_count S O (xs (y5 + (1 : Int32)).toNatClampNeg)).bind fun v279 => (nmL (v279.1) fun x6_281 => (if (y5 + (1 : Int32)) < 0 ∨ L ≤ (y5 + (1 : Int32)).toNatClampNeg then none else ((m_X6_count M (xs (y5 + (1 : Int32)).toNatClampNeg)).bind fun v284 => (nmL (v284.1) fun x7_286 => ((m_X6_thrown v284.2).bind fun v288 => (if v288 = x6_281 then (if x6_281 = 0 then (if (lg_cmp (v279.2.2 (0 : Int32).toNatClampNeg) x7_286.toInt64) = 0 then (nmL (y5 + 3) fun x5_295 => ((m_L_law_L28 L xs n) x5_295 v279.2.1 v284.2 v279.2.2 OD)) else (some 0)) else (nmL (y5 + 3) fun x5_292 => ((m_L_law_L28 L xs n) x5_292 v279.2.1 v284.2 v279.2.2 OD))) else (some 0))))))))) else if ((xs y5.toNatClampNeg) &&& (31 : Int32)) = 17 then (if (y5 + (1 : Int32)) < 0 ∨ L ≤ (y5 + (1 : Int32)).toNatClampNeg then none else ((m_L_setting S O (xs (y5 + (1 : Int32)).toNatClampNeg)).bind fun v299 => (nmL (v299.1) fun x6_301 => (if (y5 + (1 : Int32)) < 0 ∨ L ≤ (y5 + (1 : Int32)).toNatClampNeg then none else ((m_X6_setting M (xs (y5 + (1 : Int32)).toNatClampNeg)).bind fun v304 => (nmL (v304.1) fun x7_306 => ((m_X6_thrown v304.2).bind fun v308 => (if v308 = x6_301 then (if x6_301 = 0 then (if (lg_cmp (v299.2.2 (0 : Int32).toNatClampNeg) x7_306.toInt64) = 0 then (nmL (y5 + 3) fun x5_315 => ((m_L_law_L28 L xs n) x5_315 v299.2.1 v304.2 v299.2.2 OD)) else (some 0)) else (nmL (y5 + 3) fun x5_312 => ((m_L_law_L28 L xs n) x5_312 v299.2.1 v304.2 v299.2.2 OD))) else (some 0))))))))) else if ((xs y5.toNatClampNeg) &&& (31 : Int32)) = 18 then ((m_X5_why S).bind fun v318 => ((m_X6_why M).bind fun v320 => (if v318 = v320.1 then (nmL (y5 + 3) fun x5_323 => ((m_L_law_L28 L xs n) x5_323 S v320.2 O OD)) else (some 0)))) else if ((xs y5.toNatClampNeg) &&& (31 : Int32)) = 19 then (if (y5 + (1 : Int32)) < 0 ∨ L ≤ (y5 + (1 : Int32)).toNatClampNeg then none else (if (y5 + (2 : Int32)) < 0 ∨ L ≤ (y5 + (2 : Int32)).toNatClampNeg then none else ((m_L_ifRun S O (xs (y5 + (1 : Int32)).toNatClampNeg) (xs (y5 + (2 : Int32)).toNatClampNeg)).bind fun v328 => (nmL (v328.1) fun x6_330 => (if (y5 + (1 : Int32)) < 0 ∨ L ≤ (y5 + (1 : Int32)).toNatClampNeg then none else (if (y5 + (2 : Int32)) < 0 ∨ L ≤ (y5 + (2 : Int32)).toNatClampNeg then none else ((m_X6_ifRun M (xs (y5 + (1 : Int32)).toNatClampNeg) (xs (y5 + (2 : Int32)).toNatClampNeg)).bind fun v334 => (nmL (v334.1) fun x7_336 => ((m_X6_thrown v334.2).bind fun v338 => (if v338 = x6_330 then (if x6_330 = 0 then (if (lg_cmp (v328.2.2 (0 : Int32).toNatClampNeg) x7_336.toInt64) = 0 then (nmL (y5 + 3) fun x5_345 => ((m_L_law_L28 L xs n) x5_345 v328.2.1 v334.2 v328.2.2 OD)) else (some 0)) else (nmL (y5 + 3) fun x5_342 => ((m_L_law_L28 L xs n) x5_342 v328.2.1 v334.2 v328.2.2 OD))) else (some 0))))))))))) else if ((xs y5.toNatClampNeg) &&& (31 : Int32)) = 20 then (if (y5 + (1 : Int32)) < 0 ∨ L ≤ (y5 + (1 : Int32)).toNatClampNeg then none else ((m_L_bestLag S O (xs (y5 + (1 : Int32)).toNatClampNeg)).bind fun v349 => (nmL (v349.1) fun x6_351 => (if (y5 + (1 : Int32)) < 0 ∨ L ≤ (y5 + (1 : Int32)).toNatClampNeg then none else ((m_X6_bestLag M (xs (y5 + (1 : Int32)).toNatClampNeg)).bind fun v354 => (nmL (v354.1) fun x7_356 => ((m_X6_thrown v354.2).bind fun v358 => (if v358 = x6_351 then (if x6_351 = 0 then (if (lg_cmp (v349.2.2 (0 : Int32).toNatClampNeg) x7_356.toInt64) = 0 then (nmL (y5 + 3) fun x5_365 => ((m_L_law_L28 L xs n) x5_365 v349.2.1 v354.2 v349.2.2 OD)) else (some 0)) else (nmL (y5 + 3) fun x5_362 => ((m_L_law_L28 L xs n) x5_362 v349.2.1 v354.2 v349.2.2 OD))) else (some 0))))))))) else if ((xs y5.toNatClampNeg) &&& (31 : Int32)) = 21 then (if (y5 + (1 : Int32)) < 0 ∨ L ≤ (y5 + (1 : Int32)).toNatClampNeg then none else ((m_L_bestFeed S O (xs (y5 + (1 : Int32)).toNatClampNeg)).bind fun v369 => (nmL (v369.1) fun x6_371 => (if (y5 + (1 : Int32)) < 0 ∨ L ≤ (y5 + (1 : Int32)).toNatClampNeg then none else ((m_X6_bestFeed M (xs (y5 + (1 : Int32)).toNatClampNeg)).bind fun v374 => (nmL (v374.1) fun x7_376 => ((m_X6_thrown v374.2).bind fun v378 => (if v378 = x6_371 then (if x6_371 = 0 then (if (lg_cmp (v369.2.2 (0 : Int32).toNatClampNeg) x7_376.toInt64) = 0 then (nmL (y5 + 3) fun x5_385 => ((m_L_law_L28 L xs n) x5_385 v369.2.1 v374.2 v369.2.2 OD)) else (some 0)) else (nmL (y5 + 3) fun x5_382 => ((m_L_law_L28 L xs n) x5_382 v369.2.1 v374.2 v369.2.2 OD))) else (some 0))))))))) else if ((xs y5.toNatClampNeg) &&& (31 : Int32)) = 22 then (if (y5 + (1 : Int32)) < 0 ∨ L ≤ (y5 + (1 : Int32)).toNatClampNeg then none else ((m_L_mean S OD (xs (y5 + (1 : Int32)).toNatClampNeg)).bind fun v389 => (nmL (v389.1) fun x6_391 => (if (y5 + (1 : Int32)) < 0 ∨ L ≤ (y5 + (1 : Int32)).toNatClampNeg then none else ((m_X6_mean M (xs (y5 + (1 : Int32)).toNatClampNeg)).bind fun v394 => (nmL (v394.1) fun x7_396 => ((m_X6_thrown v394.2).bind fun v398 => (if v398 = x6_391 then (if x6_391 = 0 then (if (Op.cmpValue (FP.dcmp (v389.2.2 (0 : Int32).toNatClampNeg) x7_396) (.l : CmpOp)) = 0 then (nmL (y5 + 3) fun x5_405 => ((m_L_law_L28 L xs n) x5_405 v389.2.1 v394.2 O v389.2.2)) else (if (Op.cmpValue (FP.dcmp (v389.2.2 (0 : Int32).toNatClampNeg) (v389.2.2 (0 : Int32).toNatClampNeg)) (.l : CmpOp)) = 0 then (some 0) else (if (Op.cmpValue (FP.dcmp x7_396 x7_396) (.l : CmpOp)) = 0 then (some 0) else (nmL (y5 + 3) fun x5_409 => ((m_L_law_L28 L xs n) x5_409 v389.2.1 v394.2 O v389.2.2))))) else (nmL (y5 + 3) fun x5_402 => ((m_L_law_L28 L xs n) x5_402 v389.2.1 v394.2 O v389.2.2))) else (some 0))))))))) else if ((xs y5.toNatClampNeg) &&& (31 : Int32)) = 23 then ((m_X5_wasteShare S).bind fun v412 => (if (FP.f2d v412) &&& 0x7fffffffffffffff ≤ 0x7ff0000000000000 then (nmL (FP.f2d v412) fun x6_415 => ((m_X6_wasteShare M).bind fun v417 => (if (FP.f2d v417.1) &&& 0x7fffffffffffffff ≤ 0x7ff0000000000000 then (nmL (FP.f2d v417.1) fun x8_420 => (if (Op.cmpValue (FP.dcmp x6_415 x8_420) (.l : CmpOp)) = 0 then (nmL (y5 + 3) fun x5_423 => ((m_L_law_L28 L xs n) x5_423 S v417.2 O OD)) else (if (Op.cmpValue (FP.dcmp x6_415 x6_415) (.l : CmpOp)) = 0 then (some 0) else (if (Op.cmpValue (FP.dcmp x8_420 x8_420) (.l : CmpOp)) = 0 then (some 0) else (nmL (y5 + 3) fun x5_427 => ((m_L_law_L28 L xs n) x5_427 S v417.2 O OD)))))) else none))) else none)) else if ((xs y5.toNatClampNeg) &&& (31 : Int32)) = 24 then ((m_X5_digest S).bind fun v430 => ((m_X6_digest M).bind fun v432 => (if (lg_cmp v430.1 v432.1) = 0 then (nmL (y5 + 3) fun x5_435 => ((m_L_law_L28 L xs n) x5_435 v430.2 v432.2 O OD)) else (some 0)))) else (nmL (y5 + 3) fun x5_437 => ((m_L_law_L28 L xs n) x5_437 S M O OD))))
set_option maxHeartbeats 4000000 in
set_option maxRecDepth 100000 in
theorem law_loop {p : Program} {l : Launch} {e : Env} {s : State} {m : MethodId} {below : List Frame} {meth : Method} {c : Code} (hfl : l.stackTraces = false) {bq L : Nat} {xs : Nat → Int32} {dC : Nat → ClassId} {dI : Nat → Nat → Nat} {cI cF cL cD : ClassId} {a b ca da : Nat → Nat} (C0 : lw_At p s m meth c bq L xs) (hKL : va_K (dC, dI) vwCl (tysL cI cF cL cD) s) (hE : xE (fun q => s.heap.size ≤ q) s.heap s) (hN : xN s) : ∀ (n : Nat) (y5 : Int32) (S : S_X5) (M : S_X6) (O : Nat → Int64) (OD : Nat → UInt64), m_L_law_L28 L xs n y5 S M O OD = some 1 → ∀ (ce sl : Nat), ce + n ≤ 1900 → sl + 6 * n ≤ 19000 → ∀ (H : Heap) (locs : List Loc), va_P (dC, dI) vwCl (wX5 a cI cF S ++ wX6 b cI cF M ++ wLA ca cL O ++ wDA da cD OD) H → va_D (fun q => s.heap.size ≤ q) (wX5 a cI cF S ++ wX6 b cI cF M ++ wLA ca cL O ++ wDA da cD OD) → va_S (fun q => s.heap.size ≤ q) s.heap H locs → ∀ ls : Array Slot, lv_has ls 10 [(0, .ref bq), (1, .ref (a 0)), (2, .ref (b 0)), (3, .ref (ca 0)), (4, .ref (da 0)), (5, .int y5)] → W p l e room_1 s m #[Value.ref bq] below meth c H locs ce sl (lw_Z below #[Value.ref bq] s) (F0 m 28 ls []) := by
  obtain ⟨hx, hb, hr, hml, hown, hts0, hX, hbl, hlocks, hgv⟩ := C0
  have hts : ∀ w ∈ wsL_law, w.before #[Value.ref bq] s = true := fun w h => hts0 w (wsL_law_in w h)
  have hK := k_tysU hKL
  have hA : ∀ q : Nat, s.heap.size ≤ q → (fun q : Nat => s.heap.size ≤ q) q := fun _ h => h
  have hbA : ¬ (fun q : Nat => s.heap.size ≤ q) bq := Nat.not_le.mpr hbl
  intro n
  induction n with
  | zero =>
    intro y5 S M O OD h
    exact (o_0 h).elim
  | succ n ih =>
    intro y5 S M O OD h ce sl hce hsl H locs hP hD hS ls hl
    rw [m_L_law_L28] at h
    refine lv_iload hx hb dL_law_28 (lv_at hl 5 rfl) ?_
    refine lv_aload_n hx hb dL_law_30 rfl (lv_at hl 0 rfl) ?_
    refine va_slen hx hb hX hbl hbA hS dL_law_31 ?_
    refine lv_iconst (v := (3 : Int32)) hx hb dL_law_32 (by decide) ?_
    refine lv_isub hx hb dL_law_33 ?_
    refine lv_icmp_gt (tgt := 1341) hx hb dL_law_34 (by decide) (fun c1 => ?_) (fun c1 => ?_)
    · have h := o_t h c1
      refine lv_iconst (v := (1 : Int32)) hx hb dL_law_1341 (by decide) ?_
      refine va_forget (fun q hq => hS.2.2 q hq) ?_
      refine W.widen (k := 601024) (n := 7293034) (by omega) (by omega) ?_
      exact lw_ret (d0 := s.drawn) (Drawn.sameBut.refl s.drawn lw_cs) hx hb hr hlocks dL_law_1342
    have h := o_f h c1
    refine lv_aload_n hx hb dL_law_37 rfl (lv_at hl 0 rfl) ?_
    refine lv_iload hx hb dL_law_38 (lv_at hl 5 rfl) ?_
    obtain ⟨i2, h⟩ := o_in h
    refine va_sld hx hb hX hbl hbA hS i2 dL_law_40 ?_
    refine lv_bipush (v := (31 : Int32)) hx hb dL_law_41 (by decide) ?_
    refine lv_iand hx hb dL_law_43 ?_
    by_cases c_0 : (xs y5.toNatClampNeg) &&& (31 : Int32) = 0
    · have h := o_t h c_0
      refine k_swIn (v := 0) (off := 116) (tgt := 160) hx hb c_0 dL_law_44 (by decide) (by decide) (by decide +kernel) (by decide) ?_
      refine lv_aload_n hx hb dL_law_160 rfl (lv_at hl 1 rfl) ?_
      refine lv_aload_n hx hb dL_law_161 rfl (lv_at hl 0 rfl) ?_
      refine lv_iload hx hb dL_law_162 (lv_at hl 5 rfl) ?_
      refine lv_iconst (v := (1 : Int32)) hx hb dL_law_164 (by decide) ?_
      refine lv_iadd hx hb dL_law_165 ?_
      obtain ⟨i4, h⟩ := o_in h
      refine va_sld hx hb hX hbl hbA hS i4 dL_law_166 ?_
      refine lv_aload_n hx hb dL_law_167 rfl (lv_at hl 3 rfl) ?_
      obtain ⟨v5, g6, h⟩ := o_b h
      refine k_rwx (vx_runSX (As := [.ref (a 0), .int (xs (y5 + (1 : Int32)).toNatClampNeg), .ref (ca 0)]) (rest := []) ⟨hx, hb, hml, hown, hts⟩ (c_L_fill l hfl dC dI cI cF cL cD a ca S O (xs (y5 + (1 : Int32)).toNatClampNeg) v5 g6 H.size) (vx_cwSW 3 hts gL_law_L_fill rfl rfl rfl (by decide +kernel) ⟨Nat.le_of_ble_eq_true rfl, Nat.le_of_ble_eq_true rfl⟩) (k_preSL hE hN hS hA hKL hP hD (LN_l (LN_two (LN_l (LN_id (fX5 a cI cF S v5.2.1))) (LN_id rfl)))) rfl rfl hl.1 rfl (lv_room (Nat.le_of_ble_eq_true rfl)) dL_law_168 ⟨Nat.le_trans (m := 2000) (by omega) (Nat.le_of_ble_eq_true rfl), Nat.le_trans (m := 20000) (by omega) (Nat.le_of_ble_eq_true rfl)⟩) (st1 := [.int v5.1]) rfl hP hD hS hA (wn := wX5 a cI cF v5.2.1 ++ wX6 b cI cF M ++ wLA ca cL v5.2.2 ++ wDA da cD OD) (LN_l (LN_two (LN_l (LN_id (fX5 a cI cF S v5.2.1))) (LN_id rfl))) (fun H locs hP hD hS => ?_)
      obtain ⟨x6_7, e8, h⟩ := o_n h
      refine lv_nmi e8 ?_
      refine lv_istore (lv' := [(6, .int x6_7), (0, .ref bq), (1, .ref (a 0)), (2, .ref (b 0)), (3, .ref (ca 0)), (4, .ref (da 0)), (5, .int y5)]) hx hb dL_law_171 hl (by decide) rfl (fun ls hl => ?_)
      refine lv_aload_n hx hb dL_law_173 rfl (lv_at hl 3 rfl) ?_
      refine lv_aload_n hx hb dL_law_174 rfl (lv_at hl 1 rfl) ?_
      refine lv_iload hx hb dL_law_175 (lv_at hl 6 rfl) ?_
      refine lv_iconst (v := (1 : Int32)) hx hb dL_law_177 (by decide) ?_
      refine lv_iadd hx hb dL_law_178 ?_
      obtain ⟨i9, h⟩ := o_in h
      refine va_sld hx hb hX hbl hbA hS i9 dL_law_179 ?_
      obtain ⟨v10, g11, h⟩ := o_b h
      refine k_rwL (va_runV (As := [.int (xs (y5 + (1 : Int32)).toNatClampNeg)]) (rest := []) ⟨hx, hb, hml, hown, hts⟩ (c_X6_fill l dC dI cI cF b M (xs (y5 + (1 : Int32)).toNatClampNeg) v10 g11 H.size) (cwV 1 hts gL_law_X6_fill rfl rfl rfl (by decide +kernel) ⟨Nat.le_of_ble_eq_true rfl, Nat.le_of_ble_eq_true rfl⟩) (k_preLw (q0 := 0) (ci := 6) hK hP hD (LN_l (LN_l (LN_r (LN_id (fX6 b cI cF M v10.2))))) rfl rfl rfl) rfl rfl hl.1 rfl (lv_room (Nat.le_of_ble_eq_true rfl)) dL_law_180 ⟨Nat.le_trans (m := 2000) (by omega) (Nat.le_of_ble_eq_true rfl), Nat.le_trans (m := 20000) (by omega) (Nat.le_of_ble_eq_true rfl)⟩) (st1 := [.int v10.1]) rfl hP hD hS hA (wn := wX5 a cI cF v5.2.1 ++ wX6 b cI cF v10.2 ++ wLA ca cL v5.2.2 ++ wDA da cD OD) (LN_l (LN_l (LN_r (LN_id (fX6 b cI cF M v10.2))))) (fun H locs hP hD hS => ?_)
      obtain ⟨x7_12, e13, h⟩ := o_n h
      refine lv_nmi e13 ?_
      refine lv_istore (lv' := [(7, .int x7_12), (6, .int x6_7), (0, .ref bq), (1, .ref (a 0)), (2, .ref (b 0)), (3, .ref (ca 0)), (4, .ref (da 0)), (5, .int y5)]) hx hb dL_law_183 hl (by decide) rfl (fun ls hl => ?_)
      refine lv_aload_n hx hb dL_law_185 rfl (lv_at hl 4 rfl) ?_
      obtain ⟨v14, g15, h⟩ := o_b h
      refine k_ro (va_runV (As := []) (rest := []) ⟨hx, hb, hml, hown, hts⟩ (c_X6_thrown l dC dI cI cF b v10.2  v14 g15) (cwV 0 hts gL_law_X6_thrown rfl rfl rfl (by decide +kernel) ⟨Nat.le_of_ble_eq_true rfl, Nat.le_of_ble_eq_true rfl⟩) (k_preL (q0 := 0) (ci := 6) hK hP (LN_l (LN_l (LN_r (LN_id (fX6 b cI cF v10.2 v10.2))))) rfl rfl rfl) rfl rfl hl.1 rfl (lv_room (Nat.le_of_ble_eq_true rfl)) dL_law_186 ⟨Nat.le_trans (m := 2000) (by omega) (Nat.le_of_ble_eq_true rfl), Nat.le_trans (m := 20000) (by omega) (Nat.le_of_ble_eq_true rfl)⟩) (st1 := [.int v14]) rfl ?_
      refine lv_iload hx hb dL_law_189 (lv_at hl 1 rfl) ?_
      refine lv_icmp_eq (tgt := 196) hx hb dL_law_191 (by decide) (fun c16 => ?_) (fun c16 => ?_)
      rotate_left
      · have h := o_f h c16
        refine lv_iconst (v := (0 : Int32)) hx hb dL_law_194 (by decide) ?_
        exact absurd (Option.some.inj h) (by decide)
      have h := o_t h c16
      refine lv_iload hx hb dL_law_196 (lv_at hl 1 rfl) ?_
      refine lv_if_ne (tgt := 213) hx hb dL_law_198 (by decide) (fun c17 => ?_) (fun c17 => ?_)
      · have h := o_f h c17
        refine lv_goto (tgt := 1335) hx hb dL_law_213 (by decide) ?_
        obtain ⟨x5_18, e19, h⟩ := o_n h
        refine lv_iinc (v := x5_18) (lv' := [(5, .int x5_18), (7, .int x7_12), (6, .int x6_7), (0, .ref bq), (1, .ref (a 0)), (2, .ref (b 0)), (3, .ref (ca 0)), (4, .ref (da 0))]) hx hb dL_law_1335 hl (k := 7) rfl (by rw [e19]; rfl) (by decide) rfl (fun ls hl => ?_)
        refine lv_goto (tgt := 28) hx hb dL_law_1338 (by decide) ?_
        refine W.widen (k := ce + 1) (n := sl + 6) (by omega) (by omega) ?_
        exact ih _ _ _ _ _ h _ _ (by omega) (by omega) _ _ hP hD hS _ (lv_sub hl [3, 4, 5, 6, 7, 0] rfl)
      have h := o_t h c17
      refine lv_aload_n hx hb dL_law_201 rfl (lv_at hl 5 rfl) ?_
      refine lv_iconst (v := (0 : Int32)) hx hb dL_law_202 (by decide) ?_
      refine va_lald hx hb hKL hP 76 2 rfl rfl (by unfold vp_in; decide) dL_law_203 ?_
      refine lv_iload hx hb dL_law_204 (lv_at hl 0 rfl) ?_
      refine lv_i2l hx hb dL_law_206 rfl ?_
      refine W.lcmp hx hb dL_law_207 ?_
      refine lv_if_eq (tgt := 213) hx hb dL_law_208 (by decide) (fun c20 => ?_) (fun c20 => ?_)
      rotate_left
      · have h := o_f h c20
        refine lv_iconst (v := (0 : Int32)) hx hb dL_law_211 (by decide) ?_
        exact absurd (Option.some.inj h) (by decide)
      have h := o_t h c20
      refine lv_goto (tgt := 1335) hx hb dL_law_213 (by decide) ?_
      obtain ⟨x5_21, e22, h⟩ := o_n h
      refine lv_iinc (v := x5_21) (lv' := [(5, .int x5_21), (7, .int x7_12), (6, .int x6_7), (0, .ref bq), (1, .ref (a 0)), (2, .ref (b 0)), (3, .ref (ca 0)), (4, .ref (da 0))]) hx hb dL_law_1335 hl (k := 7) rfl (by rw [e22]; rfl) (by decide) rfl (fun ls hl => ?_)
      refine lv_goto (tgt := 28) hx hb dL_law_1338 (by decide) ?_
      refine W.widen (k := ce + 1) (n := sl + 6) (by omega) (by omega) ?_
      exact ih _ _ _ _ _ h _ _ (by omega) (by omega) _ _ hP hD hS _ (lv_sub hl [3, 4, 5, 6, 7, 0] rfl)
    have h := o_f h c_0
    by_cases c_1 : (xs y5.toNatClampNeg) &&& (31 : Int32) = 1
    · have h := o_t h c_1
      refine k_swIn (v := 1) (off := 172) (tgt := 216) hx hb c_1 dL_law_44 (by decide) (by decide) (by decide +kernel) (by decide) ?_
      refine lv_aload_n hx hb dL_law_216 rfl (lv_at hl 1 rfl) ?_
      refine lv_aload_n hx hb dL_law_217 rfl (lv_at hl 0 rfl) ?_
      refine lv_iload hx hb dL_law_218 (lv_at hl 5 rfl) ?_
      refine lv_iconst (v := (1 : Int32)) hx hb dL_law_220 (by decide) ?_
      refine lv_iadd hx hb dL_law_221 ?_
      obtain ⟨i24, h⟩ := o_in h
      refine va_sld hx hb hX hbl hbA hS i24 dL_law_222 ?_
      refine lv_aload_n hx hb dL_law_223 rfl (lv_at hl 3 rfl) ?_
      obtain ⟨v25, g26, h⟩ := o_b h
      refine k_rwx (vx_runSX (As := [.ref (a 0), .int (xs (y5 + (1 : Int32)).toNatClampNeg), .ref (ca 0)]) (rest := []) ⟨hx, hb, hml, hown, hts⟩ (c_L_tip l hfl dC dI cI cF cL cD a ca S O (xs (y5 + (1 : Int32)).toNatClampNeg) v25 g26 H.size) (vx_cwSW 3 hts gL_law_L_tip rfl rfl rfl (by decide +kernel) ⟨Nat.le_of_ble_eq_true rfl, Nat.le_of_ble_eq_true rfl⟩) (k_preSL hE hN hS hA hKL hP hD (LN_l (LN_two (LN_l (LN_id (fX5 a cI cF S v25.2.1))) (LN_id rfl)))) rfl rfl hl.1 rfl (lv_room (Nat.le_of_ble_eq_true rfl)) dL_law_224 ⟨Nat.le_trans (m := 2000) (by omega) (Nat.le_of_ble_eq_true rfl), Nat.le_trans (m := 20000) (by omega) (Nat.le_of_ble_eq_true rfl)⟩) (st1 := [.int v25.1]) rfl hP hD hS hA (wn := wX5 a cI cF v25.2.1 ++ wX6 b cI cF M ++ wLA ca cL v25.2.2 ++ wDA da cD OD) (LN_l (LN_two (LN_l (LN_id (fX5 a cI cF S v25.2.1))) (LN_id rfl))) (fun H locs hP hD hS => ?_)
      obtain ⟨x6_27, e28, h⟩ := o_n h
      refine lv_nmi e28 ?_
      refine lv_istore (lv' := [(6, .int x6_27), (0, .ref bq), (1, .ref (a 0)), (2, .ref (b 0)), (3, .ref (ca 0)), (4, .ref (da 0)), (5, .int y5)]) hx hb dL_law_227 hl (by decide) rfl (fun ls hl => ?_)
      refine lv_aload_n hx hb dL_law_229 rfl (lv_at hl 3 rfl) ?_
      refine lv_aload_n hx hb dL_law_230 rfl (lv_at hl 1 rfl) ?_
      refine lv_iload hx hb dL_law_231 (lv_at hl 6 rfl) ?_
      refine lv_iconst (v := (1 : Int32)) hx hb dL_law_233 (by decide) ?_
      refine lv_iadd hx hb dL_law_234 ?_
      obtain ⟨i29, h⟩ := o_in h
      refine va_sld hx hb hX hbl hbA hS i29 dL_law_235 ?_
      obtain ⟨v30, g31, h⟩ := o_b h
      refine k_rwL (va_runV (As := [.int (xs (y5 + (1 : Int32)).toNatClampNeg)]) (rest := []) ⟨hx, hb, hml, hown, hts⟩ (c_X6_tip l dC dI cI cF b M (xs (y5 + (1 : Int32)).toNatClampNeg) v30 g31 H.size) (cwV 1 hts gL_law_X6_tip rfl rfl rfl (by decide +kernel) ⟨Nat.le_of_ble_eq_true rfl, Nat.le_of_ble_eq_true rfl⟩) (k_preLw (q0 := 0) (ci := 6) hK hP hD (LN_l (LN_l (LN_r (LN_id (fX6 b cI cF M v30.2))))) rfl rfl rfl) rfl rfl hl.1 rfl (lv_room (Nat.le_of_ble_eq_true rfl)) dL_law_236 ⟨Nat.le_trans (m := 2000) (by omega) (Nat.le_of_ble_eq_true rfl), Nat.le_trans (m := 20000) (by omega) (Nat.le_of_ble_eq_true rfl)⟩) (st1 := [.int v30.1]) rfl hP hD hS hA (wn := wX5 a cI cF v25.2.1 ++ wX6 b cI cF v30.2 ++ wLA ca cL v25.2.2 ++ wDA da cD OD) (LN_l (LN_l (LN_r (LN_id (fX6 b cI cF M v30.2))))) (fun H locs hP hD hS => ?_)
      obtain ⟨x7_32, e33, h⟩ := o_n h
      refine lv_nmi e33 ?_
      refine lv_istore (lv' := [(7, .int x7_32), (6, .int x6_27), (0, .ref bq), (1, .ref (a 0)), (2, .ref (b 0)), (3, .ref (ca 0)), (4, .ref (da 0)), (5, .int y5)]) hx hb dL_law_239 hl (by decide) rfl (fun ls hl => ?_)
      refine lv_aload_n hx hb dL_law_241 rfl (lv_at hl 4 rfl) ?_
      obtain ⟨v34, g35, h⟩ := o_b h
      refine k_ro (va_runV (As := []) (rest := []) ⟨hx, hb, hml, hown, hts⟩ (c_X6_thrown l dC dI cI cF b v30.2  v34 g35) (cwV 0 hts gL_law_X6_thrown rfl rfl rfl (by decide +kernel) ⟨Nat.le_of_ble_eq_true rfl, Nat.le_of_ble_eq_true rfl⟩) (k_preL (q0 := 0) (ci := 6) hK hP (LN_l (LN_l (LN_r (LN_id (fX6 b cI cF v30.2 v30.2))))) rfl rfl rfl) rfl rfl hl.1 rfl (lv_room (Nat.le_of_ble_eq_true rfl)) dL_law_242 ⟨Nat.le_trans (m := 2000) (by omega) (Nat.le_of_ble_eq_true rfl), Nat.le_trans (m := 20000) (by omega) (Nat.le_of_ble_eq_true rfl)⟩) (st1 := [.int v34]) rfl ?_
      refine lv_iload hx hb dL_law_245 (lv_at hl 1 rfl) ?_
      refine lv_icmp_eq (tgt := 252) hx hb dL_law_247 (by decide) (fun c36 => ?_) (fun c36 => ?_)
      rotate_left
      · have h := o_f h c36
        refine lv_iconst (v := (0 : Int32)) hx hb dL_law_250 (by decide) ?_
        exact absurd (Option.some.inj h) (by decide)
      have h := o_t h c36
      refine lv_iload hx hb dL_law_252 (lv_at hl 1 rfl) ?_
      refine lv_if_ne (tgt := 269) hx hb dL_law_254 (by decide) (fun c37 => ?_) (fun c37 => ?_)
      · have h := o_f h c37
        refine lv_goto (tgt := 1335) hx hb dL_law_269 (by decide) ?_
        obtain ⟨x5_38, e39, h⟩ := o_n h
        refine lv_iinc (v := x5_38) (lv' := [(5, .int x5_38), (7, .int x7_32), (6, .int x6_27), (0, .ref bq), (1, .ref (a 0)), (2, .ref (b 0)), (3, .ref (ca 0)), (4, .ref (da 0))]) hx hb dL_law_1335 hl (k := 7) rfl (by rw [e39]; rfl) (by decide) rfl (fun ls hl => ?_)
        refine lv_goto (tgt := 28) hx hb dL_law_1338 (by decide) ?_
        refine W.widen (k := ce + 1) (n := sl + 6) (by omega) (by omega) ?_
        exact ih _ _ _ _ _ h _ _ (by omega) (by omega) _ _ hP hD hS _ (lv_sub hl [3, 4, 5, 6, 7, 0] rfl)
      have h := o_t h c37
      refine lv_aload_n hx hb dL_law_257 rfl (lv_at hl 5 rfl) ?_
      refine lv_iconst (v := (0 : Int32)) hx hb dL_law_258 (by decide) ?_
      refine va_lald hx hb hKL hP 76 2 rfl rfl (by unfold vp_in; decide) dL_law_259 ?_
      refine lv_iload hx hb dL_law_260 (lv_at hl 0 rfl) ?_
      refine lv_i2l hx hb dL_law_262 rfl ?_
      refine W.lcmp hx hb dL_law_263 ?_
      refine lv_if_eq (tgt := 269) hx hb dL_law_264 (by decide) (fun c40 => ?_) (fun c40 => ?_)
      rotate_left
      · have h := o_f h c40
        refine lv_iconst (v := (0 : Int32)) hx hb dL_law_267 (by decide) ?_
        exact absurd (Option.some.inj h) (by decide)
      have h := o_t h c40
      refine lv_goto (tgt := 1335) hx hb dL_law_269 (by decide) ?_
      obtain ⟨x5_41, e42, h⟩ := o_n h
      refine lv_iinc (v := x5_41) (lv' := [(5, .int x5_41), (7, .int x7_32), (6, .int x6_27), (0, .ref bq), (1, .ref (a 0)), (2, .ref (b 0)), (3, .ref (ca 0)), (4, .ref (da 0))]) hx hb dL_law_1335 hl (k := 7) rfl (by rw [e42]; rfl) (by decide) rfl (fun ls hl => ?_)
      refine lv_goto (tgt := 28) hx hb dL_law_1338 (by decide) ?_
      refine W.widen (k := ce + 1) (n := sl + 6) (by omega) (by omega) ?_
      exact ih _ _ _ _ _ h _ _ (by omega) (by omega) _ _ hP hD hS _ (lv_sub hl [3, 4, 5, 6, 7, 0] rfl)
    have h := o_f h c_1
    by_cases c_2 : (xs y5.toNatClampNeg) &&& (31 : Int32) = 2
    · have h := o_t h c_2
      refine k_swIn (v := 2) (off := 228) (tgt := 272) hx hb c_2 dL_law_44 (by decide) (by decide) (by decide +kernel) (by decide) ?_
      refine lv_aload_n hx hb dL_law_272 rfl (lv_at hl 1 rfl) ?_
      refine lv_aload_n hx hb dL_law_273 rfl (lv_at hl 0 rfl) ?_
      refine lv_iload hx hb dL_law_274 (lv_at hl 5 rfl) ?_
      refine lv_iconst (v := (1 : Int32)) hx hb dL_law_276 (by decide) ?_
      refine lv_iadd hx hb dL_law_277 ?_
      obtain ⟨i44, h⟩ := o_in h
      refine va_sld hx hb hX hbl hbA hS i44 dL_law_278 ?_
      refine lv_aload_n hx hb dL_law_279 rfl (lv_at hl 3 rfl) ?_
      obtain ⟨v45, g46, h⟩ := o_b h
      refine k_rwx (vx_runSX (As := [.ref (a 0), .int (xs (y5 + (1 : Int32)).toNatClampNeg), .ref (ca 0)]) (rest := []) ⟨hx, hb, hml, hown, hts⟩ (c_L_feed l hfl dC dI cI cF cL cD a ca S O (xs (y5 + (1 : Int32)).toNatClampNeg) v45 g46 H.size) (vx_cwSW 3 hts gL_law_L_feed rfl rfl rfl (by decide +kernel) ⟨Nat.le_of_ble_eq_true rfl, Nat.le_of_ble_eq_true rfl⟩) (k_preSL hE hN hS hA hKL hP hD (LN_l (LN_two (LN_l (LN_id (fX5 a cI cF S v45.2.1))) (LN_id rfl)))) rfl rfl hl.1 rfl (lv_room (Nat.le_of_ble_eq_true rfl)) dL_law_280 ⟨Nat.le_trans (m := 2000) (by omega) (Nat.le_of_ble_eq_true rfl), Nat.le_trans (m := 20000) (by omega) (Nat.le_of_ble_eq_true rfl)⟩) (st1 := [.int v45.1]) rfl hP hD hS hA (wn := wX5 a cI cF v45.2.1 ++ wX6 b cI cF M ++ wLA ca cL v45.2.2 ++ wDA da cD OD) (LN_l (LN_two (LN_l (LN_id (fX5 a cI cF S v45.2.1))) (LN_id rfl))) (fun H locs hP hD hS => ?_)
      obtain ⟨x6_47, e48, h⟩ := o_n h
      refine lv_nmi e48 ?_
      refine lv_istore (lv' := [(6, .int x6_47), (0, .ref bq), (1, .ref (a 0)), (2, .ref (b 0)), (3, .ref (ca 0)), (4, .ref (da 0)), (5, .int y5)]) hx hb dL_law_283 hl (by decide) rfl (fun ls hl => ?_)
      refine lv_aload_n hx hb dL_law_285 rfl (lv_at hl 3 rfl) ?_
      refine lv_aload_n hx hb dL_law_286 rfl (lv_at hl 1 rfl) ?_
      refine lv_iload hx hb dL_law_287 (lv_at hl 6 rfl) ?_
      refine lv_iconst (v := (1 : Int32)) hx hb dL_law_289 (by decide) ?_
      refine lv_iadd hx hb dL_law_290 ?_
      obtain ⟨i49, h⟩ := o_in h
      refine va_sld hx hb hX hbl hbA hS i49 dL_law_291 ?_
      obtain ⟨v50, g51, h⟩ := o_b h
      refine k_rwL (va_runV (As := [.int (xs (y5 + (1 : Int32)).toNatClampNeg)]) (rest := []) ⟨hx, hb, hml, hown, hts⟩ (c_X6_feed l dC dI cI cF b M (xs (y5 + (1 : Int32)).toNatClampNeg) v50 g51 H.size) (cwV 1 hts gL_law_X6_feed rfl rfl rfl (by decide +kernel) ⟨Nat.le_of_ble_eq_true rfl, Nat.le_of_ble_eq_true rfl⟩) (k_preLw (q0 := 0) (ci := 6) hK hP hD (LN_l (LN_l (LN_r (LN_id (fX6 b cI cF M v50.2))))) rfl rfl rfl) rfl rfl hl.1 rfl (lv_room (Nat.le_of_ble_eq_true rfl)) dL_law_292 ⟨Nat.le_trans (m := 2000) (by omega) (Nat.le_of_ble_eq_true rfl), Nat.le_trans (m := 20000) (by omega) (Nat.le_of_ble_eq_true rfl)⟩) (st1 := [.int v50.1]) rfl hP hD hS hA (wn := wX5 a cI cF v45.2.1 ++ wX6 b cI cF v50.2 ++ wLA ca cL v45.2.2 ++ wDA da cD OD) (LN_l (LN_l (LN_r (LN_id (fX6 b cI cF M v50.2))))) (fun H locs hP hD hS => ?_)
      obtain ⟨x7_52, e53, h⟩ := o_n h
      refine lv_nmi e53 ?_
      refine lv_istore (lv' := [(7, .int x7_52), (6, .int x6_47), (0, .ref bq), (1, .ref (a 0)), (2, .ref (b 0)), (3, .ref (ca 0)), (4, .ref (da 0)), (5, .int y5)]) hx hb dL_law_295 hl (by decide) rfl (fun ls hl => ?_)
      refine lv_aload_n hx hb dL_law_297 rfl (lv_at hl 4 rfl) ?_
      obtain ⟨v54, g55, h⟩ := o_b h
      refine k_ro (va_runV (As := []) (rest := []) ⟨hx, hb, hml, hown, hts⟩ (c_X6_thrown l dC dI cI cF b v50.2  v54 g55) (cwV 0 hts gL_law_X6_thrown rfl rfl rfl (by decide +kernel) ⟨Nat.le_of_ble_eq_true rfl, Nat.le_of_ble_eq_true rfl⟩) (k_preL (q0 := 0) (ci := 6) hK hP (LN_l (LN_l (LN_r (LN_id (fX6 b cI cF v50.2 v50.2))))) rfl rfl rfl) rfl rfl hl.1 rfl (lv_room (Nat.le_of_ble_eq_true rfl)) dL_law_298 ⟨Nat.le_trans (m := 2000) (by omega) (Nat.le_of_ble_eq_true rfl), Nat.le_trans (m := 20000) (by omega) (Nat.le_of_ble_eq_true rfl)⟩) (st1 := [.int v54]) rfl ?_
      refine lv_iload hx hb dL_law_301 (lv_at hl 1 rfl) ?_
      refine lv_icmp_eq (tgt := 308) hx hb dL_law_303 (by decide) (fun c56 => ?_) (fun c56 => ?_)
      rotate_left
      · have h := o_f h c56
        refine lv_iconst (v := (0 : Int32)) hx hb dL_law_306 (by decide) ?_
        exact absurd (Option.some.inj h) (by decide)
      have h := o_t h c56
      refine lv_iload hx hb dL_law_308 (lv_at hl 1 rfl) ?_
      refine lv_if_ne (tgt := 325) hx hb dL_law_310 (by decide) (fun c57 => ?_) (fun c57 => ?_)
      · have h := o_f h c57
        refine lv_goto (tgt := 1335) hx hb dL_law_325 (by decide) ?_
        obtain ⟨x5_58, e59, h⟩ := o_n h
        refine lv_iinc (v := x5_58) (lv' := [(5, .int x5_58), (7, .int x7_52), (6, .int x6_47), (0, .ref bq), (1, .ref (a 0)), (2, .ref (b 0)), (3, .ref (ca 0)), (4, .ref (da 0))]) hx hb dL_law_1335 hl (k := 7) rfl (by rw [e59]; rfl) (by decide) rfl (fun ls hl => ?_)
        refine lv_goto (tgt := 28) hx hb dL_law_1338 (by decide) ?_
        refine W.widen (k := ce + 1) (n := sl + 6) (by omega) (by omega) ?_
        exact ih _ _ _ _ _ h _ _ (by omega) (by omega) _ _ hP hD hS _ (lv_sub hl [3, 4, 5, 6, 7, 0] rfl)
      have h := o_t h c57
      refine lv_aload_n hx hb dL_law_313 rfl (lv_at hl 5 rfl) ?_
      refine lv_iconst (v := (0 : Int32)) hx hb dL_law_314 (by decide) ?_
      refine va_lald hx hb hKL hP 76 2 rfl rfl (by unfold vp_in; decide) dL_law_315 ?_
      refine lv_iload hx hb dL_law_316 (lv_at hl 0 rfl) ?_
      refine lv_i2l hx hb dL_law_318 rfl ?_
      refine W.lcmp hx hb dL_law_319 ?_
      refine lv_if_eq (tgt := 325) hx hb dL_law_320 (by decide) (fun c60 => ?_) (fun c60 => ?_)
      rotate_left
      · have h := o_f h c60
        refine lv_iconst (v := (0 : Int32)) hx hb dL_law_323 (by decide) ?_
        exact absurd (Option.some.inj h) (by decide)
      have h := o_t h c60
      refine lv_goto (tgt := 1335) hx hb dL_law_325 (by decide) ?_
      obtain ⟨x5_61, e62, h⟩ := o_n h
      refine lv_iinc (v := x5_61) (lv' := [(5, .int x5_61), (7, .int x7_52), (6, .int x6_47), (0, .ref bq), (1, .ref (a 0)), (2, .ref (b 0)), (3, .ref (ca 0)), (4, .ref (da 0))]) hx hb dL_law_1335 hl (k := 7) rfl (by rw [e62]; rfl) (by decide) rfl (fun ls hl => ?_)
      refine lv_goto (tgt := 28) hx hb dL_law_1338 (by decide) ?_
      refine W.widen (k := ce + 1) (n := sl + 6) (by omega) (by omega) ?_
      exact ih _ _ _ _ _ h _ _ (by omega) (by omega) _ _ hP hD hS _ (lv_sub hl [3, 4, 5, 6, 7, 0] rfl)
    have h := o_f h c_2
    by_cases c_3 : (xs y5.toNatClampNeg) &&& (31 : Int32) = 3
    · have h := o_t h c_3
      refine k_swIn (v := 3) (off := 284) (tgt := 328) hx hb c_3 dL_law_44 (by decide) (by decide) (by decide +kernel) (by decide) ?_
      refine lv_aload_n hx hb dL_law_328 rfl (lv_at hl 1 rfl) ?_
      refine lv_aload_n hx hb dL_law_329 rfl (lv_at hl 0 rfl) ?_
      refine lv_iload hx hb dL_law_330 (lv_at hl 5 rfl) ?_
      refine lv_iconst (v := (1 : Int32)) hx hb dL_law_332 (by decide) ?_
      refine lv_iadd hx hb dL_law_333 ?_
      obtain ⟨i64, h⟩ := o_in h
      refine va_sld hx hb hX hbl hbA hS i64 dL_law_334 ?_
      refine lv_aload_n hx hb dL_law_335 rfl (lv_at hl 3 rfl) ?_
      obtain ⟨v65, g66, h⟩ := o_b h
      refine k_rwx (vx_runSX (As := [.ref (a 0), .int (xs (y5 + (1 : Int32)).toNatClampNeg), .ref (ca 0)]) (rest := []) ⟨hx, hb, hml, hown, hts⟩ (c_L_out l hfl dC dI cI cF cL cD a ca S O (xs (y5 + (1 : Int32)).toNatClampNeg) v65 g66 H.size) (vx_cwSW 3 hts gL_law_L_out rfl rfl rfl (by decide +kernel) ⟨Nat.le_of_ble_eq_true rfl, Nat.le_of_ble_eq_true rfl⟩) (k_preSL hE hN hS hA hKL hP hD (LN_l (LN_two (LN_l (LN_id (fX5 a cI cF S v65.2.1))) (LN_id rfl)))) rfl rfl hl.1 rfl (lv_room (Nat.le_of_ble_eq_true rfl)) dL_law_336 ⟨Nat.le_trans (m := 2000) (by omega) (Nat.le_of_ble_eq_true rfl), Nat.le_trans (m := 20000) (by omega) (Nat.le_of_ble_eq_true rfl)⟩) (st1 := [.int v65.1]) rfl hP hD hS hA (wn := wX5 a cI cF v65.2.1 ++ wX6 b cI cF M ++ wLA ca cL v65.2.2 ++ wDA da cD OD) (LN_l (LN_two (LN_l (LN_id (fX5 a cI cF S v65.2.1))) (LN_id rfl))) (fun H locs hP hD hS => ?_)
      obtain ⟨x6_67, e68, h⟩ := o_n h
      refine lv_nmi e68 ?_
      refine lv_istore (lv' := [(6, .int x6_67), (0, .ref bq), (1, .ref (a 0)), (2, .ref (b 0)), (3, .ref (ca 0)), (4, .ref (da 0)), (5, .int y5)]) hx hb dL_law_339 hl (by decide) rfl (fun ls hl => ?_)
      refine lv_aload_n hx hb dL_law_341 rfl (lv_at hl 3 rfl) ?_
      refine lv_aload_n hx hb dL_law_342 rfl (lv_at hl 1 rfl) ?_
      refine lv_iload hx hb dL_law_343 (lv_at hl 6 rfl) ?_
      refine lv_iconst (v := (1 : Int32)) hx hb dL_law_345 (by decide) ?_
      refine lv_iadd hx hb dL_law_346 ?_
      obtain ⟨i69, h⟩ := o_in h
      refine va_sld hx hb hX hbl hbA hS i69 dL_law_347 ?_
      obtain ⟨v70, g71, h⟩ := o_b h
      refine k_rwL (va_runV (As := [.int (xs (y5 + (1 : Int32)).toNatClampNeg)]) (rest := []) ⟨hx, hb, hml, hown, hts⟩ (c_X6_out l dC dI cI cF b M (xs (y5 + (1 : Int32)).toNatClampNeg) v70 g71 H.size) (cwV 1 hts gL_law_X6_out rfl rfl rfl (by decide +kernel) ⟨Nat.le_of_ble_eq_true rfl, Nat.le_of_ble_eq_true rfl⟩) (k_preLw (q0 := 0) (ci := 6) hK hP hD (LN_l (LN_l (LN_r (LN_id (fX6 b cI cF M v70.2))))) rfl rfl rfl) rfl rfl hl.1 rfl (lv_room (Nat.le_of_ble_eq_true rfl)) dL_law_348 ⟨Nat.le_trans (m := 2000) (by omega) (Nat.le_of_ble_eq_true rfl), Nat.le_trans (m := 20000) (by omega) (Nat.le_of_ble_eq_true rfl)⟩) (st1 := [.int v70.1]) rfl hP hD hS hA (wn := wX5 a cI cF v65.2.1 ++ wX6 b cI cF v70.2 ++ wLA ca cL v65.2.2 ++ wDA da cD OD) (LN_l (LN_l (LN_r (LN_id (fX6 b cI cF M v70.2))))) (fun H locs hP hD hS => ?_)
      obtain ⟨x7_72, e73, h⟩ := o_n h
      refine lv_nmi e73 ?_
      refine lv_istore (lv' := [(7, .int x7_72), (6, .int x6_67), (0, .ref bq), (1, .ref (a 0)), (2, .ref (b 0)), (3, .ref (ca 0)), (4, .ref (da 0)), (5, .int y5)]) hx hb dL_law_351 hl (by decide) rfl (fun ls hl => ?_)
      refine lv_aload_n hx hb dL_law_353 rfl (lv_at hl 4 rfl) ?_
      obtain ⟨v74, g75, h⟩ := o_b h
      refine k_ro (va_runV (As := []) (rest := []) ⟨hx, hb, hml, hown, hts⟩ (c_X6_thrown l dC dI cI cF b v70.2  v74 g75) (cwV 0 hts gL_law_X6_thrown rfl rfl rfl (by decide +kernel) ⟨Nat.le_of_ble_eq_true rfl, Nat.le_of_ble_eq_true rfl⟩) (k_preL (q0 := 0) (ci := 6) hK hP (LN_l (LN_l (LN_r (LN_id (fX6 b cI cF v70.2 v70.2))))) rfl rfl rfl) rfl rfl hl.1 rfl (lv_room (Nat.le_of_ble_eq_true rfl)) dL_law_354 ⟨Nat.le_trans (m := 2000) (by omega) (Nat.le_of_ble_eq_true rfl), Nat.le_trans (m := 20000) (by omega) (Nat.le_of_ble_eq_true rfl)⟩) (st1 := [.int v74]) rfl ?_
      refine lv_iload hx hb dL_law_357 (lv_at hl 1 rfl) ?_
      refine lv_icmp_eq (tgt := 364) hx hb dL_law_359 (by decide) (fun c76 => ?_) (fun c76 => ?_)
      rotate_left
      · have h := o_f h c76
        refine lv_iconst (v := (0 : Int32)) hx hb dL_law_362 (by decide) ?_
        exact absurd (Option.some.inj h) (by decide)
      have h := o_t h c76
      refine lv_iload hx hb dL_law_364 (lv_at hl 1 rfl) ?_
      refine lv_if_ne (tgt := 381) hx hb dL_law_366 (by decide) (fun c77 => ?_) (fun c77 => ?_)
      · have h := o_f h c77
        refine lv_goto (tgt := 1335) hx hb dL_law_381 (by decide) ?_
        obtain ⟨x5_78, e79, h⟩ := o_n h
        refine lv_iinc (v := x5_78) (lv' := [(5, .int x5_78), (7, .int x7_72), (6, .int x6_67), (0, .ref bq), (1, .ref (a 0)), (2, .ref (b 0)), (3, .ref (ca 0)), (4, .ref (da 0))]) hx hb dL_law_1335 hl (k := 7) rfl (by rw [e79]; rfl) (by decide) rfl (fun ls hl => ?_)
        refine lv_goto (tgt := 28) hx hb dL_law_1338 (by decide) ?_
        refine W.widen (k := ce + 1) (n := sl + 6) (by omega) (by omega) ?_
        exact ih _ _ _ _ _ h _ _ (by omega) (by omega) _ _ hP hD hS _ (lv_sub hl [3, 4, 5, 6, 7, 0] rfl)
      have h := o_t h c77
      refine lv_aload_n hx hb dL_law_369 rfl (lv_at hl 5 rfl) ?_
      refine lv_iconst (v := (0 : Int32)) hx hb dL_law_370 (by decide) ?_
      refine va_lald hx hb hKL hP 76 2 rfl rfl (by unfold vp_in; decide) dL_law_371 ?_
      refine lv_iload hx hb dL_law_372 (lv_at hl 0 rfl) ?_
      refine lv_i2l hx hb dL_law_374 rfl ?_
      refine W.lcmp hx hb dL_law_375 ?_
      refine lv_if_eq (tgt := 381) hx hb dL_law_376 (by decide) (fun c80 => ?_) (fun c80 => ?_)
      rotate_left
      · have h := o_f h c80
        refine lv_iconst (v := (0 : Int32)) hx hb dL_law_379 (by decide) ?_
        exact absurd (Option.some.inj h) (by decide)
      have h := o_t h c80
      refine lv_goto (tgt := 1335) hx hb dL_law_381 (by decide) ?_
      obtain ⟨x5_81, e82, h⟩ := o_n h
      refine lv_iinc (v := x5_81) (lv' := [(5, .int x5_81), (7, .int x7_72), (6, .int x6_67), (0, .ref bq), (1, .ref (a 0)), (2, .ref (b 0)), (3, .ref (ca 0)), (4, .ref (da 0))]) hx hb dL_law_1335 hl (k := 7) rfl (by rw [e82]; rfl) (by decide) rfl (fun ls hl => ?_)
      refine lv_goto (tgt := 28) hx hb dL_law_1338 (by decide) ?_
      refine W.widen (k := ce + 1) (n := sl + 6) (by omega) (by omega) ?_
      exact ih _ _ _ _ _ h _ _ (by omega) (by omega) _ _ hP hD hS _ (lv_sub hl [3, 4, 5, 6, 7, 0] rfl)
    have h := o_f h c_3
    by_cases c_4 : (xs y5.toNatClampNeg) &&& (31 : Int32) = 4
    · have h := o_t h c_4
      refine k_swIn (v := 4) (off := 340) (tgt := 384) hx hb c_4 dL_law_44 (by decide) (by decide) (by decide +kernel) (by decide) ?_
      refine lv_aload_n hx hb dL_law_384 rfl (lv_at hl 1 rfl) ?_
      refine lv_aload_n hx hb dL_law_385 rfl (lv_at hl 0 rfl) ?_
      refine lv_iload hx hb dL_law_386 (lv_at hl 5 rfl) ?_
      refine lv_iconst (v := (1 : Int32)) hx hb dL_law_388 (by decide) ?_
      refine lv_iadd hx hb dL_law_389 ?_
      obtain ⟨i84, h⟩ := o_in h
      refine va_sld hx hb hX hbl hbA hS i84 dL_law_390 ?_
      refine lv_aload_n hx hb dL_law_391 rfl (lv_at hl 3 rfl) ?_
      obtain ⟨v85, g86, h⟩ := o_b h
      refine k_rwx (vx_runSX (As := [.ref (a 0), .int (xs (y5 + (1 : Int32)).toNatClampNeg), .ref (ca 0)]) (rest := []) ⟨hx, hb, hml, hown, hts⟩ (c_L_run l hfl dC dI cI cF cL cD a ca S O (xs (y5 + (1 : Int32)).toNatClampNeg) v85 g86 H.size) (vx_cwSW 3 hts gL_law_L_run rfl rfl rfl (by decide +kernel) ⟨Nat.le_of_ble_eq_true rfl, Nat.le_of_ble_eq_true rfl⟩) (k_preSL hE hN hS hA hKL hP hD (LN_l (LN_two (LN_l (LN_id (fX5 a cI cF S v85.2.1))) (LN_id rfl)))) rfl rfl hl.1 rfl (lv_room (Nat.le_of_ble_eq_true rfl)) dL_law_392 ⟨Nat.le_trans (m := 2000) (by omega) (Nat.le_of_ble_eq_true rfl), Nat.le_trans (m := 20000) (by omega) (Nat.le_of_ble_eq_true rfl)⟩) (st1 := [.int v85.1]) rfl hP hD hS hA (wn := wX5 a cI cF v85.2.1 ++ wX6 b cI cF M ++ wLA ca cL v85.2.2 ++ wDA da cD OD) (LN_l (LN_two (LN_l (LN_id (fX5 a cI cF S v85.2.1))) (LN_id rfl))) (fun H locs hP hD hS => ?_)
      obtain ⟨x6_87, e88, h⟩ := o_n h
      refine lv_nmi e88 ?_
      refine lv_istore (lv' := [(6, .int x6_87), (0, .ref bq), (1, .ref (a 0)), (2, .ref (b 0)), (3, .ref (ca 0)), (4, .ref (da 0)), (5, .int y5)]) hx hb dL_law_395 hl (by decide) rfl (fun ls hl => ?_)
      refine lv_aload_n hx hb dL_law_397 rfl (lv_at hl 3 rfl) ?_
      refine lv_aload_n hx hb dL_law_398 rfl (lv_at hl 1 rfl) ?_
      refine lv_iload hx hb dL_law_399 (lv_at hl 6 rfl) ?_
      refine lv_iconst (v := (1 : Int32)) hx hb dL_law_401 (by decide) ?_
      refine lv_iadd hx hb dL_law_402 ?_
      obtain ⟨i89, h⟩ := o_in h
      refine va_sld hx hb hX hbl hbA hS i89 dL_law_403 ?_
      obtain ⟨v90, g91, h⟩ := o_b h
      refine k_rwL (va_runV (As := [.int (xs (y5 + (1 : Int32)).toNatClampNeg)]) (rest := []) ⟨hx, hb, hml, hown, hts⟩ (c_X6_run l dC dI cI cF b M (xs (y5 + (1 : Int32)).toNatClampNeg) v90 g91 H.size) (cwV 1 hts gL_law_X6_run rfl rfl rfl (by decide +kernel) ⟨Nat.le_of_ble_eq_true rfl, Nat.le_of_ble_eq_true rfl⟩) (k_preLw (q0 := 0) (ci := 6) hK hP hD (LN_l (LN_l (LN_r (LN_id (fX6 b cI cF M v90.2))))) rfl rfl rfl) rfl rfl hl.1 rfl (lv_room (Nat.le_of_ble_eq_true rfl)) dL_law_404 ⟨Nat.le_trans (m := 2000) (by omega) (Nat.le_of_ble_eq_true rfl), Nat.le_trans (m := 20000) (by omega) (Nat.le_of_ble_eq_true rfl)⟩) (st1 := [.int v90.1]) rfl hP hD hS hA (wn := wX5 a cI cF v85.2.1 ++ wX6 b cI cF v90.2 ++ wLA ca cL v85.2.2 ++ wDA da cD OD) (LN_l (LN_l (LN_r (LN_id (fX6 b cI cF M v90.2))))) (fun H locs hP hD hS => ?_)
      obtain ⟨x7_92, e93, h⟩ := o_n h
      refine lv_nmi e93 ?_
      refine lv_istore (lv' := [(7, .int x7_92), (6, .int x6_87), (0, .ref bq), (1, .ref (a 0)), (2, .ref (b 0)), (3, .ref (ca 0)), (4, .ref (da 0)), (5, .int y5)]) hx hb dL_law_407 hl (by decide) rfl (fun ls hl => ?_)
      refine lv_aload_n hx hb dL_law_409 rfl (lv_at hl 4 rfl) ?_
      obtain ⟨v94, g95, h⟩ := o_b h
      refine k_ro (va_runV (As := []) (rest := []) ⟨hx, hb, hml, hown, hts⟩ (c_X6_thrown l dC dI cI cF b v90.2  v94 g95) (cwV 0 hts gL_law_X6_thrown rfl rfl rfl (by decide +kernel) ⟨Nat.le_of_ble_eq_true rfl, Nat.le_of_ble_eq_true rfl⟩) (k_preL (q0 := 0) (ci := 6) hK hP (LN_l (LN_l (LN_r (LN_id (fX6 b cI cF v90.2 v90.2))))) rfl rfl rfl) rfl rfl hl.1 rfl (lv_room (Nat.le_of_ble_eq_true rfl)) dL_law_410 ⟨Nat.le_trans (m := 2000) (by omega) (Nat.le_of_ble_eq_true rfl), Nat.le_trans (m := 20000) (by omega) (Nat.le_of_ble_eq_true rfl)⟩) (st1 := [.int v94]) rfl ?_
      refine lv_iload hx hb dL_law_413 (lv_at hl 1 rfl) ?_
      refine lv_icmp_eq (tgt := 420) hx hb dL_law_415 (by decide) (fun c96 => ?_) (fun c96 => ?_)
      rotate_left
      · have h := o_f h c96
        refine lv_iconst (v := (0 : Int32)) hx hb dL_law_418 (by decide) ?_
        exact absurd (Option.some.inj h) (by decide)
      have h := o_t h c96
      refine lv_iload hx hb dL_law_420 (lv_at hl 1 rfl) ?_
      refine lv_if_ne (tgt := 437) hx hb dL_law_422 (by decide) (fun c97 => ?_) (fun c97 => ?_)
      · have h := o_f h c97
        refine lv_goto (tgt := 1335) hx hb dL_law_437 (by decide) ?_
        obtain ⟨x5_98, e99, h⟩ := o_n h
        refine lv_iinc (v := x5_98) (lv' := [(5, .int x5_98), (7, .int x7_92), (6, .int x6_87), (0, .ref bq), (1, .ref (a 0)), (2, .ref (b 0)), (3, .ref (ca 0)), (4, .ref (da 0))]) hx hb dL_law_1335 hl (k := 7) rfl (by rw [e99]; rfl) (by decide) rfl (fun ls hl => ?_)
        refine lv_goto (tgt := 28) hx hb dL_law_1338 (by decide) ?_
        refine W.widen (k := ce + 1) (n := sl + 6) (by omega) (by omega) ?_
        exact ih _ _ _ _ _ h _ _ (by omega) (by omega) _ _ hP hD hS _ (lv_sub hl [3, 4, 5, 6, 7, 0] rfl)
      have h := o_t h c97
      refine lv_aload_n hx hb dL_law_425 rfl (lv_at hl 5 rfl) ?_
      refine lv_iconst (v := (0 : Int32)) hx hb dL_law_426 (by decide) ?_
      refine va_lald hx hb hKL hP 76 2 rfl rfl (by unfold vp_in; decide) dL_law_427 ?_
      refine lv_iload hx hb dL_law_428 (lv_at hl 0 rfl) ?_
      refine lv_i2l hx hb dL_law_430 rfl ?_
      refine W.lcmp hx hb dL_law_431 ?_
      refine lv_if_eq (tgt := 437) hx hb dL_law_432 (by decide) (fun c100 => ?_) (fun c100 => ?_)
      rotate_left
      · have h := o_f h c100
        refine lv_iconst (v := (0 : Int32)) hx hb dL_law_435 (by decide) ?_
        exact absurd (Option.some.inj h) (by decide)
      have h := o_t h c100
      refine lv_goto (tgt := 1335) hx hb dL_law_437 (by decide) ?_
      obtain ⟨x5_101, e102, h⟩ := o_n h
      refine lv_iinc (v := x5_101) (lv' := [(5, .int x5_101), (7, .int x7_92), (6, .int x6_87), (0, .ref bq), (1, .ref (a 0)), (2, .ref (b 0)), (3, .ref (ca 0)), (4, .ref (da 0))]) hx hb dL_law_1335 hl (k := 7) rfl (by rw [e102]; rfl) (by decide) rfl (fun ls hl => ?_)
      refine lv_goto (tgt := 28) hx hb dL_law_1338 (by decide) ?_
      refine W.widen (k := ce + 1) (n := sl + 6) (by omega) (by omega) ?_
      exact ih _ _ _ _ _ h _ _ (by omega) (by omega) _ _ hP hD hS _ (lv_sub hl [3, 4, 5, 6, 7, 0] rfl)
    have h := o_f h c_4
    by_cases c_5 : (xs y5.toNatClampNeg) &&& (31 : Int32) = 5
    · have h := o_t h c_5
      refine k_swIn (v := 5) (off := 396) (tgt := 440) hx hb c_5 dL_law_44 (by decide) (by decide) (by decide +kernel) (by decide) ?_
      refine lv_aload_n hx hb dL_law_440 rfl (lv_at hl 1 rfl) ?_
      obtain ⟨v104, g105, h⟩ := o_b h
      refine k_rwL (va_runV (As := []) (rest := []) ⟨hx, hb, hml, hown, hts⟩ (c_X5_clear l dC dI cI cF a S  v104 g105 H.size) (cwV 0 hts gL_law_X5_clear rfl rfl rfl (by decide +kernel) ⟨Nat.le_of_ble_eq_true rfl, Nat.le_of_ble_eq_true rfl⟩) (k_preLw (q0 := 0) (ci := 5) hK hP hD (LN_l (LN_l (LN_l (LN_id (fX5 a cI cF S v104.2))))) rfl rfl rfl) rfl rfl hl.1 rfl (lv_room (Nat.le_of_ble_eq_true rfl)) dL_law_441 ⟨Nat.le_trans (m := 2000) (by omega) (Nat.le_of_ble_eq_true rfl), Nat.le_trans (m := 20000) (by omega) (Nat.le_of_ble_eq_true rfl)⟩) (st1 := [.int v104.1]) rfl hP hD hS hA (wn := wX5 a cI cF v104.2 ++ wX6 b cI cF M ++ wLA ca cL O ++ wDA da cD OD) (LN_l (LN_l (LN_l (LN_id (fX5 a cI cF S v104.2))))) (fun H locs hP hD hS => ?_)
      refine lv_aload_n hx hb dL_law_444 rfl (lv_at hl 2 rfl) ?_
      obtain ⟨v106, g107, h⟩ := o_b h
      refine k_rwL (va_runV (As := []) (rest := [.int v104.1]) ⟨hx, hb, hml, hown, hts⟩ (c_X6_clear l dC dI cI cF b M  v106 g107 H.size) (cwV 0 hts gL_law_X6_clear rfl rfl rfl (by decide +kernel) ⟨Nat.le_of_ble_eq_true rfl, Nat.le_of_ble_eq_true rfl⟩) (k_preLw (q0 := 0) (ci := 6) hK hP hD (LN_l (LN_l (LN_r (LN_id (fX6 b cI cF M v106.2))))) rfl rfl rfl) rfl rfl hl.1 rfl (lv_room (Nat.le_of_ble_eq_true rfl)) dL_law_445 ⟨Nat.le_trans (m := 2000) (by omega) (Nat.le_of_ble_eq_true rfl), Nat.le_trans (m := 20000) (by omega) (Nat.le_of_ble_eq_true rfl)⟩) (st1 := [.int v106.1, .int v104.1]) rfl hP hD hS hA (wn := wX5 a cI cF v104.2 ++ wX6 b cI cF v106.2 ++ wLA ca cL O ++ wDA da cD OD) (LN_l (LN_l (LN_r (LN_id (fX6 b cI cF M v106.2))))) (fun H locs hP hD hS => ?_)
      refine lv_icmp_eq (tgt := 1335) hx hb dL_law_448 (by decide) (fun c108 => ?_) (fun c108 => ?_)
      rotate_left
      · have h := o_f h c108
        refine lv_iconst (v := (0 : Int32)) hx hb dL_law_451 (by decide) ?_
        exact absurd (Option.some.inj h) (by decide)
      have h := o_t h c108
      obtain ⟨x5_109, e110, h⟩ := o_n h
      refine lv_iinc (v := x5_109) (lv' := [(5, .int x5_109), (0, .ref bq), (1, .ref (a 0)), (2, .ref (b 0)), (3, .ref (ca 0)), (4, .ref (da 0))]) hx hb dL_law_1335 hl (k := 5) rfl (by rw [e110]; rfl) (by decide) rfl (fun ls hl => ?_)
      refine lv_goto (tgt := 28) hx hb dL_law_1338 (by decide) ?_
      refine W.widen (k := ce + 1) (n := sl + 6) (by omega) (by omega) ?_
      exact ih _ _ _ _ _ h _ _ (by omega) (by omega) _ _ hP hD hS _ (lv_sub hl [1, 2, 3, 4, 5, 0] rfl)
    have h := o_f h c_5
    by_cases c_6 : (xs y5.toNatClampNeg) &&& (31 : Int32) = 6
    · have h := o_t h c_6
      refine k_swIn (v := 6) (off := 409) (tgt := 453) hx hb c_6 dL_law_44 (by decide) (by decide) (by decide +kernel) (by decide) ?_
      refine lv_aload_n hx hb dL_law_453 rfl (lv_at hl 1 rfl) ?_
      refine lv_aload_n hx hb dL_law_454 rfl (lv_at hl 0 rfl) ?_
      refine lv_iload hx hb dL_law_455 (lv_at hl 5 rfl) ?_
      refine lv_iconst (v := (1 : Int32)) hx hb dL_law_457 (by decide) ?_
      refine lv_iadd hx hb dL_law_458 ?_
      obtain ⟨i112, h⟩ := o_in h
      refine va_sld hx hb hX hbl hbA hS i112 dL_law_459 ?_
      refine lv_aload_n hx hb dL_law_460 rfl (lv_at hl 0 rfl) ?_
      refine lv_iload hx hb dL_law_461 (lv_at hl 5 rfl) ?_
      refine lv_iconst (v := (2 : Int32)) hx hb dL_law_463 (by decide) ?_
      refine lv_iadd hx hb dL_law_464 ?_
      obtain ⟨i113, h⟩ := o_in h
      refine va_sld hx hb hX hbl hbA hS i113 dL_law_465 ?_
      refine lv_aload_n hx hb dL_law_466 rfl (lv_at hl 3 rfl) ?_
      obtain ⟨v114, g115, h⟩ := o_b h
      refine k_rwx (vx_runSX (As := [.ref (a 0), .int (xs (y5 + (1 : Int32)).toNatClampNeg), .int (xs (y5 + (2 : Int32)).toNatClampNeg), .ref (ca 0)]) (rest := []) ⟨hx, hb, hml, hown, hts⟩ (c_L_set l hfl dC dI cI cF cL cD a ca S O (xs (y5 + (1 : Int32)).toNatClampNeg) (xs (y5 + (2 : Int32)).toNatClampNeg) v114 g115 H.size) (vx_cwSW 4 hts gL_law_L_set rfl rfl rfl (by decide +kernel) ⟨Nat.le_of_ble_eq_true rfl, Nat.le_of_ble_eq_true rfl⟩) (k_preSL hE hN hS hA hKL hP hD (LN_l (LN_two (LN_l (LN_id (fX5 a cI cF S v114.2.1))) (LN_id rfl)))) rfl rfl hl.1 rfl (lv_room (Nat.le_of_ble_eq_true rfl)) dL_law_467 ⟨Nat.le_trans (m := 2000) (by omega) (Nat.le_of_ble_eq_true rfl), Nat.le_trans (m := 20000) (by omega) (Nat.le_of_ble_eq_true rfl)⟩) (st1 := [.int v114.1]) rfl hP hD hS hA (wn := wX5 a cI cF v114.2.1 ++ wX6 b cI cF M ++ wLA ca cL v114.2.2 ++ wDA da cD OD) (LN_l (LN_two (LN_l (LN_id (fX5 a cI cF S v114.2.1))) (LN_id rfl))) (fun H locs hP hD hS => ?_)
      obtain ⟨x6_116, e117, h⟩ := o_n h
      refine lv_nmi e117 ?_
      refine lv_istore (lv' := [(6, .int x6_116), (0, .ref bq), (1, .ref (a 0)), (2, .ref (b 0)), (3, .ref (ca 0)), (4, .ref (da 0)), (5, .int y5)]) hx hb dL_law_470 hl (by decide) rfl (fun ls hl => ?_)
      refine lv_aload_n hx hb dL_law_472 rfl (lv_at hl 3 rfl) ?_
      refine lv_aload_n hx hb dL_law_473 rfl (lv_at hl 1 rfl) ?_
      refine lv_iload hx hb dL_law_474 (lv_at hl 6 rfl) ?_
      refine lv_iconst (v := (1 : Int32)) hx hb dL_law_476 (by decide) ?_
      refine lv_iadd hx hb dL_law_477 ?_
      obtain ⟨i118, h⟩ := o_in h
      refine va_sld hx hb hX hbl hbA hS i118 dL_law_478 ?_
      refine lv_aload_n hx hb dL_law_479 rfl (lv_at hl 1 rfl) ?_
      refine lv_iload hx hb dL_law_480 (lv_at hl 6 rfl) ?_
      refine lv_iconst (v := (2 : Int32)) hx hb dL_law_482 (by decide) ?_
      refine lv_iadd hx hb dL_law_483 ?_
      obtain ⟨i119, h⟩ := o_in h
      refine va_sld hx hb hX hbl hbA hS i119 dL_law_484 ?_
      obtain ⟨v120, g121, h⟩ := o_b h
      refine k_rwL (va_runV (As := [.int (xs (y5 + (1 : Int32)).toNatClampNeg), .int (xs (y5 + (2 : Int32)).toNatClampNeg)]) (rest := []) ⟨hx, hb, hml, hown, hts⟩ (c_X6_set l dC dI cI cF b M (xs (y5 + (1 : Int32)).toNatClampNeg) (xs (y5 + (2 : Int32)).toNatClampNeg) v120 g121 H.size) (cwV 2 hts gL_law_X6_set rfl rfl rfl (by decide +kernel) ⟨Nat.le_of_ble_eq_true rfl, Nat.le_of_ble_eq_true rfl⟩) (k_preLw (q0 := 0) (ci := 6) hK hP hD (LN_l (LN_l (LN_r (LN_id (fX6 b cI cF M v120.2))))) rfl rfl rfl) rfl rfl hl.1 rfl (lv_room (Nat.le_of_ble_eq_true rfl)) dL_law_485 ⟨Nat.le_trans (m := 2000) (by omega) (Nat.le_of_ble_eq_true rfl), Nat.le_trans (m := 20000) (by omega) (Nat.le_of_ble_eq_true rfl)⟩) (st1 := [.int v120.1]) rfl hP hD hS hA (wn := wX5 a cI cF v114.2.1 ++ wX6 b cI cF v120.2 ++ wLA ca cL v114.2.2 ++ wDA da cD OD) (LN_l (LN_l (LN_r (LN_id (fX6 b cI cF M v120.2))))) (fun H locs hP hD hS => ?_)
      obtain ⟨x7_122, e123, h⟩ := o_n h
      refine lv_nmi e123 ?_
      refine lv_istore (lv' := [(7, .int x7_122), (6, .int x6_116), (0, .ref bq), (1, .ref (a 0)), (2, .ref (b 0)), (3, .ref (ca 0)), (4, .ref (da 0)), (5, .int y5)]) hx hb dL_law_488 hl (by decide) rfl (fun ls hl => ?_)
      refine lv_aload_n hx hb dL_law_490 rfl (lv_at hl 4 rfl) ?_
      obtain ⟨v124, g125, h⟩ := o_b h
      refine k_ro (va_runV (As := []) (rest := []) ⟨hx, hb, hml, hown, hts⟩ (c_X6_thrown l dC dI cI cF b v120.2  v124 g125) (cwV 0 hts gL_law_X6_thrown rfl rfl rfl (by decide +kernel) ⟨Nat.le_of_ble_eq_true rfl, Nat.le_of_ble_eq_true rfl⟩) (k_preL (q0 := 0) (ci := 6) hK hP (LN_l (LN_l (LN_r (LN_id (fX6 b cI cF v120.2 v120.2))))) rfl rfl rfl) rfl rfl hl.1 rfl (lv_room (Nat.le_of_ble_eq_true rfl)) dL_law_491 ⟨Nat.le_trans (m := 2000) (by omega) (Nat.le_of_ble_eq_true rfl), Nat.le_trans (m := 20000) (by omega) (Nat.le_of_ble_eq_true rfl)⟩) (st1 := [.int v124]) rfl ?_
      refine lv_iload hx hb dL_law_494 (lv_at hl 1 rfl) ?_
      refine lv_icmp_eq (tgt := 501) hx hb dL_law_496 (by decide) (fun c126 => ?_) (fun c126 => ?_)
      rotate_left
      · have h := o_f h c126
        refine lv_iconst (v := (0 : Int32)) hx hb dL_law_499 (by decide) ?_
        exact absurd (Option.some.inj h) (by decide)
      have h := o_t h c126
      refine lv_iload hx hb dL_law_501 (lv_at hl 1 rfl) ?_
      refine lv_if_ne (tgt := 518) hx hb dL_law_503 (by decide) (fun c127 => ?_) (fun c127 => ?_)
      · have h := o_f h c127
        refine lv_goto (tgt := 1335) hx hb dL_law_518 (by decide) ?_
        obtain ⟨x5_128, e129, h⟩ := o_n h
        refine lv_iinc (v := x5_128) (lv' := [(5, .int x5_128), (7, .int x7_122), (6, .int x6_116), (0, .ref bq), (1, .ref (a 0)), (2, .ref (b 0)), (3, .ref (ca 0)), (4, .ref (da 0))]) hx hb dL_law_1335 hl (k := 7) rfl (by rw [e129]; rfl) (by decide) rfl (fun ls hl => ?_)
        refine lv_goto (tgt := 28) hx hb dL_law_1338 (by decide) ?_
        refine W.widen (k := ce + 1) (n := sl + 6) (by omega) (by omega) ?_
        exact ih _ _ _ _ _ h _ _ (by omega) (by omega) _ _ hP hD hS _ (lv_sub hl [3, 4, 5, 6, 7, 0] rfl)
      have h := o_t h c127
      refine lv_aload_n hx hb dL_law_506 rfl (lv_at hl 5 rfl) ?_
      refine lv_iconst (v := (0 : Int32)) hx hb dL_law_507 (by decide) ?_
      refine va_lald hx hb hKL hP 76 2 rfl rfl (by unfold vp_in; decide) dL_law_508 ?_
      refine lv_iload hx hb dL_law_509 (lv_at hl 0 rfl) ?_
      refine lv_i2l hx hb dL_law_511 rfl ?_
      refine W.lcmp hx hb dL_law_512 ?_
      refine lv_if_eq (tgt := 518) hx hb dL_law_513 (by decide) (fun c130 => ?_) (fun c130 => ?_)
      rotate_left
      · have h := o_f h c130
        refine lv_iconst (v := (0 : Int32)) hx hb dL_law_516 (by decide) ?_
        exact absurd (Option.some.inj h) (by decide)
      have h := o_t h c130
      refine lv_goto (tgt := 1335) hx hb dL_law_518 (by decide) ?_
      obtain ⟨x5_131, e132, h⟩ := o_n h
      refine lv_iinc (v := x5_131) (lv' := [(5, .int x5_131), (7, .int x7_122), (6, .int x6_116), (0, .ref bq), (1, .ref (a 0)), (2, .ref (b 0)), (3, .ref (ca 0)), (4, .ref (da 0))]) hx hb dL_law_1335 hl (k := 7) rfl (by rw [e132]; rfl) (by decide) rfl (fun ls hl => ?_)
      refine lv_goto (tgt := 28) hx hb dL_law_1338 (by decide) ?_
      refine W.widen (k := ce + 1) (n := sl + 6) (by omega) (by omega) ?_
      exact ih _ _ _ _ _ h _ _ (by omega) (by omega) _ _ hP hD hS _ (lv_sub hl [3, 4, 5, 6, 7, 0] rfl)
    have h := o_f h c_6
    by_cases c_7 : (xs y5.toNatClampNeg) &&& (31 : Int32) = 7
    · have h := o_t h c_7
      refine k_swIn (v := 7) (off := 477) (tgt := 521) hx hb c_7 dL_law_44 (by decide) (by decide) (by decide +kernel) (by decide) ?_
      refine lv_aload_n hx hb dL_law_521 rfl (lv_at hl 1 rfl) ?_
      refine lv_aload_n hx hb dL_law_522 rfl (lv_at hl 0 rfl) ?_
      refine lv_iload hx hb dL_law_523 (lv_at hl 5 rfl) ?_
      refine lv_iconst (v := (1 : Int32)) hx hb dL_law_525 (by decide) ?_
      refine lv_iadd hx hb dL_law_526 ?_
      obtain ⟨i134, h⟩ := o_in h
      refine va_sld hx hb hX hbl hbA hS i134 dL_law_527 ?_
      refine lv_aload_n hx hb dL_law_528 rfl (lv_at hl 3 rfl) ?_
      obtain ⟨v135, g136, h⟩ := o_b h
      refine k_rwx (vx_runSX (As := [.ref (a 0), .int (xs (y5 + (1 : Int32)).toNatClampNeg), .ref (ca 0)]) (rest := []) ⟨hx, hb, hml, hown, hts⟩ (c_L_append l hfl dC dI cI cF cL cD a ca S O (xs (y5 + (1 : Int32)).toNatClampNeg) v135 g136 H.size) (vx_cwSW 3 hts gL_law_L_append rfl rfl rfl (by decide +kernel) ⟨Nat.le_of_ble_eq_true rfl, Nat.le_of_ble_eq_true rfl⟩) (k_preSL hE hN hS hA hKL hP hD (LN_l (LN_two (LN_l (LN_id (fX5 a cI cF S v135.2.1))) (LN_id rfl)))) rfl rfl hl.1 rfl (lv_room (Nat.le_of_ble_eq_true rfl)) dL_law_529 ⟨Nat.le_trans (m := 2000) (by omega) (Nat.le_of_ble_eq_true rfl), Nat.le_trans (m := 20000) (by omega) (Nat.le_of_ble_eq_true rfl)⟩) (st1 := [.int v135.1]) rfl hP hD hS hA (wn := wX5 a cI cF v135.2.1 ++ wX6 b cI cF M ++ wLA ca cL v135.2.2 ++ wDA da cD OD) (LN_l (LN_two (LN_l (LN_id (fX5 a cI cF S v135.2.1))) (LN_id rfl))) (fun H locs hP hD hS => ?_)
      obtain ⟨x6_137, e138, h⟩ := o_n h
      refine lv_nmi e138 ?_
      refine lv_istore (lv' := [(6, .int x6_137), (0, .ref bq), (1, .ref (a 0)), (2, .ref (b 0)), (3, .ref (ca 0)), (4, .ref (da 0)), (5, .int y5)]) hx hb dL_law_532 hl (by decide) rfl (fun ls hl => ?_)
      refine lv_aload_n hx hb dL_law_534 rfl (lv_at hl 3 rfl) ?_
      refine lv_aload_n hx hb dL_law_535 rfl (lv_at hl 1 rfl) ?_
      refine lv_iload hx hb dL_law_536 (lv_at hl 6 rfl) ?_
      refine lv_iconst (v := (1 : Int32)) hx hb dL_law_538 (by decide) ?_
      refine lv_iadd hx hb dL_law_539 ?_
      obtain ⟨i139, h⟩ := o_in h
      refine va_sld hx hb hX hbl hbA hS i139 dL_law_540 ?_
      obtain ⟨v140, g141, h⟩ := o_b h
      refine k_rwL (va_runV (As := [.int (xs (y5 + (1 : Int32)).toNatClampNeg)]) (rest := []) ⟨hx, hb, hml, hown, hts⟩ (c_X6_append l dC dI cI cF b M (xs (y5 + (1 : Int32)).toNatClampNeg) v140 g141 H.size) (cwV 1 hts gL_law_X6_append rfl rfl rfl (by decide +kernel) ⟨Nat.le_of_ble_eq_true rfl, Nat.le_of_ble_eq_true rfl⟩) (k_preLw (q0 := 0) (ci := 6) hK hP hD (LN_l (LN_l (LN_r (LN_id (fX6 b cI cF M v140.2))))) rfl rfl rfl) rfl rfl hl.1 rfl (lv_room (Nat.le_of_ble_eq_true rfl)) dL_law_541 ⟨Nat.le_trans (m := 2000) (by omega) (Nat.le_of_ble_eq_true rfl), Nat.le_trans (m := 20000) (by omega) (Nat.le_of_ble_eq_true rfl)⟩) (st1 := [.int v140.1]) rfl hP hD hS hA (wn := wX5 a cI cF v135.2.1 ++ wX6 b cI cF v140.2 ++ wLA ca cL v135.2.2 ++ wDA da cD OD) (LN_l (LN_l (LN_r (LN_id (fX6 b cI cF M v140.2))))) (fun H locs hP hD hS => ?_)
      obtain ⟨x7_142, e143, h⟩ := o_n h
      refine lv_nmi e143 ?_
      refine lv_istore (lv' := [(7, .int x7_142), (6, .int x6_137), (0, .ref bq), (1, .ref (a 0)), (2, .ref (b 0)), (3, .ref (ca 0)), (4, .ref (da 0)), (5, .int y5)]) hx hb dL_law_544 hl (by decide) rfl (fun ls hl => ?_)
      refine lv_aload_n hx hb dL_law_546 rfl (lv_at hl 4 rfl) ?_
      obtain ⟨v144, g145, h⟩ := o_b h
      refine k_ro (va_runV (As := []) (rest := []) ⟨hx, hb, hml, hown, hts⟩ (c_X6_thrown l dC dI cI cF b v140.2  v144 g145) (cwV 0 hts gL_law_X6_thrown rfl rfl rfl (by decide +kernel) ⟨Nat.le_of_ble_eq_true rfl, Nat.le_of_ble_eq_true rfl⟩) (k_preL (q0 := 0) (ci := 6) hK hP (LN_l (LN_l (LN_r (LN_id (fX6 b cI cF v140.2 v140.2))))) rfl rfl rfl) rfl rfl hl.1 rfl (lv_room (Nat.le_of_ble_eq_true rfl)) dL_law_547 ⟨Nat.le_trans (m := 2000) (by omega) (Nat.le_of_ble_eq_true rfl), Nat.le_trans (m := 20000) (by omega) (Nat.le_of_ble_eq_true rfl)⟩) (st1 := [.int v144]) rfl ?_
      refine lv_iload hx hb dL_law_550 (lv_at hl 1 rfl) ?_
      refine lv_icmp_eq (tgt := 557) hx hb dL_law_552 (by decide) (fun c146 => ?_) (fun c146 => ?_)
      rotate_left
      · have h := o_f h c146
        refine lv_iconst (v := (0 : Int32)) hx hb dL_law_555 (by decide) ?_
        exact absurd (Option.some.inj h) (by decide)
      have h := o_t h c146
      refine lv_iload hx hb dL_law_557 (lv_at hl 1 rfl) ?_
      refine lv_if_ne (tgt := 574) hx hb dL_law_559 (by decide) (fun c147 => ?_) (fun c147 => ?_)
      · have h := o_f h c147
        refine lv_goto (tgt := 1335) hx hb dL_law_574 (by decide) ?_
        obtain ⟨x5_148, e149, h⟩ := o_n h
        refine lv_iinc (v := x5_148) (lv' := [(5, .int x5_148), (7, .int x7_142), (6, .int x6_137), (0, .ref bq), (1, .ref (a 0)), (2, .ref (b 0)), (3, .ref (ca 0)), (4, .ref (da 0))]) hx hb dL_law_1335 hl (k := 7) rfl (by rw [e149]; rfl) (by decide) rfl (fun ls hl => ?_)
        refine lv_goto (tgt := 28) hx hb dL_law_1338 (by decide) ?_
        refine W.widen (k := ce + 1) (n := sl + 6) (by omega) (by omega) ?_
        exact ih _ _ _ _ _ h _ _ (by omega) (by omega) _ _ hP hD hS _ (lv_sub hl [3, 4, 5, 6, 7, 0] rfl)
      have h := o_t h c147
      refine lv_aload_n hx hb dL_law_562 rfl (lv_at hl 5 rfl) ?_
      refine lv_iconst (v := (0 : Int32)) hx hb dL_law_563 (by decide) ?_
      refine va_lald hx hb hKL hP 76 2 rfl rfl (by unfold vp_in; decide) dL_law_564 ?_
      refine lv_iload hx hb dL_law_565 (lv_at hl 0 rfl) ?_
      refine lv_i2l hx hb dL_law_567 rfl ?_
      refine W.lcmp hx hb dL_law_568 ?_
      refine lv_if_eq (tgt := 574) hx hb dL_law_569 (by decide) (fun c150 => ?_) (fun c150 => ?_)
      rotate_left
      · have h := o_f h c150
        refine lv_iconst (v := (0 : Int32)) hx hb dL_law_572 (by decide) ?_
        exact absurd (Option.some.inj h) (by decide)
      have h := o_t h c150
      refine lv_goto (tgt := 1335) hx hb dL_law_574 (by decide) ?_
      obtain ⟨x5_151, e152, h⟩ := o_n h
      refine lv_iinc (v := x5_151) (lv' := [(5, .int x5_151), (7, .int x7_142), (6, .int x6_137), (0, .ref bq), (1, .ref (a 0)), (2, .ref (b 0)), (3, .ref (ca 0)), (4, .ref (da 0))]) hx hb dL_law_1335 hl (k := 7) rfl (by rw [e152]; rfl) (by decide) rfl (fun ls hl => ?_)
      refine lv_goto (tgt := 28) hx hb dL_law_1338 (by decide) ?_
      refine W.widen (k := ce + 1) (n := sl + 6) (by omega) (by omega) ?_
      exact ih _ _ _ _ _ h _ _ (by omega) (by omega) _ _ hP hD hS _ (lv_sub hl [3, 4, 5, 6, 7, 0] rfl)
    have h := o_f h c_7
    by_cases c_8 : (xs y5.toNatClampNeg) &&& (31 : Int32) = 8
    · have h := o_t h c_8
      refine k_swIn (v := 8) (off := 533) (tgt := 577) hx hb c_8 dL_law_44 (by decide) (by decide) (by decide +kernel) (by decide) ?_
      refine lv_aload_n hx hb dL_law_577 rfl (lv_at hl 1 rfl) ?_
      obtain ⟨v154, g155, h⟩ := o_b h
      refine k_rwL (va_runV (As := []) (rest := []) ⟨hx, hb, hml, hown, hts⟩ (c_X5_clearBuffer l dC dI cI cF a S  v154 g155 H.size) (cwV 0 hts gL_law_X5_clearBuffer rfl rfl rfl (by decide +kernel) ⟨Nat.le_of_ble_eq_true rfl, Nat.le_of_ble_eq_true rfl⟩) (k_preLw (q0 := 0) (ci := 5) hK hP hD (LN_l (LN_l (LN_l (LN_id (fX5 a cI cF S v154.2))))) rfl rfl rfl) rfl rfl hl.1 rfl (lv_room (Nat.le_of_ble_eq_true rfl)) dL_law_578 ⟨Nat.le_trans (m := 2000) (by omega) (Nat.le_of_ble_eq_true rfl), Nat.le_trans (m := 20000) (by omega) (Nat.le_of_ble_eq_true rfl)⟩) (st1 := [.int v154.1]) rfl hP hD hS hA (wn := wX5 a cI cF v154.2 ++ wX6 b cI cF M ++ wLA ca cL O ++ wDA da cD OD) (LN_l (LN_l (LN_l (LN_id (fX5 a cI cF S v154.2))))) (fun H locs hP hD hS => ?_)
      refine lv_aload_n hx hb dL_law_581 rfl (lv_at hl 2 rfl) ?_
      obtain ⟨v156, g157, h⟩ := o_b h
      refine k_rwL (va_runV (As := []) (rest := [.int v154.1]) ⟨hx, hb, hml, hown, hts⟩ (c_X6_clearBuffer l dC dI cI cF b M  v156 g157 H.size) (cwV 0 hts gL_law_X6_clearBuffer rfl rfl rfl (by decide +kernel) ⟨Nat.le_of_ble_eq_true rfl, Nat.le_of_ble_eq_true rfl⟩) (k_preLw (q0 := 0) (ci := 6) hK hP hD (LN_l (LN_l (LN_r (LN_id (fX6 b cI cF M v156.2))))) rfl rfl rfl) rfl rfl hl.1 rfl (lv_room (Nat.le_of_ble_eq_true rfl)) dL_law_582 ⟨Nat.le_trans (m := 2000) (by omega) (Nat.le_of_ble_eq_true rfl), Nat.le_trans (m := 20000) (by omega) (Nat.le_of_ble_eq_true rfl)⟩) (st1 := [.int v156.1, .int v154.1]) rfl hP hD hS hA (wn := wX5 a cI cF v154.2 ++ wX6 b cI cF v156.2 ++ wLA ca cL O ++ wDA da cD OD) (LN_l (LN_l (LN_r (LN_id (fX6 b cI cF M v156.2))))) (fun H locs hP hD hS => ?_)
      refine lv_icmp_eq (tgt := 1335) hx hb dL_law_585 (by decide) (fun c158 => ?_) (fun c158 => ?_)
      rotate_left
      · have h := o_f h c158
        refine lv_iconst (v := (0 : Int32)) hx hb dL_law_588 (by decide) ?_
        exact absurd (Option.some.inj h) (by decide)
      have h := o_t h c158
      obtain ⟨x5_159, e160, h⟩ := o_n h
      refine lv_iinc (v := x5_159) (lv' := [(5, .int x5_159), (0, .ref bq), (1, .ref (a 0)), (2, .ref (b 0)), (3, .ref (ca 0)), (4, .ref (da 0))]) hx hb dL_law_1335 hl (k := 5) rfl (by rw [e160]; rfl) (by decide) rfl (fun ls hl => ?_)
      refine lv_goto (tgt := 28) hx hb dL_law_1338 (by decide) ?_
      refine W.widen (k := ce + 1) (n := sl + 6) (by omega) (by omega) ?_
      exact ih _ _ _ _ _ h _ _ (by omega) (by omega) _ _ hP hD hS _ (lv_sub hl [1, 2, 3, 4, 5, 0] rfl)
    have h := o_f h c_8
    by_cases c_9 : (xs y5.toNatClampNeg) &&& (31 : Int32) = 9
    · have h := o_t h c_9
      refine k_swIn (v := 9) (off := 546) (tgt := 590) hx hb c_9 dL_law_44 (by decide) (by decide) (by decide +kernel) (by decide) ?_
      refine lv_aload_n hx hb dL_law_590 rfl (lv_at hl 1 rfl) ?_
      obtain ⟨v162, g163, h⟩ := o_b h
      refine k_rwL (va_runV (As := []) (rest := []) ⟨hx, hb, hml, hown, hts⟩ (c_X5_firstError l dC dI cI cF a S  v162 g163 H.size) (cwV 0 hts gL_law_X5_firstError rfl rfl rfl (by decide +kernel) ⟨Nat.le_of_ble_eq_true rfl, Nat.le_of_ble_eq_true rfl⟩) (k_preLw (q0 := 0) (ci := 5) hK hP hD (LN_l (LN_l (LN_l (LN_id (fX5 a cI cF S v162.2))))) rfl rfl rfl) rfl rfl hl.1 rfl (lv_room (Nat.le_of_ble_eq_true rfl)) dL_law_591 ⟨Nat.le_trans (m := 2000) (by omega) (Nat.le_of_ble_eq_true rfl), Nat.le_trans (m := 20000) (by omega) (Nat.le_of_ble_eq_true rfl)⟩) (st1 := [.int v162.1]) rfl hP hD hS hA (wn := wX5 a cI cF v162.2 ++ wX6 b cI cF M ++ wLA ca cL O ++ wDA da cD OD) (LN_l (LN_l (LN_l (LN_id (fX5 a cI cF S v162.2))))) (fun H locs hP hD hS => ?_)
      refine lv_aload_n hx hb dL_law_594 rfl (lv_at hl 2 rfl) ?_
      obtain ⟨v164, g165, h⟩ := o_b h
      refine k_rwL (va_runV (As := []) (rest := [.int v162.1]) ⟨hx, hb, hml, hown, hts⟩ (c_X6_firstError l dC dI cI cF b M  v164 g165 H.size) (cwV 0 hts gL_law_X6_firstError rfl rfl rfl (by decide +kernel) ⟨Nat.le_of_ble_eq_true rfl, Nat.le_of_ble_eq_true rfl⟩) (k_preLw (q0 := 0) (ci := 6) hK hP hD (LN_l (LN_l (LN_r (LN_id (fX6 b cI cF M v164.2))))) rfl rfl rfl) rfl rfl hl.1 rfl (lv_room (Nat.le_of_ble_eq_true rfl)) dL_law_595 ⟨Nat.le_trans (m := 2000) (by omega) (Nat.le_of_ble_eq_true rfl), Nat.le_trans (m := 20000) (by omega) (Nat.le_of_ble_eq_true rfl)⟩) (st1 := [.int v164.1, .int v162.1]) rfl hP hD hS hA (wn := wX5 a cI cF v162.2 ++ wX6 b cI cF v164.2 ++ wLA ca cL O ++ wDA da cD OD) (LN_l (LN_l (LN_r (LN_id (fX6 b cI cF M v164.2))))) (fun H locs hP hD hS => ?_)
      refine lv_icmp_eq (tgt := 1335) hx hb dL_law_598 (by decide) (fun c166 => ?_) (fun c166 => ?_)
      rotate_left
      · have h := o_f h c166
        refine lv_iconst (v := (0 : Int32)) hx hb dL_law_601 (by decide) ?_
        exact absurd (Option.some.inj h) (by decide)
      have h := o_t h c166
      obtain ⟨x5_167, e168, h⟩ := o_n h
      refine lv_iinc (v := x5_167) (lv' := [(5, .int x5_167), (0, .ref bq), (1, .ref (a 0)), (2, .ref (b 0)), (3, .ref (ca 0)), (4, .ref (da 0))]) hx hb dL_law_1335 hl (k := 5) rfl (by rw [e168]; rfl) (by decide) rfl (fun ls hl => ?_)
      refine lv_goto (tgt := 28) hx hb dL_law_1338 (by decide) ?_
      refine W.widen (k := ce + 1) (n := sl + 6) (by omega) (by omega) ?_
      exact ih _ _ _ _ _ h _ _ (by omega) (by omega) _ _ hP hD hS _ (lv_sub hl [1, 2, 3, 4, 5, 0] rfl)
    have h := o_f h c_9
    by_cases c_10 : (xs y5.toNatClampNeg) &&& (31 : Int32) = 10
    · have h := o_t h c_10
      refine k_swIn (v := 10) (off := 559) (tgt := 603) hx hb c_10 dL_law_44 (by decide) (by decide) (by decide +kernel) (by decide) ?_
      refine lv_aload_n hx hb dL_law_603 rfl (lv_at hl 1 rfl) ?_
      obtain ⟨v170, g171, h⟩ := o_b h
      refine k_rwL (va_runV (As := []) (rest := []) ⟨hx, hb, hml, hown, hts⟩ (c_X5_keep l dC dI cI cF a S  v170 g171 H.size) (cwV 0 hts gL_law_X5_keep rfl rfl rfl (by decide +kernel) ⟨Nat.le_of_ble_eq_true rfl, Nat.le_of_ble_eq_true rfl⟩) (k_preLw (q0 := 0) (ci := 5) hK hP hD (LN_l (LN_l (LN_l (LN_id (fX5 a cI cF S v170.2))))) rfl rfl rfl) rfl rfl hl.1 rfl (lv_room (Nat.le_of_ble_eq_true rfl)) dL_law_604 ⟨Nat.le_trans (m := 2000) (by omega) (Nat.le_of_ble_eq_true rfl), Nat.le_trans (m := 20000) (by omega) (Nat.le_of_ble_eq_true rfl)⟩) (st1 := [.int v170.1]) rfl hP hD hS hA (wn := wX5 a cI cF v170.2 ++ wX6 b cI cF M ++ wLA ca cL O ++ wDA da cD OD) (LN_l (LN_l (LN_l (LN_id (fX5 a cI cF S v170.2))))) (fun H locs hP hD hS => ?_)
      refine lv_aload_n hx hb dL_law_607 rfl (lv_at hl 2 rfl) ?_
      obtain ⟨v172, g173, h⟩ := o_b h
      refine k_rwL (va_runV (As := []) (rest := [.int v170.1]) ⟨hx, hb, hml, hown, hts⟩ (c_X6_keep l dC dI cI cF b M  v172 g173 H.size) (cwV 0 hts gL_law_X6_keep rfl rfl rfl (by decide +kernel) ⟨Nat.le_of_ble_eq_true rfl, Nat.le_of_ble_eq_true rfl⟩) (k_preLw (q0 := 0) (ci := 6) hK hP hD (LN_l (LN_l (LN_r (LN_id (fX6 b cI cF M v172.2))))) rfl rfl rfl) rfl rfl hl.1 rfl (lv_room (Nat.le_of_ble_eq_true rfl)) dL_law_608 ⟨Nat.le_trans (m := 2000) (by omega) (Nat.le_of_ble_eq_true rfl), Nat.le_trans (m := 20000) (by omega) (Nat.le_of_ble_eq_true rfl)⟩) (st1 := [.int v172.1, .int v170.1]) rfl hP hD hS hA (wn := wX5 a cI cF v170.2 ++ wX6 b cI cF v172.2 ++ wLA ca cL O ++ wDA da cD OD) (LN_l (LN_l (LN_r (LN_id (fX6 b cI cF M v172.2))))) (fun H locs hP hD hS => ?_)
      refine lv_icmp_eq (tgt := 1335) hx hb dL_law_611 (by decide) (fun c174 => ?_) (fun c174 => ?_)
      rotate_left
      · have h := o_f h c174
        refine lv_iconst (v := (0 : Int32)) hx hb dL_law_614 (by decide) ?_
        exact absurd (Option.some.inj h) (by decide)
      have h := o_t h c174
      obtain ⟨x5_175, e176, h⟩ := o_n h
      refine lv_iinc (v := x5_175) (lv' := [(5, .int x5_175), (0, .ref bq), (1, .ref (a 0)), (2, .ref (b 0)), (3, .ref (ca 0)), (4, .ref (da 0))]) hx hb dL_law_1335 hl (k := 5) rfl (by rw [e176]; rfl) (by decide) rfl (fun ls hl => ?_)
      refine lv_goto (tgt := 28) hx hb dL_law_1338 (by decide) ?_
      refine W.widen (k := ce + 1) (n := sl + 6) (by omega) (by omega) ?_
      exact ih _ _ _ _ _ h _ _ (by omega) (by omega) _ _ hP hD hS _ (lv_sub hl [1, 2, 3, 4, 5, 0] rfl)
    have h := o_f h c_10
    by_cases c_11 : (xs y5.toNatClampNeg) &&& (31 : Int32) = 11
    · have h := o_t h c_11
      refine k_swIn (v := 11) (off := 572) (tgt := 616) hx hb c_11 dL_law_44 (by decide) (by decide) (by decide +kernel) (by decide) ?_
      refine lv_aload_n hx hb dL_law_616 rfl (lv_at hl 1 rfl) ?_
      refine lv_aload_n hx hb dL_law_617 rfl (lv_at hl 3 rfl) ?_
      obtain ⟨v178, g179, h⟩ := o_b h
      refine k_rwx (vx_runSX (As := [.ref (a 0), .ref (ca 0)]) (rest := []) ⟨hx, hb, hml, hown, hts⟩ (c_L_goBack l hfl dC dI cI cF cL cD a ca S O  v178 g179 H.size) (vx_cwSW 2 hts gL_law_L_goBack rfl rfl rfl (by decide +kernel) ⟨Nat.le_of_ble_eq_true rfl, Nat.le_of_ble_eq_true rfl⟩) (k_preSL hE hN hS hA hKL hP hD (LN_l (LN_two (LN_l (LN_id (fX5 a cI cF S v178.2.1))) (LN_id rfl)))) rfl rfl hl.1 rfl (lv_room (Nat.le_of_ble_eq_true rfl)) dL_law_618 ⟨Nat.le_trans (m := 2000) (by omega) (Nat.le_of_ble_eq_true rfl), Nat.le_trans (m := 20000) (by omega) (Nat.le_of_ble_eq_true rfl)⟩) (st1 := [.int v178.1]) rfl hP hD hS hA (wn := wX5 a cI cF v178.2.1 ++ wX6 b cI cF M ++ wLA ca cL v178.2.2 ++ wDA da cD OD) (LN_l (LN_two (LN_l (LN_id (fX5 a cI cF S v178.2.1))) (LN_id rfl))) (fun H locs hP hD hS => ?_)
      obtain ⟨x6_180, e181, h⟩ := o_n h
      refine lv_nmi e181 ?_
      refine lv_istore (lv' := [(6, .int x6_180), (0, .ref bq), (1, .ref (a 0)), (2, .ref (b 0)), (3, .ref (ca 0)), (4, .ref (da 0)), (5, .int y5)]) hx hb dL_law_621 hl (by decide) rfl (fun ls hl => ?_)
      refine lv_aload_n hx hb dL_law_623 rfl (lv_at hl 3 rfl) ?_
      obtain ⟨v182, g183, h⟩ := o_b h
      refine k_rwL (va_runV (As := []) (rest := []) ⟨hx, hb, hml, hown, hts⟩ (c_X6_goBack l dC dI cI cF b M  v182 g183 H.size) (cwV 0 hts gL_law_X6_goBack rfl rfl rfl (by decide +kernel) ⟨Nat.le_of_ble_eq_true rfl, Nat.le_of_ble_eq_true rfl⟩) (k_preLw (q0 := 0) (ci := 6) hK hP hD (LN_l (LN_l (LN_r (LN_id (fX6 b cI cF M v182.2))))) rfl rfl rfl) rfl rfl hl.1 rfl (lv_room (Nat.le_of_ble_eq_true rfl)) dL_law_624 ⟨Nat.le_trans (m := 2000) (by omega) (Nat.le_of_ble_eq_true rfl), Nat.le_trans (m := 20000) (by omega) (Nat.le_of_ble_eq_true rfl)⟩) (st1 := [.int v182.1]) rfl hP hD hS hA (wn := wX5 a cI cF v178.2.1 ++ wX6 b cI cF v182.2 ++ wLA ca cL v178.2.2 ++ wDA da cD OD) (LN_l (LN_l (LN_r (LN_id (fX6 b cI cF M v182.2))))) (fun H locs hP hD hS => ?_)
      obtain ⟨x7_184, e185, h⟩ := o_n h
      refine lv_nmi e185 ?_
      refine lv_istore (lv' := [(7, .int x7_184), (6, .int x6_180), (0, .ref bq), (1, .ref (a 0)), (2, .ref (b 0)), (3, .ref (ca 0)), (4, .ref (da 0)), (5, .int y5)]) hx hb dL_law_627 hl (by decide) rfl (fun ls hl => ?_)
      refine lv_aload_n hx hb dL_law_629 rfl (lv_at hl 4 rfl) ?_
      obtain ⟨v186, g187, h⟩ := o_b h
      refine k_ro (va_runV (As := []) (rest := []) ⟨hx, hb, hml, hown, hts⟩ (c_X6_thrown l dC dI cI cF b v182.2  v186 g187) (cwV 0 hts gL_law_X6_thrown rfl rfl rfl (by decide +kernel) ⟨Nat.le_of_ble_eq_true rfl, Nat.le_of_ble_eq_true rfl⟩) (k_preL (q0 := 0) (ci := 6) hK hP (LN_l (LN_l (LN_r (LN_id (fX6 b cI cF v182.2 v182.2))))) rfl rfl rfl) rfl rfl hl.1 rfl (lv_room (Nat.le_of_ble_eq_true rfl)) dL_law_630 ⟨Nat.le_trans (m := 2000) (by omega) (Nat.le_of_ble_eq_true rfl), Nat.le_trans (m := 20000) (by omega) (Nat.le_of_ble_eq_true rfl)⟩) (st1 := [.int v186]) rfl ?_
      refine lv_iload hx hb dL_law_633 (lv_at hl 1 rfl) ?_
      refine lv_icmp_eq (tgt := 640) hx hb dL_law_635 (by decide) (fun c188 => ?_) (fun c188 => ?_)
      rotate_left
      · have h := o_f h c188
        refine lv_iconst (v := (0 : Int32)) hx hb dL_law_638 (by decide) ?_
        exact absurd (Option.some.inj h) (by decide)
      have h := o_t h c188
      refine lv_iload hx hb dL_law_640 (lv_at hl 1 rfl) ?_
      refine lv_if_ne (tgt := 657) hx hb dL_law_642 (by decide) (fun c189 => ?_) (fun c189 => ?_)
      · have h := o_f h c189
        refine lv_goto (tgt := 1335) hx hb dL_law_657 (by decide) ?_
        obtain ⟨x5_190, e191, h⟩ := o_n h
        refine lv_iinc (v := x5_190) (lv' := [(5, .int x5_190), (7, .int x7_184), (6, .int x6_180), (0, .ref bq), (1, .ref (a 0)), (2, .ref (b 0)), (3, .ref (ca 0)), (4, .ref (da 0))]) hx hb dL_law_1335 hl (k := 7) rfl (by rw [e191]; rfl) (by decide) rfl (fun ls hl => ?_)
        refine lv_goto (tgt := 28) hx hb dL_law_1338 (by decide) ?_
        refine W.widen (k := ce + 1) (n := sl + 6) (by omega) (by omega) ?_
        exact ih _ _ _ _ _ h _ _ (by omega) (by omega) _ _ hP hD hS _ (lv_sub hl [3, 4, 5, 6, 7, 0] rfl)
      have h := o_t h c189
      refine lv_aload_n hx hb dL_law_645 rfl (lv_at hl 5 rfl) ?_
      refine lv_iconst (v := (0 : Int32)) hx hb dL_law_646 (by decide) ?_
      refine va_lald hx hb hKL hP 76 2 rfl rfl (by unfold vp_in; decide) dL_law_647 ?_
      refine lv_iload hx hb dL_law_648 (lv_at hl 0 rfl) ?_
      refine lv_i2l hx hb dL_law_650 rfl ?_
      refine W.lcmp hx hb dL_law_651 ?_
      refine lv_if_eq (tgt := 657) hx hb dL_law_652 (by decide) (fun c192 => ?_) (fun c192 => ?_)
      rotate_left
      · have h := o_f h c192
        refine lv_iconst (v := (0 : Int32)) hx hb dL_law_655 (by decide) ?_
        exact absurd (Option.some.inj h) (by decide)
      have h := o_t h c192
      refine lv_goto (tgt := 1335) hx hb dL_law_657 (by decide) ?_
      obtain ⟨x5_193, e194, h⟩ := o_n h
      refine lv_iinc (v := x5_193) (lv' := [(5, .int x5_193), (7, .int x7_184), (6, .int x6_180), (0, .ref bq), (1, .ref (a 0)), (2, .ref (b 0)), (3, .ref (ca 0)), (4, .ref (da 0))]) hx hb dL_law_1335 hl (k := 7) rfl (by rw [e194]; rfl) (by decide) rfl (fun ls hl => ?_)
      refine lv_goto (tgt := 28) hx hb dL_law_1338 (by decide) ?_
      refine W.widen (k := ce + 1) (n := sl + 6) (by omega) (by omega) ?_
      exact ih _ _ _ _ _ h _ _ (by omega) (by omega) _ _ hP hD hS _ (lv_sub hl [3, 4, 5, 6, 7, 0] rfl)
    have h := o_f h c_11
    by_cases c_12 : (xs y5.toNatClampNeg) &&& (31 : Int32) = 12
    · have h := o_t h c_12
      refine k_swIn (v := 12) (off := 616) (tgt := 660) hx hb c_12 dL_law_44 (by decide) (by decide) (by decide +kernel) (by decide) ?_
      refine lv_aload_n hx hb dL_law_660 rfl (lv_at hl 1 rfl) ?_
      refine lv_aload_n hx hb dL_law_661 rfl (lv_at hl 3 rfl) ?_
      obtain ⟨v196, g197, h⟩ := o_b h
      refine k_rwx (vx_runSX (As := [.ref (a 0), .ref (ca 0)]) (rest := []) ⟨hx, hb, hml, hown, hts⟩ (c_L_undo l hfl dC dI cI cF cL cD a ca S O  v196 g197 H.size) (vx_cwSW 2 hts gL_law_L_undo rfl rfl rfl (by decide +kernel) ⟨Nat.le_of_ble_eq_true rfl, Nat.le_of_ble_eq_true rfl⟩) (k_preSL hE hN hS hA hKL hP hD (LN_l (LN_two (LN_l (LN_id (fX5 a cI cF S v196.2.1))) (LN_id rfl)))) rfl rfl hl.1 rfl (lv_room (Nat.le_of_ble_eq_true rfl)) dL_law_662 ⟨Nat.le_trans (m := 2000) (by omega) (Nat.le_of_ble_eq_true rfl), Nat.le_trans (m := 20000) (by omega) (Nat.le_of_ble_eq_true rfl)⟩) (st1 := [.int v196.1]) rfl hP hD hS hA (wn := wX5 a cI cF v196.2.1 ++ wX6 b cI cF M ++ wLA ca cL v196.2.2 ++ wDA da cD OD) (LN_l (LN_two (LN_l (LN_id (fX5 a cI cF S v196.2.1))) (LN_id rfl))) (fun H locs hP hD hS => ?_)
      obtain ⟨x6_198, e199, h⟩ := o_n h
      refine lv_nmi e199 ?_
      refine lv_istore (lv' := [(6, .int x6_198), (0, .ref bq), (1, .ref (a 0)), (2, .ref (b 0)), (3, .ref (ca 0)), (4, .ref (da 0)), (5, .int y5)]) hx hb dL_law_665 hl (by decide) rfl (fun ls hl => ?_)
      refine lv_aload_n hx hb dL_law_667 rfl (lv_at hl 3 rfl) ?_
      obtain ⟨v200, g201, h⟩ := o_b h
      refine k_rwL (va_runV (As := []) (rest := []) ⟨hx, hb, hml, hown, hts⟩ (c_X6_undo l dC dI cI cF b M  v200 g201 H.size) (cwV 0 hts gL_law_X6_undo rfl rfl rfl (by decide +kernel) ⟨Nat.le_of_ble_eq_true rfl, Nat.le_of_ble_eq_true rfl⟩) (k_preLw (q0 := 0) (ci := 6) hK hP hD (LN_l (LN_l (LN_r (LN_id (fX6 b cI cF M v200.2))))) rfl rfl rfl) rfl rfl hl.1 rfl (lv_room (Nat.le_of_ble_eq_true rfl)) dL_law_668 ⟨Nat.le_trans (m := 2000) (by omega) (Nat.le_of_ble_eq_true rfl), Nat.le_trans (m := 20000) (by omega) (Nat.le_of_ble_eq_true rfl)⟩) (st1 := [.int v200.1]) rfl hP hD hS hA (wn := wX5 a cI cF v196.2.1 ++ wX6 b cI cF v200.2 ++ wLA ca cL v196.2.2 ++ wDA da cD OD) (LN_l (LN_l (LN_r (LN_id (fX6 b cI cF M v200.2))))) (fun H locs hP hD hS => ?_)
      obtain ⟨x7_202, e203, h⟩ := o_n h
      refine lv_nmi e203 ?_
      refine lv_istore (lv' := [(7, .int x7_202), (6, .int x6_198), (0, .ref bq), (1, .ref (a 0)), (2, .ref (b 0)), (3, .ref (ca 0)), (4, .ref (da 0)), (5, .int y5)]) hx hb dL_law_671 hl (by decide) rfl (fun ls hl => ?_)
      refine lv_aload_n hx hb dL_law_673 rfl (lv_at hl 4 rfl) ?_
      obtain ⟨v204, g205, h⟩ := o_b h
      refine k_ro (va_runV (As := []) (rest := []) ⟨hx, hb, hml, hown, hts⟩ (c_X6_thrown l dC dI cI cF b v200.2  v204 g205) (cwV 0 hts gL_law_X6_thrown rfl rfl rfl (by decide +kernel) ⟨Nat.le_of_ble_eq_true rfl, Nat.le_of_ble_eq_true rfl⟩) (k_preL (q0 := 0) (ci := 6) hK hP (LN_l (LN_l (LN_r (LN_id (fX6 b cI cF v200.2 v200.2))))) rfl rfl rfl) rfl rfl hl.1 rfl (lv_room (Nat.le_of_ble_eq_true rfl)) dL_law_674 ⟨Nat.le_trans (m := 2000) (by omega) (Nat.le_of_ble_eq_true rfl), Nat.le_trans (m := 20000) (by omega) (Nat.le_of_ble_eq_true rfl)⟩) (st1 := [.int v204]) rfl ?_
      refine lv_iload hx hb dL_law_677 (lv_at hl 1 rfl) ?_
      refine lv_icmp_eq (tgt := 684) hx hb dL_law_679 (by decide) (fun c206 => ?_) (fun c206 => ?_)
      rotate_left
      · have h := o_f h c206
        refine lv_iconst (v := (0 : Int32)) hx hb dL_law_682 (by decide) ?_
        exact absurd (Option.some.inj h) (by decide)
      have h := o_t h c206
      refine lv_iload hx hb dL_law_684 (lv_at hl 1 rfl) ?_
      refine lv_if_ne (tgt := 701) hx hb dL_law_686 (by decide) (fun c207 => ?_) (fun c207 => ?_)
      · have h := o_f h c207
        refine lv_goto (tgt := 1335) hx hb dL_law_701 (by decide) ?_
        obtain ⟨x5_208, e209, h⟩ := o_n h
        refine lv_iinc (v := x5_208) (lv' := [(5, .int x5_208), (7, .int x7_202), (6, .int x6_198), (0, .ref bq), (1, .ref (a 0)), (2, .ref (b 0)), (3, .ref (ca 0)), (4, .ref (da 0))]) hx hb dL_law_1335 hl (k := 7) rfl (by rw [e209]; rfl) (by decide) rfl (fun ls hl => ?_)
        refine lv_goto (tgt := 28) hx hb dL_law_1338 (by decide) ?_
        refine W.widen (k := ce + 1) (n := sl + 6) (by omega) (by omega) ?_
        exact ih _ _ _ _ _ h _ _ (by omega) (by omega) _ _ hP hD hS _ (lv_sub hl [3, 4, 5, 6, 7, 0] rfl)
      have h := o_t h c207
      refine lv_aload_n hx hb dL_law_689 rfl (lv_at hl 5 rfl) ?_
      refine lv_iconst (v := (0 : Int32)) hx hb dL_law_690 (by decide) ?_
      refine va_lald hx hb hKL hP 76 2 rfl rfl (by unfold vp_in; decide) dL_law_691 ?_
      refine lv_iload hx hb dL_law_692 (lv_at hl 0 rfl) ?_
      refine lv_i2l hx hb dL_law_694 rfl ?_
      refine W.lcmp hx hb dL_law_695 ?_
      refine lv_if_eq (tgt := 701) hx hb dL_law_696 (by decide) (fun c210 => ?_) (fun c210 => ?_)
      rotate_left
      · have h := o_f h c210
        refine lv_iconst (v := (0 : Int32)) hx hb dL_law_699 (by decide) ?_
        exact absurd (Option.some.inj h) (by decide)
      have h := o_t h c210
      refine lv_goto (tgt := 1335) hx hb dL_law_701 (by decide) ?_
      obtain ⟨x5_211, e212, h⟩ := o_n h
      refine lv_iinc (v := x5_211) (lv' := [(5, .int x5_211), (7, .int x7_202), (6, .int x6_198), (0, .ref bq), (1, .ref (a 0)), (2, .ref (b 0)), (3, .ref (ca 0)), (4, .ref (da 0))]) hx hb dL_law_1335 hl (k := 7) rfl (by rw [e212]; rfl) (by decide) rfl (fun ls hl => ?_)
      refine lv_goto (tgt := 28) hx hb dL_law_1338 (by decide) ?_
      refine W.widen (k := ce + 1) (n := sl + 6) (by omega) (by omega) ?_
      exact ih _ _ _ _ _ h _ _ (by omega) (by omega) _ _ hP hD hS _ (lv_sub hl [3, 4, 5, 6, 7, 0] rfl)
    have h := o_f h c_12
    by_cases c_13 : (xs y5.toNatClampNeg) &&& (31 : Int32) = 13
    · have h := o_t h c_13
      refine k_swIn (v := 13) (off := 660) (tgt := 704) hx hb c_13 dL_law_44 (by decide) (by decide) (by decide +kernel) (by decide) ?_
      refine lv_aload_n hx hb dL_law_704 rfl (lv_at hl 1 rfl) ?_
      refine lv_aload_n hx hb dL_law_705 rfl (lv_at hl 0 rfl) ?_
      refine lv_iload hx hb dL_law_706 (lv_at hl 5 rfl) ?_
      refine lv_iconst (v := (1 : Int32)) hx hb dL_law_708 (by decide) ?_
      refine lv_iadd hx hb dL_law_709 ?_
      obtain ⟨i214, h⟩ := o_in h
      refine va_sld hx hb hX hbl hbA hS i214 dL_law_710 ?_
      refine lv_aload_n hx hb dL_law_711 rfl (lv_at hl 0 rfl) ?_
      refine lv_iload hx hb dL_law_712 (lv_at hl 5 rfl) ?_
      refine lv_iconst (v := (2 : Int32)) hx hb dL_law_714 (by decide) ?_
      refine lv_iadd hx hb dL_law_715 ?_
      obtain ⟨i215, h⟩ := o_in h
      refine va_sld hx hb hX hbl hbA hS i215 dL_law_716 ?_
      refine lv_aload_n hx hb dL_law_717 rfl (lv_at hl 3 rfl) ?_
      obtain ⟨v216, g217, h⟩ := o_b h
      refine k_rwx (vx_runSX (As := [.ref (a 0), .int (xs (y5 + (1 : Int32)).toNatClampNeg), .int (xs (y5 + (2 : Int32)).toNatClampNeg), .ref (ca 0)]) (rest := []) ⟨hx, hb, hml, hown, hts⟩ (c_L_can l hfl dC dI cI cF cL cD a ca S O (xs (y5 + (1 : Int32)).toNatClampNeg) (xs (y5 + (2 : Int32)).toNatClampNeg) v216 g217 H.size) (vx_cwSW 4 hts gL_law_L_can rfl rfl rfl (by decide +kernel) ⟨Nat.le_of_ble_eq_true rfl, Nat.le_of_ble_eq_true rfl⟩) (k_preSL hE hN hS hA hKL hP hD (LN_l (LN_two (LN_l (LN_id (fX5 a cI cF S v216.2.1))) (LN_id rfl)))) rfl rfl hl.1 rfl (lv_room (Nat.le_of_ble_eq_true rfl)) dL_law_718 ⟨Nat.le_trans (m := 2000) (by omega) (Nat.le_of_ble_eq_true rfl), Nat.le_trans (m := 20000) (by omega) (Nat.le_of_ble_eq_true rfl)⟩) (st1 := [.int v216.1]) rfl hP hD hS hA (wn := wX5 a cI cF v216.2.1 ++ wX6 b cI cF M ++ wLA ca cL v216.2.2 ++ wDA da cD OD) (LN_l (LN_two (LN_l (LN_id (fX5 a cI cF S v216.2.1))) (LN_id rfl))) (fun H locs hP hD hS => ?_)
      obtain ⟨x6_218, e219, h⟩ := o_n h
      refine lv_nmi e219 ?_
      refine lv_istore (lv' := [(6, .int x6_218), (0, .ref bq), (1, .ref (a 0)), (2, .ref (b 0)), (3, .ref (ca 0)), (4, .ref (da 0)), (5, .int y5)]) hx hb dL_law_721 hl (by decide) rfl (fun ls hl => ?_)
      refine lv_aload_n hx hb dL_law_723 rfl (lv_at hl 3 rfl) ?_
      refine lv_aload_n hx hb dL_law_724 rfl (lv_at hl 1 rfl) ?_
      refine lv_iload hx hb dL_law_725 (lv_at hl 6 rfl) ?_
      refine lv_iconst (v := (1 : Int32)) hx hb dL_law_727 (by decide) ?_
      refine lv_iadd hx hb dL_law_728 ?_
      obtain ⟨i220, h⟩ := o_in h
      refine va_sld hx hb hX hbl hbA hS i220 dL_law_729 ?_
      refine lv_aload_n hx hb dL_law_730 rfl (lv_at hl 1 rfl) ?_
      refine lv_iload hx hb dL_law_731 (lv_at hl 6 rfl) ?_
      refine lv_iconst (v := (2 : Int32)) hx hb dL_law_733 (by decide) ?_
      refine lv_iadd hx hb dL_law_734 ?_
      obtain ⟨i221, h⟩ := o_in h
      refine va_sld hx hb hX hbl hbA hS i221 dL_law_735 ?_
      obtain ⟨v222, g223, h⟩ := o_b h
      refine k_rwL (va_runV (As := [.int (xs (y5 + (1 : Int32)).toNatClampNeg), .int (xs (y5 + (2 : Int32)).toNatClampNeg)]) (rest := []) ⟨hx, hb, hml, hown, hts⟩ (c_X6_can l dC dI cI cF b M (xs (y5 + (1 : Int32)).toNatClampNeg) (xs (y5 + (2 : Int32)).toNatClampNeg) v222 g223 H.size) (cwV 2 hts gL_law_X6_can rfl rfl rfl (by decide +kernel) ⟨Nat.le_of_ble_eq_true rfl, Nat.le_of_ble_eq_true rfl⟩) (k_preLw (q0 := 0) (ci := 6) hK hP hD (LN_l (LN_l (LN_r (LN_id (fX6 b cI cF M v222.2))))) rfl rfl rfl) rfl rfl hl.1 rfl (lv_room (Nat.le_of_ble_eq_true rfl)) dL_law_736 ⟨Nat.le_trans (m := 2000) (by omega) (Nat.le_of_ble_eq_true rfl), Nat.le_trans (m := 20000) (by omega) (Nat.le_of_ble_eq_true rfl)⟩) (st1 := [.int v222.1]) rfl hP hD hS hA (wn := wX5 a cI cF v216.2.1 ++ wX6 b cI cF v222.2 ++ wLA ca cL v216.2.2 ++ wDA da cD OD) (LN_l (LN_l (LN_r (LN_id (fX6 b cI cF M v222.2))))) (fun H locs hP hD hS => ?_)
      obtain ⟨x7_224, e225, h⟩ := o_n h
      refine lv_nmi e225 ?_
      refine lv_istore (lv' := [(7, .int x7_224), (6, .int x6_218), (0, .ref bq), (1, .ref (a 0)), (2, .ref (b 0)), (3, .ref (ca 0)), (4, .ref (da 0)), (5, .int y5)]) hx hb dL_law_739 hl (by decide) rfl (fun ls hl => ?_)
      refine lv_aload_n hx hb dL_law_741 rfl (lv_at hl 4 rfl) ?_
      obtain ⟨v226, g227, h⟩ := o_b h
      refine k_ro (va_runV (As := []) (rest := []) ⟨hx, hb, hml, hown, hts⟩ (c_X6_thrown l dC dI cI cF b v222.2  v226 g227) (cwV 0 hts gL_law_X6_thrown rfl rfl rfl (by decide +kernel) ⟨Nat.le_of_ble_eq_true rfl, Nat.le_of_ble_eq_true rfl⟩) (k_preL (q0 := 0) (ci := 6) hK hP (LN_l (LN_l (LN_r (LN_id (fX6 b cI cF v222.2 v222.2))))) rfl rfl rfl) rfl rfl hl.1 rfl (lv_room (Nat.le_of_ble_eq_true rfl)) dL_law_742 ⟨Nat.le_trans (m := 2000) (by omega) (Nat.le_of_ble_eq_true rfl), Nat.le_trans (m := 20000) (by omega) (Nat.le_of_ble_eq_true rfl)⟩) (st1 := [.int v226]) rfl ?_
      refine lv_iload hx hb dL_law_745 (lv_at hl 1 rfl) ?_
      refine lv_icmp_eq (tgt := 752) hx hb dL_law_747 (by decide) (fun c228 => ?_) (fun c228 => ?_)
      rotate_left
      · have h := o_f h c228
        refine lv_iconst (v := (0 : Int32)) hx hb dL_law_750 (by decide) ?_
        exact absurd (Option.some.inj h) (by decide)
      have h := o_t h c228
      refine lv_iload hx hb dL_law_752 (lv_at hl 1 rfl) ?_
      refine lv_if_ne (tgt := 769) hx hb dL_law_754 (by decide) (fun c229 => ?_) (fun c229 => ?_)
      · have h := o_f h c229
        refine lv_goto (tgt := 1335) hx hb dL_law_769 (by decide) ?_
        obtain ⟨x5_230, e231, h⟩ := o_n h
        refine lv_iinc (v := x5_230) (lv' := [(5, .int x5_230), (7, .int x7_224), (6, .int x6_218), (0, .ref bq), (1, .ref (a 0)), (2, .ref (b 0)), (3, .ref (ca 0)), (4, .ref (da 0))]) hx hb dL_law_1335 hl (k := 7) rfl (by rw [e231]; rfl) (by decide) rfl (fun ls hl => ?_)
        refine lv_goto (tgt := 28) hx hb dL_law_1338 (by decide) ?_
        refine W.widen (k := ce + 1) (n := sl + 6) (by omega) (by omega) ?_
        exact ih _ _ _ _ _ h _ _ (by omega) (by omega) _ _ hP hD hS _ (lv_sub hl [3, 4, 5, 6, 7, 0] rfl)
      have h := o_t h c229
      refine lv_aload_n hx hb dL_law_757 rfl (lv_at hl 5 rfl) ?_
      refine lv_iconst (v := (0 : Int32)) hx hb dL_law_758 (by decide) ?_
      refine va_lald hx hb hKL hP 76 2 rfl rfl (by unfold vp_in; decide) dL_law_759 ?_
      refine lv_iload hx hb dL_law_760 (lv_at hl 0 rfl) ?_
      refine lv_i2l hx hb dL_law_762 rfl ?_
      refine W.lcmp hx hb dL_law_763 ?_
      refine lv_if_eq (tgt := 769) hx hb dL_law_764 (by decide) (fun c232 => ?_) (fun c232 => ?_)
      rotate_left
      · have h := o_f h c232
        refine lv_iconst (v := (0 : Int32)) hx hb dL_law_767 (by decide) ?_
        exact absurd (Option.some.inj h) (by decide)
      have h := o_t h c232
      refine lv_goto (tgt := 1335) hx hb dL_law_769 (by decide) ?_
      obtain ⟨x5_233, e234, h⟩ := o_n h
      refine lv_iinc (v := x5_233) (lv' := [(5, .int x5_233), (7, .int x7_224), (6, .int x6_218), (0, .ref bq), (1, .ref (a 0)), (2, .ref (b 0)), (3, .ref (ca 0)), (4, .ref (da 0))]) hx hb dL_law_1335 hl (k := 7) rfl (by rw [e234]; rfl) (by decide) rfl (fun ls hl => ?_)
      refine lv_goto (tgt := 28) hx hb dL_law_1338 (by decide) ?_
      refine W.widen (k := ce + 1) (n := sl + 6) (by omega) (by omega) ?_
      exact ih _ _ _ _ _ h _ _ (by omega) (by omega) _ _ hP hD hS _ (lv_sub hl [3, 4, 5, 6, 7, 0] rfl)
    have h := o_f h c_13
    by_cases c_14 : (xs y5.toNatClampNeg) &&& (31 : Int32) = 14
    · have h := o_t h c_14
      refine k_swIn (v := 14) (off := 728) (tgt := 772) hx hb c_14 dL_law_44 (by decide) (by decide) (by decide +kernel) (by decide) ?_
      refine lv_aload_n hx hb dL_law_772 rfl (lv_at hl 1 rfl) ?_
      refine lv_aload_n hx hb dL_law_773 rfl (lv_at hl 0 rfl) ?_
      refine lv_iload hx hb dL_law_774 (lv_at hl 5 rfl) ?_
      refine lv_iconst (v := (1 : Int32)) hx hb dL_law_776 (by decide) ?_
      refine lv_iadd hx hb dL_law_777 ?_
      obtain ⟨i236, h⟩ := o_in h
      refine va_sld hx hb hX hbl hbA hS i236 dL_law_778 ?_
      refine lv_aload_n hx hb dL_law_779 rfl (lv_at hl 0 rfl) ?_
      refine lv_iload hx hb dL_law_780 (lv_at hl 5 rfl) ?_
      refine lv_iconst (v := (2 : Int32)) hx hb dL_law_782 (by decide) ?_
      refine lv_iadd hx hb dL_law_783 ?_
      obtain ⟨i237, h⟩ := o_in h
      refine va_sld hx hb hX hbl hbA hS i237 dL_law_784 ?_
      refine lv_aload_n hx hb dL_law_785 rfl (lv_at hl 3 rfl) ?_
      obtain ⟨v238, g239, h⟩ := o_b h
      refine k_rwx (vx_runSX (As := [.ref (a 0), .int (xs (y5 + (1 : Int32)).toNatClampNeg), .int (xs (y5 + (2 : Int32)).toNatClampNeg), .ref (ca 0)]) (rest := []) ⟨hx, hb, hml, hown, hts⟩ (c_L_metre l hfl dC dI cI cF cL cD a ca S O (xs (y5 + (1 : Int32)).toNatClampNeg) (xs (y5 + (2 : Int32)).toNatClampNeg) v238 g239 H.size) (vx_cwSW 4 hts gL_law_L_metre rfl rfl rfl (by decide +kernel) ⟨Nat.le_of_ble_eq_true rfl, Nat.le_of_ble_eq_true rfl⟩) (k_preSL hE hN hS hA hKL hP hD (LN_l (LN_two (LN_l (LN_id (fX5 a cI cF S v238.2.1))) (LN_id rfl)))) rfl rfl hl.1 rfl (lv_room (Nat.le_of_ble_eq_true rfl)) dL_law_786 ⟨Nat.le_trans (m := 2000) (by omega) (Nat.le_of_ble_eq_true rfl), Nat.le_trans (m := 20000) (by omega) (Nat.le_of_ble_eq_true rfl)⟩) (st1 := [.int v238.1]) rfl hP hD hS hA (wn := wX5 a cI cF v238.2.1 ++ wX6 b cI cF M ++ wLA ca cL v238.2.2 ++ wDA da cD OD) (LN_l (LN_two (LN_l (LN_id (fX5 a cI cF S v238.2.1))) (LN_id rfl))) (fun H locs hP hD hS => ?_)
      obtain ⟨x6_240, e241, h⟩ := o_n h
      refine lv_nmi e241 ?_
      refine lv_istore (lv' := [(6, .int x6_240), (0, .ref bq), (1, .ref (a 0)), (2, .ref (b 0)), (3, .ref (ca 0)), (4, .ref (da 0)), (5, .int y5)]) hx hb dL_law_789 hl (by decide) rfl (fun ls hl => ?_)
      refine lv_aload_n hx hb dL_law_791 rfl (lv_at hl 3 rfl) ?_
      refine lv_aload_n hx hb dL_law_792 rfl (lv_at hl 1 rfl) ?_
      refine lv_iload hx hb dL_law_793 (lv_at hl 6 rfl) ?_
      refine lv_iconst (v := (1 : Int32)) hx hb dL_law_795 (by decide) ?_
      refine lv_iadd hx hb dL_law_796 ?_
      obtain ⟨i242, h⟩ := o_in h
      refine va_sld hx hb hX hbl hbA hS i242 dL_law_797 ?_
      refine lv_aload_n hx hb dL_law_798 rfl (lv_at hl 1 rfl) ?_
      refine lv_iload hx hb dL_law_799 (lv_at hl 6 rfl) ?_
      refine lv_iconst (v := (2 : Int32)) hx hb dL_law_801 (by decide) ?_
      refine lv_iadd hx hb dL_law_802 ?_
      obtain ⟨i243, h⟩ := o_in h
      refine va_sld hx hb hX hbl hbA hS i243 dL_law_803 ?_
      obtain ⟨v244, g245, h⟩ := o_b h
      refine k_rwL (va_runV (As := [.int (xs (y5 + (1 : Int32)).toNatClampNeg), .int (xs (y5 + (2 : Int32)).toNatClampNeg)]) (rest := []) ⟨hx, hb, hml, hown, hts⟩ (c_X6_metre l dC dI cI cF b M (xs (y5 + (1 : Int32)).toNatClampNeg) (xs (y5 + (2 : Int32)).toNatClampNeg) v244 g245 H.size) (cwV 2 hts gL_law_X6_metre rfl rfl rfl (by decide +kernel) ⟨Nat.le_of_ble_eq_true rfl, Nat.le_of_ble_eq_true rfl⟩) (k_preLw (q0 := 0) (ci := 6) hK hP hD (LN_l (LN_l (LN_r (LN_id (fX6 b cI cF M v244.2))))) rfl rfl rfl) rfl rfl hl.1 rfl (lv_room (Nat.le_of_ble_eq_true rfl)) dL_law_804 ⟨Nat.le_trans (m := 2000) (by omega) (Nat.le_of_ble_eq_true rfl), Nat.le_trans (m := 20000) (by omega) (Nat.le_of_ble_eq_true rfl)⟩) (st1 := [.int v244.1]) rfl hP hD hS hA (wn := wX5 a cI cF v238.2.1 ++ wX6 b cI cF v244.2 ++ wLA ca cL v238.2.2 ++ wDA da cD OD) (LN_l (LN_l (LN_r (LN_id (fX6 b cI cF M v244.2))))) (fun H locs hP hD hS => ?_)
      obtain ⟨x7_246, e247, h⟩ := o_n h
      refine lv_nmi e247 ?_
      refine lv_istore (lv' := [(7, .int x7_246), (6, .int x6_240), (0, .ref bq), (1, .ref (a 0)), (2, .ref (b 0)), (3, .ref (ca 0)), (4, .ref (da 0)), (5, .int y5)]) hx hb dL_law_807 hl (by decide) rfl (fun ls hl => ?_)
      refine lv_aload_n hx hb dL_law_809 rfl (lv_at hl 4 rfl) ?_
      obtain ⟨v248, g249, h⟩ := o_b h
      refine k_ro (va_runV (As := []) (rest := []) ⟨hx, hb, hml, hown, hts⟩ (c_X6_thrown l dC dI cI cF b v244.2  v248 g249) (cwV 0 hts gL_law_X6_thrown rfl rfl rfl (by decide +kernel) ⟨Nat.le_of_ble_eq_true rfl, Nat.le_of_ble_eq_true rfl⟩) (k_preL (q0 := 0) (ci := 6) hK hP (LN_l (LN_l (LN_r (LN_id (fX6 b cI cF v244.2 v244.2))))) rfl rfl rfl) rfl rfl hl.1 rfl (lv_room (Nat.le_of_ble_eq_true rfl)) dL_law_810 ⟨Nat.le_trans (m := 2000) (by omega) (Nat.le_of_ble_eq_true rfl), Nat.le_trans (m := 20000) (by omega) (Nat.le_of_ble_eq_true rfl)⟩) (st1 := [.int v248]) rfl ?_
      refine lv_iload hx hb dL_law_813 (lv_at hl 1 rfl) ?_
      refine lv_icmp_eq (tgt := 820) hx hb dL_law_815 (by decide) (fun c250 => ?_) (fun c250 => ?_)
      rotate_left
      · have h := o_f h c250
        refine lv_iconst (v := (0 : Int32)) hx hb dL_law_818 (by decide) ?_
        exact absurd (Option.some.inj h) (by decide)
      have h := o_t h c250
      refine lv_iload hx hb dL_law_820 (lv_at hl 1 rfl) ?_
      refine lv_if_ne (tgt := 837) hx hb dL_law_822 (by decide) (fun c251 => ?_) (fun c251 => ?_)
      · have h := o_f h c251
        refine lv_goto (tgt := 1335) hx hb dL_law_837 (by decide) ?_
        obtain ⟨x5_252, e253, h⟩ := o_n h
        refine lv_iinc (v := x5_252) (lv' := [(5, .int x5_252), (7, .int x7_246), (6, .int x6_240), (0, .ref bq), (1, .ref (a 0)), (2, .ref (b 0)), (3, .ref (ca 0)), (4, .ref (da 0))]) hx hb dL_law_1335 hl (k := 7) rfl (by rw [e253]; rfl) (by decide) rfl (fun ls hl => ?_)
        refine lv_goto (tgt := 28) hx hb dL_law_1338 (by decide) ?_
        refine W.widen (k := ce + 1) (n := sl + 6) (by omega) (by omega) ?_
        exact ih _ _ _ _ _ h _ _ (by omega) (by omega) _ _ hP hD hS _ (lv_sub hl [3, 4, 5, 6, 7, 0] rfl)
      have h := o_t h c251
      refine lv_aload_n hx hb dL_law_825 rfl (lv_at hl 5 rfl) ?_
      refine lv_iconst (v := (0 : Int32)) hx hb dL_law_826 (by decide) ?_
      refine va_lald hx hb hKL hP 76 2 rfl rfl (by unfold vp_in; decide) dL_law_827 ?_
      refine lv_iload hx hb dL_law_828 (lv_at hl 0 rfl) ?_
      refine lv_i2l hx hb dL_law_830 rfl ?_
      refine W.lcmp hx hb dL_law_831 ?_
      refine lv_if_eq (tgt := 837) hx hb dL_law_832 (by decide) (fun c254 => ?_) (fun c254 => ?_)
      rotate_left
      · have h := o_f h c254
        refine lv_iconst (v := (0 : Int32)) hx hb dL_law_835 (by decide) ?_
        exact absurd (Option.some.inj h) (by decide)
      have h := o_t h c254
      refine lv_goto (tgt := 1335) hx hb dL_law_837 (by decide) ?_
      obtain ⟨x5_255, e256, h⟩ := o_n h
      refine lv_iinc (v := x5_255) (lv' := [(5, .int x5_255), (7, .int x7_246), (6, .int x6_240), (0, .ref bq), (1, .ref (a 0)), (2, .ref (b 0)), (3, .ref (ca 0)), (4, .ref (da 0))]) hx hb dL_law_1335 hl (k := 7) rfl (by rw [e256]; rfl) (by decide) rfl (fun ls hl => ?_)
      refine lv_goto (tgt := 28) hx hb dL_law_1338 (by decide) ?_
      refine W.widen (k := ce + 1) (n := sl + 6) (by omega) (by omega) ?_
      exact ih _ _ _ _ _ h _ _ (by omega) (by omega) _ _ hP hD hS _ (lv_sub hl [3, 4, 5, 6, 7, 0] rfl)
    have h := o_f h c_14
    by_cases c_15 : (xs y5.toNatClampNeg) &&& (31 : Int32) = 15
    · have h := o_t h c_15
      refine k_swIn (v := 15) (off := 796) (tgt := 840) hx hb c_15 dL_law_44 (by decide) (by decide) (by decide +kernel) (by decide) ?_
      refine lv_aload_n hx hb dL_law_840 rfl (lv_at hl 1 rfl) ?_
      refine lv_aload_n hx hb dL_law_841 rfl (lv_at hl 0 rfl) ?_
      refine lv_iload hx hb dL_law_842 (lv_at hl 5 rfl) ?_
      refine lv_iconst (v := (1 : Int32)) hx hb dL_law_844 (by decide) ?_
      refine lv_iadd hx hb dL_law_845 ?_
      obtain ⟨i258, h⟩ := o_in h
      refine va_sld hx hb hX hbl hbA hS i258 dL_law_846 ?_
      refine lv_aload_n hx hb dL_law_847 rfl (lv_at hl 3 rfl) ?_
      obtain ⟨v259, g260, h⟩ := o_b h
      refine k_rwx (vx_runSX (As := [.ref (a 0), .int (xs (y5 + (1 : Int32)).toNatClampNeg), .ref (ca 0)]) (rest := []) ⟨hx, hb, hml, hown, hts⟩ (c_L_feeler l hfl dC dI cI cF cL cD a ca S O (xs (y5 + (1 : Int32)).toNatClampNeg) v259 g260 H.size) (vx_cwSW 3 hts gL_law_L_feeler rfl rfl rfl (by decide +kernel) ⟨Nat.le_of_ble_eq_true rfl, Nat.le_of_ble_eq_true rfl⟩) (k_preSL hE hN hS hA hKL hP hD (LN_l (LN_two (LN_l (LN_id (fX5 a cI cF S v259.2.1))) (LN_id rfl)))) rfl rfl hl.1 rfl (lv_room (Nat.le_of_ble_eq_true rfl)) dL_law_848 ⟨Nat.le_trans (m := 2000) (by omega) (Nat.le_of_ble_eq_true rfl), Nat.le_trans (m := 20000) (by omega) (Nat.le_of_ble_eq_true rfl)⟩) (st1 := [.int v259.1]) rfl hP hD hS hA (wn := wX5 a cI cF v259.2.1 ++ wX6 b cI cF M ++ wLA ca cL v259.2.2 ++ wDA da cD OD) (LN_l (LN_two (LN_l (LN_id (fX5 a cI cF S v259.2.1))) (LN_id rfl))) (fun H locs hP hD hS => ?_)
      obtain ⟨x6_261, e262, h⟩ := o_n h
      refine lv_nmi e262 ?_
      refine lv_istore (lv' := [(6, .int x6_261), (0, .ref bq), (1, .ref (a 0)), (2, .ref (b 0)), (3, .ref (ca 0)), (4, .ref (da 0)), (5, .int y5)]) hx hb dL_law_851 hl (by decide) rfl (fun ls hl => ?_)
      refine lv_aload_n hx hb dL_law_853 rfl (lv_at hl 3 rfl) ?_
      refine lv_aload_n hx hb dL_law_854 rfl (lv_at hl 1 rfl) ?_
      refine lv_iload hx hb dL_law_855 (lv_at hl 6 rfl) ?_
      refine lv_iconst (v := (1 : Int32)) hx hb dL_law_857 (by decide) ?_
      refine lv_iadd hx hb dL_law_858 ?_
      obtain ⟨i263, h⟩ := o_in h
      refine va_sld hx hb hX hbl hbA hS i263 dL_law_859 ?_
      obtain ⟨v264, g265, h⟩ := o_b h
      refine k_rwL (va_runV (As := [.int (xs (y5 + (1 : Int32)).toNatClampNeg)]) (rest := []) ⟨hx, hb, hml, hown, hts⟩ (c_X6_feeler l dC dI cI cF b M (xs (y5 + (1 : Int32)).toNatClampNeg) v264 g265 H.size) (cwV 1 hts gL_law_X6_feeler rfl rfl rfl (by decide +kernel) ⟨Nat.le_of_ble_eq_true rfl, Nat.le_of_ble_eq_true rfl⟩) (k_preLw (q0 := 0) (ci := 6) hK hP hD (LN_l (LN_l (LN_r (LN_id (fX6 b cI cF M v264.2))))) rfl rfl rfl) rfl rfl hl.1 rfl (lv_room (Nat.le_of_ble_eq_true rfl)) dL_law_860 ⟨Nat.le_trans (m := 2000) (by omega) (Nat.le_of_ble_eq_true rfl), Nat.le_trans (m := 20000) (by omega) (Nat.le_of_ble_eq_true rfl)⟩) (st1 := [.int v264.1]) rfl hP hD hS hA (wn := wX5 a cI cF v259.2.1 ++ wX6 b cI cF v264.2 ++ wLA ca cL v259.2.2 ++ wDA da cD OD) (LN_l (LN_l (LN_r (LN_id (fX6 b cI cF M v264.2))))) (fun H locs hP hD hS => ?_)
      obtain ⟨x7_266, e267, h⟩ := o_n h
      refine lv_nmi e267 ?_
      refine lv_istore (lv' := [(7, .int x7_266), (6, .int x6_261), (0, .ref bq), (1, .ref (a 0)), (2, .ref (b 0)), (3, .ref (ca 0)), (4, .ref (da 0)), (5, .int y5)]) hx hb dL_law_863 hl (by decide) rfl (fun ls hl => ?_)
      refine lv_aload_n hx hb dL_law_865 rfl (lv_at hl 4 rfl) ?_
      obtain ⟨v268, g269, h⟩ := o_b h
      refine k_ro (va_runV (As := []) (rest := []) ⟨hx, hb, hml, hown, hts⟩ (c_X6_thrown l dC dI cI cF b v264.2  v268 g269) (cwV 0 hts gL_law_X6_thrown rfl rfl rfl (by decide +kernel) ⟨Nat.le_of_ble_eq_true rfl, Nat.le_of_ble_eq_true rfl⟩) (k_preL (q0 := 0) (ci := 6) hK hP (LN_l (LN_l (LN_r (LN_id (fX6 b cI cF v264.2 v264.2))))) rfl rfl rfl) rfl rfl hl.1 rfl (lv_room (Nat.le_of_ble_eq_true rfl)) dL_law_866 ⟨Nat.le_trans (m := 2000) (by omega) (Nat.le_of_ble_eq_true rfl), Nat.le_trans (m := 20000) (by omega) (Nat.le_of_ble_eq_true rfl)⟩) (st1 := [.int v268]) rfl ?_
      refine lv_iload hx hb dL_law_869 (lv_at hl 1 rfl) ?_
      refine lv_icmp_eq (tgt := 876) hx hb dL_law_871 (by decide) (fun c270 => ?_) (fun c270 => ?_)
      rotate_left
      · have h := o_f h c270
        refine lv_iconst (v := (0 : Int32)) hx hb dL_law_874 (by decide) ?_
        exact absurd (Option.some.inj h) (by decide)
      have h := o_t h c270
      refine lv_iload hx hb dL_law_876 (lv_at hl 1 rfl) ?_
      refine lv_if_ne (tgt := 893) hx hb dL_law_878 (by decide) (fun c271 => ?_) (fun c271 => ?_)
      · have h := o_f h c271
        refine lv_goto (tgt := 1335) hx hb dL_law_893 (by decide) ?_
        obtain ⟨x5_272, e273, h⟩ := o_n h
        refine lv_iinc (v := x5_272) (lv' := [(5, .int x5_272), (7, .int x7_266), (6, .int x6_261), (0, .ref bq), (1, .ref (a 0)), (2, .ref (b 0)), (3, .ref (ca 0)), (4, .ref (da 0))]) hx hb dL_law_1335 hl (k := 7) rfl (by rw [e273]; rfl) (by decide) rfl (fun ls hl => ?_)
        refine lv_goto (tgt := 28) hx hb dL_law_1338 (by decide) ?_
        refine W.widen (k := ce + 1) (n := sl + 6) (by omega) (by omega) ?_
        exact ih _ _ _ _ _ h _ _ (by omega) (by omega) _ _ hP hD hS _ (lv_sub hl [3, 4, 5, 6, 7, 0] rfl)
      have h := o_t h c271
      refine lv_aload_n hx hb dL_law_881 rfl (lv_at hl 5 rfl) ?_
      refine lv_iconst (v := (0 : Int32)) hx hb dL_law_882 (by decide) ?_
      refine va_lald hx hb hKL hP 76 2 rfl rfl (by unfold vp_in; decide) dL_law_883 ?_
      refine lv_iload hx hb dL_law_884 (lv_at hl 0 rfl) ?_
      refine lv_i2l hx hb dL_law_886 rfl ?_
      refine W.lcmp hx hb dL_law_887 ?_
      refine lv_if_eq (tgt := 893) hx hb dL_law_888 (by decide) (fun c274 => ?_) (fun c274 => ?_)
      rotate_left
      · have h := o_f h c274
        refine lv_iconst (v := (0 : Int32)) hx hb dL_law_891 (by decide) ?_
        exact absurd (Option.some.inj h) (by decide)
      have h := o_t h c274
      refine lv_goto (tgt := 1335) hx hb dL_law_893 (by decide) ?_
      obtain ⟨x5_275, e276, h⟩ := o_n h
      refine lv_iinc (v := x5_275) (lv' := [(5, .int x5_275), (7, .int x7_266), (6, .int x6_261), (0, .ref bq), (1, .ref (a 0)), (2, .ref (b 0)), (3, .ref (ca 0)), (4, .ref (da 0))]) hx hb dL_law_1335 hl (k := 7) rfl (by rw [e276]; rfl) (by decide) rfl (fun ls hl => ?_)
      refine lv_goto (tgt := 28) hx hb dL_law_1338 (by decide) ?_
      refine W.widen (k := ce + 1) (n := sl + 6) (by omega) (by omega) ?_
      exact ih _ _ _ _ _ h _ _ (by omega) (by omega) _ _ hP hD hS _ (lv_sub hl [3, 4, 5, 6, 7, 0] rfl)
    have h := o_f h c_15
    by_cases c_16 : (xs y5.toNatClampNeg) &&& (31 : Int32) = 16
    · have h := o_t h c_16
      refine k_swIn (v := 16) (off := 852) (tgt := 896) hx hb c_16 dL_law_44 (by decide) (by decide) (by decide +kernel) (by decide) ?_
      refine lv_aload_n hx hb dL_law_896 rfl (lv_at hl 1 rfl) ?_
      refine lv_aload_n hx hb dL_law_897 rfl (lv_at hl 0 rfl) ?_
      refine lv_iload hx hb dL_law_898 (lv_at hl 5 rfl) ?_
      refine lv_iconst (v := (1 : Int32)) hx hb dL_law_900 (by decide) ?_
      refine lv_iadd hx hb dL_law_901 ?_
      obtain ⟨i278, h⟩ := o_in h
      refine va_sld hx hb hX hbl hbA hS i278 dL_law_902 ?_
      refine lv_aload_n hx hb dL_law_903 rfl (lv_at hl 3 rfl) ?_
      obtain ⟨v279, g280, h⟩ := o_b h
      refine k_rwx (vx_runSX (As := [.ref (a 0), .int (xs (y5 + (1 : Int32)).toNatClampNeg), .ref (ca 0)]) (rest := []) ⟨hx, hb, hml, hown, hts⟩ (c_L_count l hfl dC dI cI cF cL cD a ca S O (xs (y5 + (1 : Int32)).toNatClampNeg) v279 g280 H.size) (vx_cwSW 3 hts gL_law_L_count rfl rfl rfl (by decide +kernel) ⟨Nat.le_of_ble_eq_true rfl, Nat.le_of_ble_eq_true rfl⟩) (k_preSL hE hN hS hA hKL hP hD (LN_l (LN_two (LN_l (LN_id (fX5 a cI cF S v279.2.1))) (LN_id rfl)))) rfl rfl hl.1 rfl (lv_room (Nat.le_of_ble_eq_true rfl)) dL_law_904 ⟨Nat.le_trans (m := 2000) (by omega) (Nat.le_of_ble_eq_true rfl), Nat.le_trans (m := 20000) (by omega) (Nat.le_of_ble_eq_true rfl)⟩) (st1 := [.int v279.1]) rfl hP hD hS hA (wn := wX5 a cI cF v279.2.1 ++ wX6 b cI cF M ++ wLA ca cL v279.2.2 ++ wDA da cD OD) (LN_l (LN_two (LN_l (LN_id (fX5 a cI cF S v279.2.1))) (LN_id rfl))) (fun H locs hP hD hS => ?_)
      obtain ⟨x6_281, e282, h⟩ := o_n h
      refine lv_nmi e282 ?_
      refine lv_istore (lv' := [(6, .int x6_281), (0, .ref bq), (1, .ref (a 0)), (2, .ref (b 0)), (3, .ref (ca 0)), (4, .ref (da 0)), (5, .int y5)]) hx hb dL_law_907 hl (by decide) rfl (fun ls hl => ?_)
      refine lv_aload_n hx hb dL_law_909 rfl (lv_at hl 3 rfl) ?_
      refine lv_aload_n hx hb dL_law_910 rfl (lv_at hl 1 rfl) ?_
      refine lv_iload hx hb dL_law_911 (lv_at hl 6 rfl) ?_
      refine lv_iconst (v := (1 : Int32)) hx hb dL_law_913 (by decide) ?_
      refine lv_iadd hx hb dL_law_914 ?_
      obtain ⟨i283, h⟩ := o_in h
      refine va_sld hx hb hX hbl hbA hS i283 dL_law_915 ?_
      obtain ⟨v284, g285, h⟩ := o_b h
      refine k_rwL (va_runV (As := [.int (xs (y5 + (1 : Int32)).toNatClampNeg)]) (rest := []) ⟨hx, hb, hml, hown, hts⟩ (c_X6_count l dC dI cI cF b M (xs (y5 + (1 : Int32)).toNatClampNeg) v284 g285 H.size) (cwV 1 hts gL_law_X6_count rfl rfl rfl (by decide +kernel) ⟨Nat.le_of_ble_eq_true rfl, Nat.le_of_ble_eq_true rfl⟩) (k_preLw (q0 := 0) (ci := 6) hK hP hD (LN_l (LN_l (LN_r (LN_id (fX6 b cI cF M v284.2))))) rfl rfl rfl) rfl rfl hl.1 rfl (lv_room (Nat.le_of_ble_eq_true rfl)) dL_law_916 ⟨Nat.le_trans (m := 2000) (by omega) (Nat.le_of_ble_eq_true rfl), Nat.le_trans (m := 20000) (by omega) (Nat.le_of_ble_eq_true rfl)⟩) (st1 := [.int v284.1]) rfl hP hD hS hA (wn := wX5 a cI cF v279.2.1 ++ wX6 b cI cF v284.2 ++ wLA ca cL v279.2.2 ++ wDA da cD OD) (LN_l (LN_l (LN_r (LN_id (fX6 b cI cF M v284.2))))) (fun H locs hP hD hS => ?_)
      obtain ⟨x7_286, e287, h⟩ := o_n h
      refine lv_nmi e287 ?_
      refine lv_istore (lv' := [(7, .int x7_286), (6, .int x6_281), (0, .ref bq), (1, .ref (a 0)), (2, .ref (b 0)), (3, .ref (ca 0)), (4, .ref (da 0)), (5, .int y5)]) hx hb dL_law_919 hl (by decide) rfl (fun ls hl => ?_)
      refine lv_aload_n hx hb dL_law_921 rfl (lv_at hl 4 rfl) ?_
      obtain ⟨v288, g289, h⟩ := o_b h
      refine k_ro (va_runV (As := []) (rest := []) ⟨hx, hb, hml, hown, hts⟩ (c_X6_thrown l dC dI cI cF b v284.2  v288 g289) (cwV 0 hts gL_law_X6_thrown rfl rfl rfl (by decide +kernel) ⟨Nat.le_of_ble_eq_true rfl, Nat.le_of_ble_eq_true rfl⟩) (k_preL (q0 := 0) (ci := 6) hK hP (LN_l (LN_l (LN_r (LN_id (fX6 b cI cF v284.2 v284.2))))) rfl rfl rfl) rfl rfl hl.1 rfl (lv_room (Nat.le_of_ble_eq_true rfl)) dL_law_922 ⟨Nat.le_trans (m := 2000) (by omega) (Nat.le_of_ble_eq_true rfl), Nat.le_trans (m := 20000) (by omega) (Nat.le_of_ble_eq_true rfl)⟩) (st1 := [.int v288]) rfl ?_
      refine lv_iload hx hb dL_law_925 (lv_at hl 1 rfl) ?_
      refine lv_icmp_eq (tgt := 932) hx hb dL_law_927 (by decide) (fun c290 => ?_) (fun c290 => ?_)
      rotate_left
      · have h := o_f h c290
        refine lv_iconst (v := (0 : Int32)) hx hb dL_law_930 (by decide) ?_
        exact absurd (Option.some.inj h) (by decide)
      have h := o_t h c290
      refine lv_iload hx hb dL_law_932 (lv_at hl 1 rfl) ?_
      refine lv_if_ne (tgt := 949) hx hb dL_law_934 (by decide) (fun c291 => ?_) (fun c291 => ?_)
      · have h := o_f h c291
        refine lv_goto (tgt := 1335) hx hb dL_law_949 (by decide) ?_
        obtain ⟨x5_292, e293, h⟩ := o_n h
        refine lv_iinc (v := x5_292) (lv' := [(5, .int x5_292), (7, .int x7_286), (6, .int x6_281), (0, .ref bq), (1, .ref (a 0)), (2, .ref (b 0)), (3, .ref (ca 0)), (4, .ref (da 0))]) hx hb dL_law_1335 hl (k := 7) rfl (by rw [e293]; rfl) (by decide) rfl (fun ls hl => ?_)
        refine lv_goto (tgt := 28) hx hb dL_law_1338 (by decide) ?_
        refine W.widen (k := ce + 1) (n := sl + 6) (by omega) (by omega) ?_
        exact ih _ _ _ _ _ h _ _ (by omega) (by omega) _ _ hP hD hS _ (lv_sub hl [3, 4, 5, 6, 7, 0] rfl)
      have h := o_t h c291
      refine lv_aload_n hx hb dL_law_937 rfl (lv_at hl 5 rfl) ?_
      refine lv_iconst (v := (0 : Int32)) hx hb dL_law_938 (by decide) ?_
      refine va_lald hx hb hKL hP 76 2 rfl rfl (by unfold vp_in; decide) dL_law_939 ?_
      refine lv_iload hx hb dL_law_940 (lv_at hl 0 rfl) ?_
      refine lv_i2l hx hb dL_law_942 rfl ?_
      refine W.lcmp hx hb dL_law_943 ?_
      refine lv_if_eq (tgt := 949) hx hb dL_law_944 (by decide) (fun c294 => ?_) (fun c294 => ?_)
      rotate_left
      · have h := o_f h c294
        refine lv_iconst (v := (0 : Int32)) hx hb dL_law_947 (by decide) ?_
        exact absurd (Option.some.inj h) (by decide)
      have h := o_t h c294
      refine lv_goto (tgt := 1335) hx hb dL_law_949 (by decide) ?_
      obtain ⟨x5_295, e296, h⟩ := o_n h
      refine lv_iinc (v := x5_295) (lv' := [(5, .int x5_295), (7, .int x7_286), (6, .int x6_281), (0, .ref bq), (1, .ref (a 0)), (2, .ref (b 0)), (3, .ref (ca 0)), (4, .ref (da 0))]) hx hb dL_law_1335 hl (k := 7) rfl (by rw [e296]; rfl) (by decide) rfl (fun ls hl => ?_)
      refine lv_goto (tgt := 28) hx hb dL_law_1338 (by decide) ?_
      refine W.widen (k := ce + 1) (n := sl + 6) (by omega) (by omega) ?_
      exact ih _ _ _ _ _ h _ _ (by omega) (by omega) _ _ hP hD hS _ (lv_sub hl [3, 4, 5, 6, 7, 0] rfl)
    have h := o_f h c_16
    by_cases c_17 : (xs y5.toNatClampNeg) &&& (31 : Int32) = 17
    · have h := o_t h c_17
      refine k_swIn (v := 17) (off := 908) (tgt := 952) hx hb c_17 dL_law_44 (by decide) (by decide) (by decide +kernel) (by decide) ?_
      refine lv_aload_n hx hb dL_law_952 rfl (lv_at hl 1 rfl) ?_
      refine lv_aload_n hx hb dL_law_953 rfl (lv_at hl 0 rfl) ?_
      refine lv_iload hx hb dL_law_954 (lv_at hl 5 rfl) ?_
      refine lv_iconst (v := (1 : Int32)) hx hb dL_law_956 (by decide) ?_
      refine lv_iadd hx hb dL_law_957 ?_
      obtain ⟨i298, h⟩ := o_in h
      refine va_sld hx hb hX hbl hbA hS i298 dL_law_958 ?_
      refine lv_aload_n hx hb dL_law_959 rfl (lv_at hl 3 rfl) ?_
      obtain ⟨v299, g300, h⟩ := o_b h
      refine k_rwx (vx_runSX (As := [.ref (a 0), .int (xs (y5 + (1 : Int32)).toNatClampNeg), .ref (ca 0)]) (rest := []) ⟨hx, hb, hml, hown, hts⟩ (c_L_setting l hfl dC dI cI cF cL cD a ca S O (xs (y5 + (1 : Int32)).toNatClampNeg) v299 g300 H.size) (vx_cwSW 3 hts gL_law_L_setting rfl rfl rfl (by decide +kernel) ⟨Nat.le_of_ble_eq_true rfl, Nat.le_of_ble_eq_true rfl⟩) (k_preSL hE hN hS hA hKL hP hD (LN_l (LN_two (LN_l (LN_id (fX5 a cI cF S v299.2.1))) (LN_id rfl)))) rfl rfl hl.1 rfl (lv_room (Nat.le_of_ble_eq_true rfl)) dL_law_960 ⟨Nat.le_trans (m := 2000) (by omega) (Nat.le_of_ble_eq_true rfl), Nat.le_trans (m := 20000) (by omega) (Nat.le_of_ble_eq_true rfl)⟩) (st1 := [.int v299.1]) rfl hP hD hS hA (wn := wX5 a cI cF v299.2.1 ++ wX6 b cI cF M ++ wLA ca cL v299.2.2 ++ wDA da cD OD) (LN_l (LN_two (LN_l (LN_id (fX5 a cI cF S v299.2.1))) (LN_id rfl))) (fun H locs hP hD hS => ?_)
      obtain ⟨x6_301, e302, h⟩ := o_n h
      refine lv_nmi e302 ?_
      refine lv_istore (lv' := [(6, .int x6_301), (0, .ref bq), (1, .ref (a 0)), (2, .ref (b 0)), (3, .ref (ca 0)), (4, .ref (da 0)), (5, .int y5)]) hx hb dL_law_963 hl (by decide) rfl (fun ls hl => ?_)
      refine lv_aload_n hx hb dL_law_965 rfl (lv_at hl 3 rfl) ?_
      refine lv_aload_n hx hb dL_law_966 rfl (lv_at hl 1 rfl) ?_
      refine lv_iload hx hb dL_law_967 (lv_at hl 6 rfl) ?_
      refine lv_iconst (v := (1 : Int32)) hx hb dL_law_969 (by decide) ?_
      refine lv_iadd hx hb dL_law_970 ?_
      obtain ⟨i303, h⟩ := o_in h
      refine va_sld hx hb hX hbl hbA hS i303 dL_law_971 ?_
      obtain ⟨v304, g305, h⟩ := o_b h
      refine k_rwL (va_runV (As := [.int (xs (y5 + (1 : Int32)).toNatClampNeg)]) (rest := []) ⟨hx, hb, hml, hown, hts⟩ (c_X6_setting l dC dI cI cF b M (xs (y5 + (1 : Int32)).toNatClampNeg) v304 g305 H.size) (cwV 1 hts gL_law_X6_setting rfl rfl rfl (by decide +kernel) ⟨Nat.le_of_ble_eq_true rfl, Nat.le_of_ble_eq_true rfl⟩) (k_preLw (q0 := 0) (ci := 6) hK hP hD (LN_l (LN_l (LN_r (LN_id (fX6 b cI cF M v304.2))))) rfl rfl rfl) rfl rfl hl.1 rfl (lv_room (Nat.le_of_ble_eq_true rfl)) dL_law_972 ⟨Nat.le_trans (m := 2000) (by omega) (Nat.le_of_ble_eq_true rfl), Nat.le_trans (m := 20000) (by omega) (Nat.le_of_ble_eq_true rfl)⟩) (st1 := [.int v304.1]) rfl hP hD hS hA (wn := wX5 a cI cF v299.2.1 ++ wX6 b cI cF v304.2 ++ wLA ca cL v299.2.2 ++ wDA da cD OD) (LN_l (LN_l (LN_r (LN_id (fX6 b cI cF M v304.2))))) (fun H locs hP hD hS => ?_)
      obtain ⟨x7_306, e307, h⟩ := o_n h
      refine lv_nmi e307 ?_
      refine lv_istore (lv' := [(7, .int x7_306), (6, .int x6_301), (0, .ref bq), (1, .ref (a 0)), (2, .ref (b 0)), (3, .ref (ca 0)), (4, .ref (da 0)), (5, .int y5)]) hx hb dL_law_975 hl (by decide) rfl (fun ls hl => ?_)
      refine lv_aload_n hx hb dL_law_977 rfl (lv_at hl 4 rfl) ?_
      obtain ⟨v308, g309, h⟩ := o_b h
      refine k_ro (va_runV (As := []) (rest := []) ⟨hx, hb, hml, hown, hts⟩ (c_X6_thrown l dC dI cI cF b v304.2  v308 g309) (cwV 0 hts gL_law_X6_thrown rfl rfl rfl (by decide +kernel) ⟨Nat.le_of_ble_eq_true rfl, Nat.le_of_ble_eq_true rfl⟩) (k_preL (q0 := 0) (ci := 6) hK hP (LN_l (LN_l (LN_r (LN_id (fX6 b cI cF v304.2 v304.2))))) rfl rfl rfl) rfl rfl hl.1 rfl (lv_room (Nat.le_of_ble_eq_true rfl)) dL_law_978 ⟨Nat.le_trans (m := 2000) (by omega) (Nat.le_of_ble_eq_true rfl), Nat.le_trans (m := 20000) (by omega) (Nat.le_of_ble_eq_true rfl)⟩) (st1 := [.int v308]) rfl ?_
      refine lv_iload hx hb dL_law_981 (lv_at hl 1 rfl) ?_
      refine lv_icmp_eq (tgt := 988) hx hb dL_law_983 (by decide) (fun c310 => ?_) (fun c310 => ?_)
      rotate_left
      · have h := o_f h c310
        refine lv_iconst (v := (0 : Int32)) hx hb dL_law_986 (by decide) ?_
        exact absurd (Option.some.inj h) (by decide)
      have h := o_t h c310
      refine lv_iload hx hb dL_law_988 (lv_at hl 1 rfl) ?_
      refine lv_if_ne (tgt := 1005) hx hb dL_law_990 (by decide) (fun c311 => ?_) (fun c311 => ?_)
      · have h := o_f h c311
        refine lv_goto (tgt := 1335) hx hb dL_law_1005 (by decide) ?_
        obtain ⟨x5_312, e313, h⟩ := o_n h
        refine lv_iinc (v := x5_312) (lv' := [(5, .int x5_312), (7, .int x7_306), (6, .int x6_301), (0, .ref bq), (1, .ref (a 0)), (2, .ref (b 0)), (3, .ref (ca 0)), (4, .ref (da 0))]) hx hb dL_law_1335 hl (k := 7) rfl (by rw [e313]; rfl) (by decide) rfl (fun ls hl => ?_)
        refine lv_goto (tgt := 28) hx hb dL_law_1338 (by decide) ?_
        refine W.widen (k := ce + 1) (n := sl + 6) (by omega) (by omega) ?_
        exact ih _ _ _ _ _ h _ _ (by omega) (by omega) _ _ hP hD hS _ (lv_sub hl [3, 4, 5, 6, 7, 0] rfl)
      have h := o_t h c311
      refine lv_aload_n hx hb dL_law_993 rfl (lv_at hl 5 rfl) ?_
      refine lv_iconst (v := (0 : Int32)) hx hb dL_law_994 (by decide) ?_
      refine va_lald hx hb hKL hP 76 2 rfl rfl (by unfold vp_in; decide) dL_law_995 ?_
      refine lv_iload hx hb dL_law_996 (lv_at hl 0 rfl) ?_
      refine lv_i2l hx hb dL_law_998 rfl ?_
      refine W.lcmp hx hb dL_law_999 ?_
      refine lv_if_eq (tgt := 1005) hx hb dL_law_1000 (by decide) (fun c314 => ?_) (fun c314 => ?_)
      rotate_left
      · have h := o_f h c314
        refine lv_iconst (v := (0 : Int32)) hx hb dL_law_1003 (by decide) ?_
        exact absurd (Option.some.inj h) (by decide)
      have h := o_t h c314
      refine lv_goto (tgt := 1335) hx hb dL_law_1005 (by decide) ?_
      obtain ⟨x5_315, e316, h⟩ := o_n h
      refine lv_iinc (v := x5_315) (lv' := [(5, .int x5_315), (7, .int x7_306), (6, .int x6_301), (0, .ref bq), (1, .ref (a 0)), (2, .ref (b 0)), (3, .ref (ca 0)), (4, .ref (da 0))]) hx hb dL_law_1335 hl (k := 7) rfl (by rw [e316]; rfl) (by decide) rfl (fun ls hl => ?_)
      refine lv_goto (tgt := 28) hx hb dL_law_1338 (by decide) ?_
      refine W.widen (k := ce + 1) (n := sl + 6) (by omega) (by omega) ?_
      exact ih _ _ _ _ _ h _ _ (by omega) (by omega) _ _ hP hD hS _ (lv_sub hl [3, 4, 5, 6, 7, 0] rfl)
    have h := o_f h c_17
    by_cases c_18 : (xs y5.toNatClampNeg) &&& (31 : Int32) = 18
    · have h := o_t h c_18
      refine k_swIn (v := 18) (off := 964) (tgt := 1008) hx hb c_18 dL_law_44 (by decide) (by decide) (by decide +kernel) (by decide) ?_
      refine lv_aload_n hx hb dL_law_1008 rfl (lv_at hl 1 rfl) ?_
      obtain ⟨v318, g319, h⟩ := o_b h
      refine k_ro (va_runV (As := []) (rest := []) ⟨hx, hb, hml, hown, hts⟩ (c_X5_why l dC dI cI cF a S  v318 g319) (cwV 0 hts gL_law_X5_why rfl rfl rfl (by decide +kernel) ⟨Nat.le_of_ble_eq_true rfl, Nat.le_of_ble_eq_true rfl⟩) (k_preL (q0 := 0) (ci := 5) hK hP (LN_l (LN_l (LN_l (LN_id (fX5 a cI cF S S))))) rfl rfl rfl) rfl rfl hl.1 rfl (lv_room (Nat.le_of_ble_eq_true rfl)) dL_law_1009 ⟨Nat.le_trans (m := 2000) (by omega) (Nat.le_of_ble_eq_true rfl), Nat.le_trans (m := 20000) (by omega) (Nat.le_of_ble_eq_true rfl)⟩) (st1 := [.int v318]) rfl ?_
      refine lv_aload_n hx hb dL_law_1012 rfl (lv_at hl 2 rfl) ?_
      obtain ⟨v320, g321, h⟩ := o_b h
      refine k_rwL (va_runV (As := []) (rest := [.int v318]) ⟨hx, hb, hml, hown, hts⟩ (c_X6_why l dC dI cI cF b M  v320 g321 H.size) (cwV 0 hts gL_law_X6_why rfl rfl rfl (by decide +kernel) ⟨Nat.le_of_ble_eq_true rfl, Nat.le_of_ble_eq_true rfl⟩) (k_preLw (q0 := 0) (ci := 6) hK hP hD (LN_l (LN_l (LN_r (LN_id (fX6 b cI cF M v320.2))))) rfl rfl rfl) rfl rfl hl.1 rfl (lv_room (Nat.le_of_ble_eq_true rfl)) dL_law_1013 ⟨Nat.le_trans (m := 2000) (by omega) (Nat.le_of_ble_eq_true rfl), Nat.le_trans (m := 20000) (by omega) (Nat.le_of_ble_eq_true rfl)⟩) (st1 := [.int v320.1, .int v318]) rfl hP hD hS hA (wn := wX5 a cI cF S ++ wX6 b cI cF v320.2 ++ wLA ca cL O ++ wDA da cD OD) (LN_l (LN_l (LN_r (LN_id (fX6 b cI cF M v320.2))))) (fun H locs hP hD hS => ?_)
      refine lv_icmp_eq (tgt := 1335) hx hb dL_law_1016 (by decide) (fun c322 => ?_) (fun c322 => ?_)
      rotate_left
      · have h := o_f h c322
        refine lv_iconst (v := (0 : Int32)) hx hb dL_law_1019 (by decide) ?_
        exact absurd (Option.some.inj h) (by decide)
      have h := o_t h c322
      obtain ⟨x5_323, e324, h⟩ := o_n h
      refine lv_iinc (v := x5_323) (lv' := [(5, .int x5_323), (0, .ref bq), (1, .ref (a 0)), (2, .ref (b 0)), (3, .ref (ca 0)), (4, .ref (da 0))]) hx hb dL_law_1335 hl (k := 5) rfl (by rw [e324]; rfl) (by decide) rfl (fun ls hl => ?_)
      refine lv_goto (tgt := 28) hx hb dL_law_1338 (by decide) ?_
      refine W.widen (k := ce + 1) (n := sl + 6) (by omega) (by omega) ?_
      exact ih _ _ _ _ _ h _ _ (by omega) (by omega) _ _ hP hD hS _ (lv_sub hl [1, 2, 3, 4, 5, 0] rfl)
    have h := o_f h c_18
    by_cases c_19 : (xs y5.toNatClampNeg) &&& (31 : Int32) = 19
    · have h := o_t h c_19
      refine k_swIn (v := 19) (off := 977) (tgt := 1021) hx hb c_19 dL_law_44 (by decide) (by decide) (by decide +kernel) (by decide) ?_
      refine lv_aload_n hx hb dL_law_1021 rfl (lv_at hl 1 rfl) ?_
      refine lv_aload_n hx hb dL_law_1022 rfl (lv_at hl 0 rfl) ?_
      refine lv_iload hx hb dL_law_1023 (lv_at hl 5 rfl) ?_
      refine lv_iconst (v := (1 : Int32)) hx hb dL_law_1025 (by decide) ?_
      refine lv_iadd hx hb dL_law_1026 ?_
      obtain ⟨i326, h⟩ := o_in h
      refine va_sld hx hb hX hbl hbA hS i326 dL_law_1027 ?_
      refine lv_aload_n hx hb dL_law_1028 rfl (lv_at hl 0 rfl) ?_
      refine lv_iload hx hb dL_law_1029 (lv_at hl 5 rfl) ?_
      refine lv_iconst (v := (2 : Int32)) hx hb dL_law_1031 (by decide) ?_
      refine lv_iadd hx hb dL_law_1032 ?_
      obtain ⟨i327, h⟩ := o_in h
      refine va_sld hx hb hX hbl hbA hS i327 dL_law_1033 ?_
      refine lv_aload_n hx hb dL_law_1034 rfl (lv_at hl 3 rfl) ?_
      obtain ⟨v328, g329, h⟩ := o_b h
      refine k_rwx (vx_runSX (As := [.ref (a 0), .int (xs (y5 + (1 : Int32)).toNatClampNeg), .int (xs (y5 + (2 : Int32)).toNatClampNeg), .ref (ca 0)]) (rest := []) ⟨hx, hb, hml, hown, hts⟩ (c_L_ifRun l hfl dC dI cI cF cL cD a ca S O (xs (y5 + (1 : Int32)).toNatClampNeg) (xs (y5 + (2 : Int32)).toNatClampNeg) v328 g329 H.size) (vx_cwSW 4 hts gL_law_L_ifRun rfl rfl rfl (by decide +kernel) ⟨Nat.le_of_ble_eq_true rfl, Nat.le_of_ble_eq_true rfl⟩) (k_preSL hE hN hS hA hKL hP hD (LN_l (LN_two (LN_l (LN_id (fX5 a cI cF S v328.2.1))) (LN_id rfl)))) rfl rfl hl.1 rfl (lv_room (Nat.le_of_ble_eq_true rfl)) dL_law_1035 ⟨Nat.le_trans (m := 2000) (by omega) (Nat.le_of_ble_eq_true rfl), Nat.le_trans (m := 20000) (by omega) (Nat.le_of_ble_eq_true rfl)⟩) (st1 := [.int v328.1]) rfl hP hD hS hA (wn := wX5 a cI cF v328.2.1 ++ wX6 b cI cF M ++ wLA ca cL v328.2.2 ++ wDA da cD OD) (LN_l (LN_two (LN_l (LN_id (fX5 a cI cF S v328.2.1))) (LN_id rfl))) (fun H locs hP hD hS => ?_)
      obtain ⟨x6_330, e331, h⟩ := o_n h
      refine lv_nmi e331 ?_
      refine lv_istore (lv' := [(6, .int x6_330), (0, .ref bq), (1, .ref (a 0)), (2, .ref (b 0)), (3, .ref (ca 0)), (4, .ref (da 0)), (5, .int y5)]) hx hb dL_law_1038 hl (by decide) rfl (fun ls hl => ?_)
      refine lv_aload_n hx hb dL_law_1040 rfl (lv_at hl 3 rfl) ?_
      refine lv_aload_n hx hb dL_law_1041 rfl (lv_at hl 1 rfl) ?_
      refine lv_iload hx hb dL_law_1042 (lv_at hl 6 rfl) ?_
      refine lv_iconst (v := (1 : Int32)) hx hb dL_law_1044 (by decide) ?_
      refine lv_iadd hx hb dL_law_1045 ?_
      obtain ⟨i332, h⟩ := o_in h
      refine va_sld hx hb hX hbl hbA hS i332 dL_law_1046 ?_
      refine lv_aload_n hx hb dL_law_1047 rfl (lv_at hl 1 rfl) ?_
      refine lv_iload hx hb dL_law_1048 (lv_at hl 6 rfl) ?_
      refine lv_iconst (v := (2 : Int32)) hx hb dL_law_1050 (by decide) ?_
      refine lv_iadd hx hb dL_law_1051 ?_
      obtain ⟨i333, h⟩ := o_in h
      refine va_sld hx hb hX hbl hbA hS i333 dL_law_1052 ?_
      obtain ⟨v334, g335, h⟩ := o_b h
      refine k_rwL (va_runV (As := [.int (xs (y5 + (1 : Int32)).toNatClampNeg), .int (xs (y5 + (2 : Int32)).toNatClampNeg)]) (rest := []) ⟨hx, hb, hml, hown, hts⟩ (c_X6_ifRun l dC dI cI cF b M (xs (y5 + (1 : Int32)).toNatClampNeg) (xs (y5 + (2 : Int32)).toNatClampNeg) v334 g335 H.size) (cwV 2 hts gL_law_X6_ifRun rfl rfl rfl (by decide +kernel) ⟨Nat.le_of_ble_eq_true rfl, Nat.le_of_ble_eq_true rfl⟩) (k_preLw (q0 := 0) (ci := 6) hK hP hD (LN_l (LN_l (LN_r (LN_id (fX6 b cI cF M v334.2))))) rfl rfl rfl) rfl rfl hl.1 rfl (lv_room (Nat.le_of_ble_eq_true rfl)) dL_law_1053 ⟨Nat.le_trans (m := 2000) (by omega) (Nat.le_of_ble_eq_true rfl), Nat.le_trans (m := 20000) (by omega) (Nat.le_of_ble_eq_true rfl)⟩) (st1 := [.int v334.1]) rfl hP hD hS hA (wn := wX5 a cI cF v328.2.1 ++ wX6 b cI cF v334.2 ++ wLA ca cL v328.2.2 ++ wDA da cD OD) (LN_l (LN_l (LN_r (LN_id (fX6 b cI cF M v334.2))))) (fun H locs hP hD hS => ?_)
      obtain ⟨x7_336, e337, h⟩ := o_n h
      refine lv_nmi e337 ?_
      refine lv_istore (lv' := [(7, .int x7_336), (6, .int x6_330), (0, .ref bq), (1, .ref (a 0)), (2, .ref (b 0)), (3, .ref (ca 0)), (4, .ref (da 0)), (5, .int y5)]) hx hb dL_law_1056 hl (by decide) rfl (fun ls hl => ?_)
      refine lv_aload_n hx hb dL_law_1058 rfl (lv_at hl 4 rfl) ?_
      obtain ⟨v338, g339, h⟩ := o_b h
      refine k_ro (va_runV (As := []) (rest := []) ⟨hx, hb, hml, hown, hts⟩ (c_X6_thrown l dC dI cI cF b v334.2  v338 g339) (cwV 0 hts gL_law_X6_thrown rfl rfl rfl (by decide +kernel) ⟨Nat.le_of_ble_eq_true rfl, Nat.le_of_ble_eq_true rfl⟩) (k_preL (q0 := 0) (ci := 6) hK hP (LN_l (LN_l (LN_r (LN_id (fX6 b cI cF v334.2 v334.2))))) rfl rfl rfl) rfl rfl hl.1 rfl (lv_room (Nat.le_of_ble_eq_true rfl)) dL_law_1059 ⟨Nat.le_trans (m := 2000) (by omega) (Nat.le_of_ble_eq_true rfl), Nat.le_trans (m := 20000) (by omega) (Nat.le_of_ble_eq_true rfl)⟩) (st1 := [.int v338]) rfl ?_
      refine lv_iload hx hb dL_law_1062 (lv_at hl 1 rfl) ?_
      refine lv_icmp_eq (tgt := 1069) hx hb dL_law_1064 (by decide) (fun c340 => ?_) (fun c340 => ?_)
      rotate_left
      · have h := o_f h c340
        refine lv_iconst (v := (0 : Int32)) hx hb dL_law_1067 (by decide) ?_
        exact absurd (Option.some.inj h) (by decide)
      have h := o_t h c340
      refine lv_iload hx hb dL_law_1069 (lv_at hl 1 rfl) ?_
      refine lv_if_ne (tgt := 1086) hx hb dL_law_1071 (by decide) (fun c341 => ?_) (fun c341 => ?_)
      · have h := o_f h c341
        refine lv_goto (tgt := 1335) hx hb dL_law_1086 (by decide) ?_
        obtain ⟨x5_342, e343, h⟩ := o_n h
        refine lv_iinc (v := x5_342) (lv' := [(5, .int x5_342), (7, .int x7_336), (6, .int x6_330), (0, .ref bq), (1, .ref (a 0)), (2, .ref (b 0)), (3, .ref (ca 0)), (4, .ref (da 0))]) hx hb dL_law_1335 hl (k := 7) rfl (by rw [e343]; rfl) (by decide) rfl (fun ls hl => ?_)
        refine lv_goto (tgt := 28) hx hb dL_law_1338 (by decide) ?_
        refine W.widen (k := ce + 1) (n := sl + 6) (by omega) (by omega) ?_
        exact ih _ _ _ _ _ h _ _ (by omega) (by omega) _ _ hP hD hS _ (lv_sub hl [3, 4, 5, 6, 7, 0] rfl)
      have h := o_t h c341
      refine lv_aload_n hx hb dL_law_1074 rfl (lv_at hl 5 rfl) ?_
      refine lv_iconst (v := (0 : Int32)) hx hb dL_law_1075 (by decide) ?_
      refine va_lald hx hb hKL hP 76 2 rfl rfl (by unfold vp_in; decide) dL_law_1076 ?_
      refine lv_iload hx hb dL_law_1077 (lv_at hl 0 rfl) ?_
      refine lv_i2l hx hb dL_law_1079 rfl ?_
      refine W.lcmp hx hb dL_law_1080 ?_
      refine lv_if_eq (tgt := 1086) hx hb dL_law_1081 (by decide) (fun c344 => ?_) (fun c344 => ?_)
      rotate_left
      · have h := o_f h c344
        refine lv_iconst (v := (0 : Int32)) hx hb dL_law_1084 (by decide) ?_
        exact absurd (Option.some.inj h) (by decide)
      have h := o_t h c344
      refine lv_goto (tgt := 1335) hx hb dL_law_1086 (by decide) ?_
      obtain ⟨x5_345, e346, h⟩ := o_n h
      refine lv_iinc (v := x5_345) (lv' := [(5, .int x5_345), (7, .int x7_336), (6, .int x6_330), (0, .ref bq), (1, .ref (a 0)), (2, .ref (b 0)), (3, .ref (ca 0)), (4, .ref (da 0))]) hx hb dL_law_1335 hl (k := 7) rfl (by rw [e346]; rfl) (by decide) rfl (fun ls hl => ?_)
      refine lv_goto (tgt := 28) hx hb dL_law_1338 (by decide) ?_
      refine W.widen (k := ce + 1) (n := sl + 6) (by omega) (by omega) ?_
      exact ih _ _ _ _ _ h _ _ (by omega) (by omega) _ _ hP hD hS _ (lv_sub hl [3, 4, 5, 6, 7, 0] rfl)
    have h := o_f h c_19
    by_cases c_20 : (xs y5.toNatClampNeg) &&& (31 : Int32) = 20
    · have h := o_t h c_20
      refine k_swIn (v := 20) (off := 1045) (tgt := 1089) hx hb c_20 dL_law_44 (by decide) (by decide) (by decide +kernel) (by decide) ?_
      refine lv_aload_n hx hb dL_law_1089 rfl (lv_at hl 1 rfl) ?_
      refine lv_aload_n hx hb dL_law_1090 rfl (lv_at hl 0 rfl) ?_
      refine lv_iload hx hb dL_law_1091 (lv_at hl 5 rfl) ?_
      refine lv_iconst (v := (1 : Int32)) hx hb dL_law_1093 (by decide) ?_
      refine lv_iadd hx hb dL_law_1094 ?_
      obtain ⟨i348, h⟩ := o_in h
      refine va_sld hx hb hX hbl hbA hS i348 dL_law_1095 ?_
      refine lv_aload_n hx hb dL_law_1096 rfl (lv_at hl 3 rfl) ?_
      obtain ⟨v349, g350, h⟩ := o_b h
      refine k_rwx (vx_runSX (As := [.ref (a 0), .int (xs (y5 + (1 : Int32)).toNatClampNeg), .ref (ca 0)]) (rest := []) ⟨hx, hb, hml, hown, hts⟩ (c_L_bestLag l hfl dC dI cI cF cL cD a ca S O (xs (y5 + (1 : Int32)).toNatClampNeg) v349 g350 H.size) (vx_cwSW 3 hts gL_law_L_bestLag rfl rfl rfl (by decide +kernel) ⟨Nat.le_of_ble_eq_true rfl, Nat.le_of_ble_eq_true rfl⟩) (k_preSL hE hN hS hA hKL hP hD (LN_l (LN_two (LN_l (LN_id (fX5 a cI cF S v349.2.1))) (LN_id rfl)))) rfl rfl hl.1 rfl (lv_room (Nat.le_of_ble_eq_true rfl)) dL_law_1097 ⟨Nat.le_trans (m := 2000) (by omega) (Nat.le_of_ble_eq_true rfl), Nat.le_trans (m := 20000) (by omega) (Nat.le_of_ble_eq_true rfl)⟩) (st1 := [.int v349.1]) rfl hP hD hS hA (wn := wX5 a cI cF v349.2.1 ++ wX6 b cI cF M ++ wLA ca cL v349.2.2 ++ wDA da cD OD) (LN_l (LN_two (LN_l (LN_id (fX5 a cI cF S v349.2.1))) (LN_id rfl))) (fun H locs hP hD hS => ?_)
      obtain ⟨x6_351, e352, h⟩ := o_n h
      refine lv_nmi e352 ?_
      refine lv_istore (lv' := [(6, .int x6_351), (0, .ref bq), (1, .ref (a 0)), (2, .ref (b 0)), (3, .ref (ca 0)), (4, .ref (da 0)), (5, .int y5)]) hx hb dL_law_1100 hl (by decide) rfl (fun ls hl => ?_)
      refine lv_aload_n hx hb dL_law_1102 rfl (lv_at hl 3 rfl) ?_
      refine lv_aload_n hx hb dL_law_1103 rfl (lv_at hl 1 rfl) ?_
      refine lv_iload hx hb dL_law_1104 (lv_at hl 6 rfl) ?_
      refine lv_iconst (v := (1 : Int32)) hx hb dL_law_1106 (by decide) ?_
      refine lv_iadd hx hb dL_law_1107 ?_
      obtain ⟨i353, h⟩ := o_in h
      refine va_sld hx hb hX hbl hbA hS i353 dL_law_1108 ?_
      obtain ⟨v354, g355, h⟩ := o_b h
      refine k_rwL (va_runV (As := [.int (xs (y5 + (1 : Int32)).toNatClampNeg)]) (rest := []) ⟨hx, hb, hml, hown, hts⟩ (c_X6_bestLag l dC dI cI cF b M (xs (y5 + (1 : Int32)).toNatClampNeg) v354 g355 H.size) (cwV 1 hts gL_law_X6_bestLag rfl rfl rfl (by decide +kernel) ⟨Nat.le_of_ble_eq_true rfl, Nat.le_of_ble_eq_true rfl⟩) (k_preLw (q0 := 0) (ci := 6) hK hP hD (LN_l (LN_l (LN_r (LN_id (fX6 b cI cF M v354.2))))) rfl rfl rfl) rfl rfl hl.1 rfl (lv_room (Nat.le_of_ble_eq_true rfl)) dL_law_1109 ⟨Nat.le_trans (m := 2000) (by omega) (Nat.le_of_ble_eq_true rfl), Nat.le_trans (m := 20000) (by omega) (Nat.le_of_ble_eq_true rfl)⟩) (st1 := [.int v354.1]) rfl hP hD hS hA (wn := wX5 a cI cF v349.2.1 ++ wX6 b cI cF v354.2 ++ wLA ca cL v349.2.2 ++ wDA da cD OD) (LN_l (LN_l (LN_r (LN_id (fX6 b cI cF M v354.2))))) (fun H locs hP hD hS => ?_)
      obtain ⟨x7_356, e357, h⟩ := o_n h
      refine lv_nmi e357 ?_
      refine lv_istore (lv' := [(7, .int x7_356), (6, .int x6_351), (0, .ref bq), (1, .ref (a 0)), (2, .ref (b 0)), (3, .ref (ca 0)), (4, .ref (da 0)), (5, .int y5)]) hx hb dL_law_1112 hl (by decide) rfl (fun ls hl => ?_)
      refine lv_aload_n hx hb dL_law_1114 rfl (lv_at hl 4 rfl) ?_
      obtain ⟨v358, g359, h⟩ := o_b h
      refine k_ro (va_runV (As := []) (rest := []) ⟨hx, hb, hml, hown, hts⟩ (c_X6_thrown l dC dI cI cF b v354.2  v358 g359) (cwV 0 hts gL_law_X6_thrown rfl rfl rfl (by decide +kernel) ⟨Nat.le_of_ble_eq_true rfl, Nat.le_of_ble_eq_true rfl⟩) (k_preL (q0 := 0) (ci := 6) hK hP (LN_l (LN_l (LN_r (LN_id (fX6 b cI cF v354.2 v354.2))))) rfl rfl rfl) rfl rfl hl.1 rfl (lv_room (Nat.le_of_ble_eq_true rfl)) dL_law_1115 ⟨Nat.le_trans (m := 2000) (by omega) (Nat.le_of_ble_eq_true rfl), Nat.le_trans (m := 20000) (by omega) (Nat.le_of_ble_eq_true rfl)⟩) (st1 := [.int v358]) rfl ?_
      refine lv_iload hx hb dL_law_1118 (lv_at hl 1 rfl) ?_
      refine lv_icmp_eq (tgt := 1125) hx hb dL_law_1120 (by decide) (fun c360 => ?_) (fun c360 => ?_)
      rotate_left
      · have h := o_f h c360
        refine lv_iconst (v := (0 : Int32)) hx hb dL_law_1123 (by decide) ?_
        exact absurd (Option.some.inj h) (by decide)
      have h := o_t h c360
      refine lv_iload hx hb dL_law_1125 (lv_at hl 1 rfl) ?_
      refine lv_if_ne (tgt := 1142) hx hb dL_law_1127 (by decide) (fun c361 => ?_) (fun c361 => ?_)
      · have h := o_f h c361
        refine lv_goto (tgt := 1335) hx hb dL_law_1142 (by decide) ?_
        obtain ⟨x5_362, e363, h⟩ := o_n h
        refine lv_iinc (v := x5_362) (lv' := [(5, .int x5_362), (7, .int x7_356), (6, .int x6_351), (0, .ref bq), (1, .ref (a 0)), (2, .ref (b 0)), (3, .ref (ca 0)), (4, .ref (da 0))]) hx hb dL_law_1335 hl (k := 7) rfl (by rw [e363]; rfl) (by decide) rfl (fun ls hl => ?_)
        refine lv_goto (tgt := 28) hx hb dL_law_1338 (by decide) ?_
        refine W.widen (k := ce + 1) (n := sl + 6) (by omega) (by omega) ?_
        exact ih _ _ _ _ _ h _ _ (by omega) (by omega) _ _ hP hD hS _ (lv_sub hl [3, 4, 5, 6, 7, 0] rfl)
      have h := o_t h c361
      refine lv_aload_n hx hb dL_law_1130 rfl (lv_at hl 5 rfl) ?_
      refine lv_iconst (v := (0 : Int32)) hx hb dL_law_1131 (by decide) ?_
      refine va_lald hx hb hKL hP 76 2 rfl rfl (by unfold vp_in; decide) dL_law_1132 ?_
      refine lv_iload hx hb dL_law_1133 (lv_at hl 0 rfl) ?_
      refine lv_i2l hx hb dL_law_1135 rfl ?_
      refine W.lcmp hx hb dL_law_1136 ?_
      refine lv_if_eq (tgt := 1142) hx hb dL_law_1137 (by decide) (fun c364 => ?_) (fun c364 => ?_)
      rotate_left
      · have h := o_f h c364
        refine lv_iconst (v := (0 : Int32)) hx hb dL_law_1140 (by decide) ?_
        exact absurd (Option.some.inj h) (by decide)
      have h := o_t h c364
      refine lv_goto (tgt := 1335) hx hb dL_law_1142 (by decide) ?_
      obtain ⟨x5_365, e366, h⟩ := o_n h
      refine lv_iinc (v := x5_365) (lv' := [(5, .int x5_365), (7, .int x7_356), (6, .int x6_351), (0, .ref bq), (1, .ref (a 0)), (2, .ref (b 0)), (3, .ref (ca 0)), (4, .ref (da 0))]) hx hb dL_law_1335 hl (k := 7) rfl (by rw [e366]; rfl) (by decide) rfl (fun ls hl => ?_)
      refine lv_goto (tgt := 28) hx hb dL_law_1338 (by decide) ?_
      refine W.widen (k := ce + 1) (n := sl + 6) (by omega) (by omega) ?_
      exact ih _ _ _ _ _ h _ _ (by omega) (by omega) _ _ hP hD hS _ (lv_sub hl [3, 4, 5, 6, 7, 0] rfl)
    have h := o_f h c_20
    by_cases c_21 : (xs y5.toNatClampNeg) &&& (31 : Int32) = 21
    · have h := o_t h c_21
      refine k_swIn (v := 21) (off := 1101) (tgt := 1145) hx hb c_21 dL_law_44 (by decide) (by decide) (by decide +kernel) (by decide) ?_
      refine lv_aload_n hx hb dL_law_1145 rfl (lv_at hl 1 rfl) ?_
      refine lv_aload_n hx hb dL_law_1146 rfl (lv_at hl 0 rfl) ?_
      refine lv_iload hx hb dL_law_1147 (lv_at hl 5 rfl) ?_
      refine lv_iconst (v := (1 : Int32)) hx hb dL_law_1149 (by decide) ?_
      refine lv_iadd hx hb dL_law_1150 ?_
      obtain ⟨i368, h⟩ := o_in h
      refine va_sld hx hb hX hbl hbA hS i368 dL_law_1151 ?_
      refine lv_aload_n hx hb dL_law_1152 rfl (lv_at hl 3 rfl) ?_
      obtain ⟨v369, g370, h⟩ := o_b h
      refine k_rwx (vx_runSX (As := [.ref (a 0), .int (xs (y5 + (1 : Int32)).toNatClampNeg), .ref (ca 0)]) (rest := []) ⟨hx, hb, hml, hown, hts⟩ (c_L_bestFeed l hfl dC dI cI cF cL cD a ca S O (xs (y5 + (1 : Int32)).toNatClampNeg) v369 g370 H.size) (vx_cwSW 3 hts gL_law_L_bestFeed rfl rfl rfl (by decide +kernel) ⟨Nat.le_of_ble_eq_true rfl, Nat.le_of_ble_eq_true rfl⟩) (k_preSL hE hN hS hA hKL hP hD (LN_l (LN_two (LN_l (LN_id (fX5 a cI cF S v369.2.1))) (LN_id rfl)))) rfl rfl hl.1 rfl (lv_room (Nat.le_of_ble_eq_true rfl)) dL_law_1153 ⟨Nat.le_trans (m := 2000) (by omega) (Nat.le_of_ble_eq_true rfl), Nat.le_trans (m := 20000) (by omega) (Nat.le_of_ble_eq_true rfl)⟩) (st1 := [.int v369.1]) rfl hP hD hS hA (wn := wX5 a cI cF v369.2.1 ++ wX6 b cI cF M ++ wLA ca cL v369.2.2 ++ wDA da cD OD) (LN_l (LN_two (LN_l (LN_id (fX5 a cI cF S v369.2.1))) (LN_id rfl))) (fun H locs hP hD hS => ?_)
      obtain ⟨x6_371, e372, h⟩ := o_n h
      refine lv_nmi e372 ?_
      refine lv_istore (lv' := [(6, .int x6_371), (0, .ref bq), (1, .ref (a 0)), (2, .ref (b 0)), (3, .ref (ca 0)), (4, .ref (da 0)), (5, .int y5)]) hx hb dL_law_1156 hl (by decide) rfl (fun ls hl => ?_)
      refine lv_aload_n hx hb dL_law_1158 rfl (lv_at hl 3 rfl) ?_
      refine lv_aload_n hx hb dL_law_1159 rfl (lv_at hl 1 rfl) ?_
      refine lv_iload hx hb dL_law_1160 (lv_at hl 6 rfl) ?_
      refine lv_iconst (v := (1 : Int32)) hx hb dL_law_1162 (by decide) ?_
      refine lv_iadd hx hb dL_law_1163 ?_
      obtain ⟨i373, h⟩ := o_in h
      refine va_sld hx hb hX hbl hbA hS i373 dL_law_1164 ?_
      obtain ⟨v374, g375, h⟩ := o_b h
      refine k_rwL (va_runV (As := [.int (xs (y5 + (1 : Int32)).toNatClampNeg)]) (rest := []) ⟨hx, hb, hml, hown, hts⟩ (c_X6_bestFeed l dC dI cI cF b M (xs (y5 + (1 : Int32)).toNatClampNeg) v374 g375 H.size) (cwV 1 hts gL_law_X6_bestFeed rfl rfl rfl (by decide +kernel) ⟨Nat.le_of_ble_eq_true rfl, Nat.le_of_ble_eq_true rfl⟩) (k_preLw (q0 := 0) (ci := 6) hK hP hD (LN_l (LN_l (LN_r (LN_id (fX6 b cI cF M v374.2))))) rfl rfl rfl) rfl rfl hl.1 rfl (lv_room (Nat.le_of_ble_eq_true rfl)) dL_law_1165 ⟨Nat.le_trans (m := 2000) (by omega) (Nat.le_of_ble_eq_true rfl), Nat.le_trans (m := 20000) (by omega) (Nat.le_of_ble_eq_true rfl)⟩) (st1 := [.int v374.1]) rfl hP hD hS hA (wn := wX5 a cI cF v369.2.1 ++ wX6 b cI cF v374.2 ++ wLA ca cL v369.2.2 ++ wDA da cD OD) (LN_l (LN_l (LN_r (LN_id (fX6 b cI cF M v374.2))))) (fun H locs hP hD hS => ?_)
      obtain ⟨x7_376, e377, h⟩ := o_n h
      refine lv_nmi e377 ?_
      refine lv_istore (lv' := [(7, .int x7_376), (6, .int x6_371), (0, .ref bq), (1, .ref (a 0)), (2, .ref (b 0)), (3, .ref (ca 0)), (4, .ref (da 0)), (5, .int y5)]) hx hb dL_law_1168 hl (by decide) rfl (fun ls hl => ?_)
      refine lv_aload_n hx hb dL_law_1170 rfl (lv_at hl 4 rfl) ?_
      obtain ⟨v378, g379, h⟩ := o_b h
      refine k_ro (va_runV (As := []) (rest := []) ⟨hx, hb, hml, hown, hts⟩ (c_X6_thrown l dC dI cI cF b v374.2  v378 g379) (cwV 0 hts gL_law_X6_thrown rfl rfl rfl (by decide +kernel) ⟨Nat.le_of_ble_eq_true rfl, Nat.le_of_ble_eq_true rfl⟩) (k_preL (q0 := 0) (ci := 6) hK hP (LN_l (LN_l (LN_r (LN_id (fX6 b cI cF v374.2 v374.2))))) rfl rfl rfl) rfl rfl hl.1 rfl (lv_room (Nat.le_of_ble_eq_true rfl)) dL_law_1171 ⟨Nat.le_trans (m := 2000) (by omega) (Nat.le_of_ble_eq_true rfl), Nat.le_trans (m := 20000) (by omega) (Nat.le_of_ble_eq_true rfl)⟩) (st1 := [.int v378]) rfl ?_
      refine lv_iload hx hb dL_law_1174 (lv_at hl 1 rfl) ?_
      refine lv_icmp_eq (tgt := 1181) hx hb dL_law_1176 (by decide) (fun c380 => ?_) (fun c380 => ?_)
      rotate_left
      · have h := o_f h c380
        refine lv_iconst (v := (0 : Int32)) hx hb dL_law_1179 (by decide) ?_
        exact absurd (Option.some.inj h) (by decide)
      have h := o_t h c380
      refine lv_iload hx hb dL_law_1181 (lv_at hl 1 rfl) ?_
      refine lv_if_ne (tgt := 1198) hx hb dL_law_1183 (by decide) (fun c381 => ?_) (fun c381 => ?_)
      · have h := o_f h c381
        refine lv_goto (tgt := 1335) hx hb dL_law_1198 (by decide) ?_
        obtain ⟨x5_382, e383, h⟩ := o_n h
        refine lv_iinc (v := x5_382) (lv' := [(5, .int x5_382), (7, .int x7_376), (6, .int x6_371), (0, .ref bq), (1, .ref (a 0)), (2, .ref (b 0)), (3, .ref (ca 0)), (4, .ref (da 0))]) hx hb dL_law_1335 hl (k := 7) rfl (by rw [e383]; rfl) (by decide) rfl (fun ls hl => ?_)
        refine lv_goto (tgt := 28) hx hb dL_law_1338 (by decide) ?_
        refine W.widen (k := ce + 1) (n := sl + 6) (by omega) (by omega) ?_
        exact ih _ _ _ _ _ h _ _ (by omega) (by omega) _ _ hP hD hS _ (lv_sub hl [3, 4, 5, 6, 7, 0] rfl)
      have h := o_t h c381
      refine lv_aload_n hx hb dL_law_1186 rfl (lv_at hl 5 rfl) ?_
      refine lv_iconst (v := (0 : Int32)) hx hb dL_law_1187 (by decide) ?_
      refine va_lald hx hb hKL hP 76 2 rfl rfl (by unfold vp_in; decide) dL_law_1188 ?_
      refine lv_iload hx hb dL_law_1189 (lv_at hl 0 rfl) ?_
      refine lv_i2l hx hb dL_law_1191 rfl ?_
      refine W.lcmp hx hb dL_law_1192 ?_
      refine lv_if_eq (tgt := 1198) hx hb dL_law_1193 (by decide) (fun c384 => ?_) (fun c384 => ?_)
      rotate_left
      · have h := o_f h c384
        refine lv_iconst (v := (0 : Int32)) hx hb dL_law_1196 (by decide) ?_
        exact absurd (Option.some.inj h) (by decide)
      have h := o_t h c384
      refine lv_goto (tgt := 1335) hx hb dL_law_1198 (by decide) ?_
      obtain ⟨x5_385, e386, h⟩ := o_n h
      refine lv_iinc (v := x5_385) (lv' := [(5, .int x5_385), (7, .int x7_376), (6, .int x6_371), (0, .ref bq), (1, .ref (a 0)), (2, .ref (b 0)), (3, .ref (ca 0)), (4, .ref (da 0))]) hx hb dL_law_1335 hl (k := 7) rfl (by rw [e386]; rfl) (by decide) rfl (fun ls hl => ?_)
      refine lv_goto (tgt := 28) hx hb dL_law_1338 (by decide) ?_
      refine W.widen (k := ce + 1) (n := sl + 6) (by omega) (by omega) ?_
      exact ih _ _ _ _ _ h _ _ (by omega) (by omega) _ _ hP hD hS _ (lv_sub hl [3, 4, 5, 6, 7, 0] rfl)
    have h := o_f h c_21
    by_cases c_22 : (xs y5.toNatClampNeg) &&& (31 : Int32) = 22
    · have h := o_t h c_22
      refine k_swIn (v := 22) (off := 1157) (tgt := 1201) hx hb c_22 dL_law_44 (by decide) (by decide) (by decide +kernel) (by decide) ?_
      refine lv_aload_n hx hb dL_law_1201 rfl (lv_at hl 1 rfl) ?_
      refine lv_aload_n hx hb dL_law_1202 rfl (lv_at hl 0 rfl) ?_
      refine lv_iload hx hb dL_law_1203 (lv_at hl 5 rfl) ?_
      refine lv_iconst (v := (1 : Int32)) hx hb dL_law_1205 (by decide) ?_
      refine lv_iadd hx hb dL_law_1206 ?_
      obtain ⟨i388, h⟩ := o_in h
      refine va_sld hx hb hX hbl hbA hS i388 dL_law_1207 ?_
      refine lv_aload hx hb dL_law_1208 (lv_at hl 4 rfl) ?_
      obtain ⟨v389, g390, h⟩ := o_b h
      refine k_rwx (vx_runSX (As := [.ref (a 0), .int (xs (y5 + (1 : Int32)).toNatClampNeg), .ref (da 0)]) (rest := []) ⟨hx, hb, hml, hown, hts⟩ (c_L_mean l hfl dC dI cI cF cL cD a da S OD (xs (y5 + (1 : Int32)).toNatClampNeg) v389 g390 H.size) (vx_cwSW 3 hts gL_law_L_mean rfl rfl rfl (by decide +kernel) ⟨Nat.le_of_ble_eq_true rfl, Nat.le_of_ble_eq_true rfl⟩) (k_preSL hE hN hS hA hKL hP hD (LN_two (LN_l (LN_l (LN_id (fX5 a cI cF S v389.2.1)))) (LN_id rfl))) rfl rfl hl.1 rfl (lv_room (Nat.le_of_ble_eq_true rfl)) dL_law_1210 ⟨Nat.le_trans (m := 2000) (by omega) (Nat.le_of_ble_eq_true rfl), Nat.le_trans (m := 20000) (by omega) (Nat.le_of_ble_eq_true rfl)⟩) (st1 := [.int v389.1]) rfl hP hD hS hA (wn := wX5 a cI cF v389.2.1 ++ wX6 b cI cF M ++ wLA ca cL O ++ wDA da cD v389.2.2) (LN_two (LN_l (LN_l (LN_id (fX5 a cI cF S v389.2.1)))) (LN_id rfl)) (fun H locs hP hD hS => ?_)
      obtain ⟨x6_391, e392, h⟩ := o_n h
      refine lv_nmi e392 ?_
      refine lv_istore (lv' := [(6, .int x6_391), (0, .ref bq), (1, .ref (a 0)), (2, .ref (b 0)), (3, .ref (ca 0)), (4, .ref (da 0)), (5, .int y5)]) hx hb dL_law_1213 hl (by decide) rfl (fun ls hl => ?_)
      refine lv_aload_n hx hb dL_law_1215 rfl (lv_at hl 3 rfl) ?_
      refine lv_aload_n hx hb dL_law_1216 rfl (lv_at hl 1 rfl) ?_
      refine lv_iload hx hb dL_law_1217 (lv_at hl 6 rfl) ?_
      refine lv_iconst (v := (1 : Int32)) hx hb dL_law_1219 (by decide) ?_
      refine lv_iadd hx hb dL_law_1220 ?_
      obtain ⟨i393, h⟩ := o_in h
      refine va_sld hx hb hX hbl hbA hS i393 dL_law_1221 ?_
      obtain ⟨v394, g395, h⟩ := o_b h
      refine k_rwL (va_runV (As := [.int (xs (y5 + (1 : Int32)).toNatClampNeg)]) (rest := []) ⟨hx, hb, hml, hown, hts⟩ (c_X6_mean l dC dI cI cF b M (xs (y5 + (1 : Int32)).toNatClampNeg) v394 g395 H.size) (cwV 1 hts gL_law_X6_mean rfl rfl rfl (by decide +kernel) ⟨Nat.le_of_ble_eq_true rfl, Nat.le_of_ble_eq_true rfl⟩) (k_preLw (q0 := 0) (ci := 6) hK hP hD (LN_l (LN_l (LN_r (LN_id (fX6 b cI cF M v394.2))))) rfl rfl rfl) rfl rfl hl.1 rfl (lv_room (Nat.le_of_ble_eq_true rfl)) dL_law_1222 ⟨Nat.le_trans (m := 2000) (by omega) (Nat.le_of_ble_eq_true rfl), Nat.le_trans (m := 20000) (by omega) (Nat.le_of_ble_eq_true rfl)⟩) (st1 := [.double v394.1]) rfl hP hD hS hA (wn := wX5 a cI cF v389.2.1 ++ wX6 b cI cF v394.2 ++ wLA ca cL O ++ wDA da cD v389.2.2) (LN_l (LN_l (LN_r (LN_id (fX6 b cI cF M v394.2))))) (fun H locs hP hD hS => ?_)
      obtain ⟨x7_396, e397, h⟩ := o_n h
      refine lv_nmd e397 ?_
      refine lv_dstore (lv' := [(7, .double x7_396), (6, .int x6_391), (0, .ref bq), (1, .ref (a 0)), (2, .ref (b 0)), (3, .ref (ca 0)), (4, .ref (da 0)), (5, .int y5)]) hx hb dL_law_1225 hl (by decide) rfl (fun ls hl => ?_)
      refine lv_aload_n hx hb dL_law_1227 rfl (lv_at hl 4 rfl) ?_
      obtain ⟨v398, g399, h⟩ := o_b h
      refine k_ro (va_runV (As := []) (rest := []) ⟨hx, hb, hml, hown, hts⟩ (c_X6_thrown l dC dI cI cF b v394.2  v398 g399) (cwV 0 hts gL_law_X6_thrown rfl rfl rfl (by decide +kernel) ⟨Nat.le_of_ble_eq_true rfl, Nat.le_of_ble_eq_true rfl⟩) (k_preL (q0 := 0) (ci := 6) hK hP (LN_l (LN_l (LN_r (LN_id (fX6 b cI cF v394.2 v394.2))))) rfl rfl rfl) rfl rfl hl.1 rfl (lv_room (Nat.le_of_ble_eq_true rfl)) dL_law_1228 ⟨Nat.le_trans (m := 2000) (by omega) (Nat.le_of_ble_eq_true rfl), Nat.le_trans (m := 20000) (by omega) (Nat.le_of_ble_eq_true rfl)⟩) (st1 := [.int v398]) rfl ?_
      refine lv_iload hx hb dL_law_1231 (lv_at hl 1 rfl) ?_
      refine lv_icmp_eq (tgt := 1238) hx hb dL_law_1233 (by decide) (fun c400 => ?_) (fun c400 => ?_)
      rotate_left
      · have h := o_f h c400
        refine lv_iconst (v := (0 : Int32)) hx hb dL_law_1236 (by decide) ?_
        exact absurd (Option.some.inj h) (by decide)
      have h := o_t h c400
      refine lv_iload hx hb dL_law_1238 (lv_at hl 1 rfl) ?_
      refine lv_if_ne (tgt := 1275) hx hb dL_law_1240 (by decide) (fun c401 => ?_) (fun c401 => ?_)
      · have h := o_f h c401
        refine lv_goto (tgt := 1335) hx hb dL_law_1275 (by decide) ?_
        obtain ⟨x5_402, e403, h⟩ := o_n h
        refine lv_iinc (v := x5_402) (lv' := [(5, .int x5_402), (7, .double x7_396), (6, .int x6_391), (0, .ref bq), (1, .ref (a 0)), (2, .ref (b 0)), (3, .ref (ca 0)), (4, .ref (da 0))]) hx hb dL_law_1335 hl (k := 7) rfl (by rw [e403]; rfl) (by decide) rfl (fun ls hl => ?_)
        refine lv_goto (tgt := 28) hx hb dL_law_1338 (by decide) ?_
        refine W.widen (k := ce + 1) (n := sl + 6) (by omega) (by omega) ?_
        exact ih _ _ _ _ _ h _ _ (by omega) (by omega) _ _ hP hD hS _ (lv_sub hl [3, 4, 5, 6, 7, 0] rfl)
      have h := o_t h c401
      refine lv_aload hx hb dL_law_1243 (lv_at hl 6 rfl) ?_
      refine lv_iconst (v := (0 : Int32)) hx hb dL_law_1245 (by decide) ?_
      refine va_dald hx hb hKL hP 77 3 rfl rfl (by unfold vp_in; decide) dL_law_1246 ?_
      refine lv_dload hx hb dL_law_1247 (lv_at hl 0 rfl) ?_
      refine lv_dcmp hx hb dL_law_1249 ?_
      refine lv_if_eq (tgt := 1275) hx hb dL_law_1250 (by decide) (fun c404 => ?_) (fun c404 => ?_)
      · have h := o_t h c404
        refine lv_goto (tgt := 1335) hx hb dL_law_1275 (by decide) ?_
        obtain ⟨x5_405, e406, h⟩ := o_n h
        refine lv_iinc (v := x5_405) (lv' := [(5, .int x5_405), (7, .double x7_396), (6, .int x6_391), (0, .ref bq), (1, .ref (a 0)), (2, .ref (b 0)), (3, .ref (ca 0)), (4, .ref (da 0))]) hx hb dL_law_1335 hl (k := 7) rfl (by rw [e406]; rfl) (by decide) rfl (fun ls hl => ?_)
        refine lv_goto (tgt := 28) hx hb dL_law_1338 (by decide) ?_
        refine W.widen (k := ce + 1) (n := sl + 6) (by omega) (by omega) ?_
        exact ih _ _ _ _ _ h _ _ (by omega) (by omega) _ _ hP hD hS _ (lv_sub hl [3, 4, 5, 6, 7, 0] rfl)
      have h := o_f h c404
      refine lv_aload hx hb dL_law_1253 (lv_at hl 6 rfl) ?_
      refine lv_iconst (v := (0 : Int32)) hx hb dL_law_1255 (by decide) ?_
      refine va_dald hx hb hKL hP 77 3 rfl rfl (by unfold vp_in; decide) dL_law_1256 ?_
      refine lv_aload hx hb dL_law_1257 (lv_at hl 6 rfl) ?_
      refine lv_iconst (v := (0 : Int32)) hx hb dL_law_1259 (by decide) ?_
      refine va_dald hx hb hKL hP 77 3 rfl rfl (by unfold vp_in; decide) dL_law_1260 ?_
      refine lv_dcmp hx hb dL_law_1261 ?_
      refine lv_if_eq (tgt := 1273) hx hb dL_law_1262 (by decide) (fun c407 => ?_) (fun c407 => ?_)
      · have h := o_t h c407
        refine lv_iconst (v := (0 : Int32)) hx hb dL_law_1273 (by decide) ?_
        exact absurd (Option.some.inj h) (by decide)
      have h := o_f h c407
      refine lv_dload hx hb dL_law_1265 (lv_at hl 0 rfl) ?_
      refine lv_dload hx hb dL_law_1267 (lv_at hl 0 rfl) ?_
      refine lv_dcmp hx hb dL_law_1269 ?_
      refine lv_if_ne (tgt := 1275) hx hb dL_law_1270 (by decide) (fun c408 => ?_) (fun c408 => ?_)
      rotate_left
      · have h := o_t h c408
        refine lv_iconst (v := (0 : Int32)) hx hb dL_law_1273 (by decide) ?_
        exact absurd (Option.some.inj h) (by decide)
      have h := o_f h c408
      refine lv_goto (tgt := 1335) hx hb dL_law_1275 (by decide) ?_
      obtain ⟨x5_409, e410, h⟩ := o_n h
      refine lv_iinc (v := x5_409) (lv' := [(5, .int x5_409), (7, .double x7_396), (6, .int x6_391), (0, .ref bq), (1, .ref (a 0)), (2, .ref (b 0)), (3, .ref (ca 0)), (4, .ref (da 0))]) hx hb dL_law_1335 hl (k := 7) rfl (by rw [e410]; rfl) (by decide) rfl (fun ls hl => ?_)
      refine lv_goto (tgt := 28) hx hb dL_law_1338 (by decide) ?_
      refine W.widen (k := ce + 1) (n := sl + 6) (by omega) (by omega) ?_
      exact ih _ _ _ _ _ h _ _ (by omega) (by omega) _ _ hP hD hS _ (lv_sub hl [3, 4, 5, 6, 7, 0] rfl)
    have h := o_f h c_22
    by_cases c_23 : (xs y5.toNatClampNeg) &&& (31 : Int32) = 23
    · have h := o_t h c_23
      refine k_swIn (v := 23) (off := 1234) (tgt := 1278) hx hb c_23 dL_law_44 (by decide) (by decide) (by decide +kernel) (by decide) ?_
      refine lv_aload_n hx hb dL_law_1278 rfl (lv_at hl 1 rfl) ?_
      obtain ⟨v412, g413, h⟩ := o_b h
      refine k_ro (va_runV (As := []) (rest := []) ⟨hx, hb, hml, hown, hts⟩ (c_X5_wasteShare l dC dI cI cF a S  v412 g413) (cwV 0 hts gL_law_X5_wasteShare rfl rfl rfl (by decide +kernel) ⟨Nat.le_of_ble_eq_true rfl, Nat.le_of_ble_eq_true rfl⟩) (k_preL (q0 := 0) (ci := 5) hK hP (LN_l (LN_l (LN_l (LN_id (fX5 a cI cF S S))))) rfl rfl rfl) rfl rfl hl.1 rfl (lv_room (Nat.le_of_ble_eq_true rfl)) dL_law_1279 ⟨Nat.le_trans (m := 2000) (by omega) (Nat.le_of_ble_eq_true rfl), Nat.le_trans (m := 20000) (by omega) (Nat.le_of_ble_eq_true rfl)⟩) (st1 := [.float v412]) rfl ?_
      obtain ⟨i414, h⟩ := o_ok h
      refine lv_f2d hx hb dL_law_1282 i414 ?_
      obtain ⟨x6_415, e416, h⟩ := o_n h
      refine lv_nmd e416 ?_
      refine lv_dstore (lv' := [(6, .double x6_415), (0, .ref bq), (1, .ref (a 0)), (2, .ref (b 0)), (3, .ref (ca 0)), (4, .ref (da 0)), (5, .int y5)]) hx hb dL_law_1283 hl (by decide) rfl (fun ls hl => ?_)
      refine lv_aload_n hx hb dL_law_1285 rfl (lv_at hl 3 rfl) ?_
      obtain ⟨v417, g418, h⟩ := o_b h
      refine k_rwL (va_runV (As := []) (rest := []) ⟨hx, hb, hml, hown, hts⟩ (c_X6_wasteShare l dC dI cI cF b M  v417 g418 H.size) (cwV 0 hts gL_law_X6_wasteShare rfl rfl rfl (by decide +kernel) ⟨Nat.le_of_ble_eq_true rfl, Nat.le_of_ble_eq_true rfl⟩) (k_preLw (q0 := 0) (ci := 6) hK hP hD (LN_l (LN_l (LN_r (LN_id (fX6 b cI cF M v417.2))))) rfl rfl rfl) rfl rfl hl.1 rfl (lv_room (Nat.le_of_ble_eq_true rfl)) dL_law_1286 ⟨Nat.le_trans (m := 2000) (by omega) (Nat.le_of_ble_eq_true rfl), Nat.le_trans (m := 20000) (by omega) (Nat.le_of_ble_eq_true rfl)⟩) (st1 := [.float v417.1]) rfl hP hD hS hA (wn := wX5 a cI cF S ++ wX6 b cI cF v417.2 ++ wLA ca cL O ++ wDA da cD OD) (LN_l (LN_l (LN_r (LN_id (fX6 b cI cF M v417.2))))) (fun H locs hP hD hS => ?_)
      obtain ⟨i419, h⟩ := o_ok h
      refine lv_f2d hx hb dL_law_1289 i419 ?_
      obtain ⟨x8_420, e421, h⟩ := o_n h
      refine lv_nmd e421 ?_
      refine lv_dstore (lv' := [(8, .double x8_420), (6, .double x6_415), (0, .ref bq), (1, .ref (a 0)), (2, .ref (b 0)), (3, .ref (ca 0)), (4, .ref (da 0)), (5, .int y5)]) hx hb dL_law_1290 hl (by decide) rfl (fun ls hl => ?_)
      refine lv_dload hx hb dL_law_1292 (lv_at hl 1 rfl) ?_
      refine lv_dload hx hb dL_law_1294 (lv_at hl 0 rfl) ?_
      refine lv_dcmp hx hb dL_law_1296 ?_
      refine lv_if_eq (tgt := 1318) hx hb dL_law_1297 (by decide) (fun c422 => ?_) (fun c422 => ?_)
      · have h := o_t h c422
        refine lv_goto (tgt := 1335) hx hb dL_law_1318 (by decide) ?_
        obtain ⟨x5_423, e424, h⟩ := o_n h
        refine lv_iinc (v := x5_423) (lv' := [(5, .int x5_423), (8, .double x8_420), (6, .double x6_415), (0, .ref bq), (1, .ref (a 0)), (2, .ref (b 0)), (3, .ref (ca 0)), (4, .ref (da 0))]) hx hb dL_law_1335 hl (k := 7) rfl (by rw [e424]; rfl) (by decide) rfl (fun ls hl => ?_)
        refine lv_goto (tgt := 28) hx hb dL_law_1338 (by decide) ?_
        refine W.widen (k := ce + 1) (n := sl + 6) (by omega) (by omega) ?_
        exact ih _ _ _ _ _ h _ _ (by omega) (by omega) _ _ hP hD hS _ (lv_sub hl [3, 4, 5, 6, 7, 0] rfl)
      have h := o_f h c422
      refine lv_dload hx hb dL_law_1300 (lv_at hl 1 rfl) ?_
      refine lv_dload hx hb dL_law_1302 (lv_at hl 1 rfl) ?_
      refine lv_dcmp hx hb dL_law_1304 ?_
      refine lv_if_eq (tgt := 1316) hx hb dL_law_1305 (by decide) (fun c425 => ?_) (fun c425 => ?_)
      · have h := o_t h c425
        refine lv_iconst (v := (0 : Int32)) hx hb dL_law_1316 (by decide) ?_
        exact absurd (Option.some.inj h) (by decide)
      have h := o_f h c425
      refine lv_dload hx hb dL_law_1308 (lv_at hl 0 rfl) ?_
      refine lv_dload hx hb dL_law_1310 (lv_at hl 0 rfl) ?_
      refine lv_dcmp hx hb dL_law_1312 ?_
      refine lv_if_ne (tgt := 1318) hx hb dL_law_1313 (by decide) (fun c426 => ?_) (fun c426 => ?_)
      rotate_left
      · have h := o_t h c426
        refine lv_iconst (v := (0 : Int32)) hx hb dL_law_1316 (by decide) ?_
        exact absurd (Option.some.inj h) (by decide)
      have h := o_f h c426
      refine lv_goto (tgt := 1335) hx hb dL_law_1318 (by decide) ?_
      obtain ⟨x5_427, e428, h⟩ := o_n h
      refine lv_iinc (v := x5_427) (lv' := [(5, .int x5_427), (8, .double x8_420), (6, .double x6_415), (0, .ref bq), (1, .ref (a 0)), (2, .ref (b 0)), (3, .ref (ca 0)), (4, .ref (da 0))]) hx hb dL_law_1335 hl (k := 7) rfl (by rw [e428]; rfl) (by decide) rfl (fun ls hl => ?_)
      refine lv_goto (tgt := 28) hx hb dL_law_1338 (by decide) ?_
      refine W.widen (k := ce + 1) (n := sl + 6) (by omega) (by omega) ?_
      exact ih _ _ _ _ _ h _ _ (by omega) (by omega) _ _ hP hD hS _ (lv_sub hl [3, 4, 5, 6, 7, 0] rfl)
    have h := o_f h c_23
    by_cases c_24 : (xs y5.toNatClampNeg) &&& (31 : Int32) = 24
    · have h := o_t h c_24
      refine k_swIn (v := 24) (off := 1277) (tgt := 1321) hx hb c_24 dL_law_44 (by decide) (by decide) (by decide +kernel) (by decide) ?_
      refine lv_aload_n hx hb dL_law_1321 rfl (lv_at hl 1 rfl) ?_
      obtain ⟨v430, g431, h⟩ := o_b h
      refine k_rwL (va_runV (As := []) (rest := []) ⟨hx, hb, hml, hown, hts⟩ (c_X5_digest l dC dI cI cF a S  v430 g431 H.size) (cwV 0 hts gL_law_X5_digest rfl rfl rfl (by decide +kernel) ⟨Nat.le_of_ble_eq_true rfl, Nat.le_of_ble_eq_true rfl⟩) (k_preLw (q0 := 0) (ci := 5) hK hP hD (LN_l (LN_l (LN_l (LN_id (fX5 a cI cF S v430.2))))) rfl rfl rfl) rfl rfl hl.1 rfl (lv_room (Nat.le_of_ble_eq_true rfl)) dL_law_1322 ⟨Nat.le_trans (m := 2000) (by omega) (Nat.le_of_ble_eq_true rfl), Nat.le_trans (m := 20000) (by omega) (Nat.le_of_ble_eq_true rfl)⟩) (st1 := [.long v430.1]) rfl hP hD hS hA (wn := wX5 a cI cF v430.2 ++ wX6 b cI cF M ++ wLA ca cL O ++ wDA da cD OD) (LN_l (LN_l (LN_l (LN_id (fX5 a cI cF S v430.2))))) (fun H locs hP hD hS => ?_)
      refine lv_aload_n hx hb dL_law_1325 rfl (lv_at hl 2 rfl) ?_
      obtain ⟨v432, g433, h⟩ := o_b h
      refine k_rwL (va_runV (As := []) (rest := [.long v430.1]) ⟨hx, hb, hml, hown, hts⟩ (c_X6_digest l dC dI cI cF b M  v432 g433 H.size) (cwV 0 hts gL_law_X6_digest rfl rfl rfl (by decide +kernel) ⟨Nat.le_of_ble_eq_true rfl, Nat.le_of_ble_eq_true rfl⟩) (k_preLw (q0 := 0) (ci := 6) hK hP hD (LN_l (LN_l (LN_r (LN_id (fX6 b cI cF M v432.2))))) rfl rfl rfl) rfl rfl hl.1 rfl (lv_room (Nat.le_of_ble_eq_true rfl)) dL_law_1326 ⟨Nat.le_trans (m := 2000) (by omega) (Nat.le_of_ble_eq_true rfl), Nat.le_trans (m := 20000) (by omega) (Nat.le_of_ble_eq_true rfl)⟩) (st1 := [.long v432.1, .long v430.1]) rfl hP hD hS hA (wn := wX5 a cI cF v430.2 ++ wX6 b cI cF v432.2 ++ wLA ca cL O ++ wDA da cD OD) (LN_l (LN_l (LN_r (LN_id (fX6 b cI cF M v432.2))))) (fun H locs hP hD hS => ?_)
      refine W.lcmp hx hb dL_law_1329 ?_
      refine lv_if_eq (tgt := 1335) hx hb dL_law_1330 (by decide) (fun c434 => ?_) (fun c434 => ?_)
      rotate_left
      · have h := o_f h c434
        refine lv_iconst (v := (0 : Int32)) hx hb dL_law_1333 (by decide) ?_
        exact absurd (Option.some.inj h) (by decide)
      have h := o_t h c434
      obtain ⟨x5_435, e436, h⟩ := o_n h
      refine lv_iinc (v := x5_435) (lv' := [(5, .int x5_435), (0, .ref bq), (1, .ref (a 0)), (2, .ref (b 0)), (3, .ref (ca 0)), (4, .ref (da 0))]) hx hb dL_law_1335 hl (k := 5) rfl (by rw [e436]; rfl) (by decide) rfl (fun ls hl => ?_)
      refine lv_goto (tgt := 28) hx hb dL_law_1338 (by decide) ?_
      refine W.widen (k := ce + 1) (n := sl + 6) (by omega) (by omega) ?_
      exact ih _ _ _ _ _ h _ _ (by omega) (by omega) _ _ hP hD hS _ (lv_sub hl [1, 2, 3, 4, 5, 0] rfl)
    have h := o_f h c_24
    refine lv_tableOut (tgt := 1335) hx hb dL_law_44 (k_swOut 24 (by decide) _ (fun k hk => ?_)) (by decide) ?_
    · rcases (show k = 0 ∨ k = 1 ∨ k = 2 ∨ k = 3 ∨ k = 4 ∨ k = 5 ∨ k = 6 ∨ k = 7 ∨ k = 8 ∨ k = 9 ∨ k = 10 ∨ k = 11 ∨ k = 12 ∨ k = 13 ∨ k = 14 ∨ k = 15 ∨ k = 16 ∨ k = 17 ∨ k = 18 ∨ k = 19 ∨ k = 20 ∨ k = 21 ∨ k = 22 ∨ k = 23 ∨ k = 24 by omega) with rfl | rfl | rfl | rfl | rfl | rfl | rfl | rfl | rfl | rfl | rfl | rfl | rfl | rfl | rfl | rfl | rfl | rfl | rfl | rfl | rfl | rfl | rfl | rfl | rfl <;> first | exact c_0 | exact c_1 | exact c_2 | exact c_3 | exact c_4 | exact c_5 | exact c_6 | exact c_7 | exact c_8 | exact c_9 | exact c_10 | exact c_11 | exact c_12 | exact c_13 | exact c_14 | exact c_15 | exact c_16 | exact c_17 | exact c_18 | exact c_19 | exact c_20 | exact c_21 | exact c_22 | exact c_23 | exact c_24
    obtain ⟨x5_437, e438, h⟩ := o_n h
    refine lv_iinc (v := x5_437) (lv' := [(5, .int x5_437), (0, .ref bq), (1, .ref (a 0)), (2, .ref (b 0)), (3, .ref (ca 0)), (4, .ref (da 0))]) hx hb dL_law_1335 hl (k := 5) rfl (by rw [e438]; rfl) (by decide) rfl (fun ls hl => ?_)
    refine lv_goto (tgt := 28) hx hb dL_law_1338 (by decide) ?_
    refine W.widen (k := ce + 1) (n := sl + 6) (by omega) (by omega) ?_
    exact ih _ _ _ _ _ h _ _ (by omega) (by omega) _ _ hP hD hS _ (lv_sub hl [1, 2, 3, 4, 5, 0] rfl)
