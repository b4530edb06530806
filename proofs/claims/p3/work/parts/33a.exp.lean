theorem xa_ini10 : Cond.initialized (cz_on 10) ∈ cz_T := cz_in (i := 130) (by decide +kernel) rfl
theorem xa_ini11 : Cond.initialized (cz_on 11) ∈ cz_T := cz_in (i := 146) (by decide +kernel) rfl
theorem xa_ins6 : Cond.instantiable (cz_on 6) (cz_nf 6) ∈ cz_T := cz_in (i := 453) (by decide +kernel) rfl
theorem xa_seX0_costOf : Cond.selects (cz_on 0) (cz_nm mX0_costOf) (cz_nm mX0_costOf) ∈ cz_T := cz_in (i := 1037) (by decide +kernel) rfl
theorem xa_seX3_drawBelow : Cond.selects (cz_on 3) (cz_nm mX3_drawBelow) (cz_nm mX3_drawBelow) ∈ cz_T := cz_in (i := 60) (by decide +kernel) rfl
theorem xa_inX5_judge : Cond.instanceMethod (cz_nm mX5_judge) ∈ cz_T := cz_in (i := 1002) (by decide +kernel) rfl
theorem xa_seX5_isTurned : Cond.selects (cz_on 5) (cz_nm mX5_isTurned) (cz_nm mX5_isTurned) ∈ cz_T := cz_in (i := 49) (by decide +kernel) rfl
theorem xa_inX5_sum : Cond.instanceMethod (cz_nm mX5_sum) ∈ cz_T := cz_in (i := 1032) (by decide +kernel) rfl
theorem xa_inX6_goBack : Cond.instanceMethod (cz_nm mX6_goBack) ∈ cz_T := cz_in (i := 1264) (by decide +kernel) rfl
theorem xa_inX7_packed : Cond.static (cz_nm mX7_packed) ∈ cz_T := cz_in (i := 696) (by decide +kernel) rfl
theorem xa_inX7_takeSpan : Cond.instanceMethod (cz_nm mX7_takeSpan) ∈ cz_T := cz_in (i := 829) (by decide +kernel) rfl
theorem xa_inX7_readEvent : Cond.instanceMethod (cz_nm mX7_readEvent) ∈ cz_T := cz_in (i := 850) (by decide +kernel) rfl
theorem xa_seX7_readMinutes : Cond.selects (cz_on 7) (cz_nm mX7_readMinutes) (cz_nm mX7_readMinutes) ∈ cz_T := cz_in (i := 22) (by decide +kernel) rfl
theorem xa_seX8_wipe : Cond.selects (cz_on 8) (cz_nm mX8_wipe) (cz_nm mX8_wipe) ∈ cz_T := cz_in (i := 33) (by decide +kernel) rfl
theorem xa_inX9_init : Cond.instanceMethod (cz_nm mX9_init) ∈ cz_T := cz_in (i := 224) (by decide +kernel) rfl
theorem xa_seX10_light : Cond.selects (cz_on 10) (cz_nm mX10_light) (cz_nm mX10_light) ∈ cz_T := cz_in (i := 923) (by decide +kernel) rfl
theorem xa_inX10_work : Cond.instanceMethod (cz_nm mX10_work) ∈ cz_T := cz_in (i := 1015) (by decide +kernel) rfl
theorem xa_seX10_cause : Cond.selects (cz_on 10) (cz_nm mX10_cause) (cz_nm mX10_cause) ∈ cz_T := cz_in (i := 1090) (by decide +kernel) rfl
theorem xa_inX10_fits : Cond.instanceMethod (cz_nm mX10_fits) ∈ cz_T := cz_in (i := 1155) (by decide +kernel) rfl
theorem xa_seX10_draw : Cond.selects (cz_on 10) (cz_nm mX10_draw) (cz_nm mX10_draw) ∈ cz_T := cz_in (i := 1233) (by decide +kernel) rfl
theorem xa_inX10_led : Cond.instanceMethod (cz_nm mX10_led) ∈ cz_T := cz_in (i := 1284) (by decide +kernel) rfl
theorem xa_seX10_refusedTotal : Cond.selects (cz_on 10) (cz_nm mX10_refusedTotal) (cz_nm mX10_refusedTotal) ∈ cz_T := cz_in (i := 47) (by decide +kernel) rfl
theorem xa_inX10_isEvent : Cond.instanceMethod (cz_nm mX10_isEvent) ∈ cz_T := cz_in (i := 1114) (by decide +kernel) rfl
theorem xa_seX10_allTurners : Cond.selects (cz_on 10) (cz_nm mX10_allTurners) (cz_nm mX10_allTurners) ∈ cz_T := cz_in (i := 41) (by decide +kernel) rfl
theorem xa_inX10_fewestTurners : Cond.instanceMethod (cz_nm mX10_fewestTurners) ∈ cz_T := cz_in (i := 1144) (by decide +kernel) rfl
theorem xa_seX12_good : Cond.selects (cz_on 12) (cz_nm mX12_good) (cz_nm mX12_good) ∈ cz_T := cz_in (i := 91) (by decide +kernel) rfl
theorem xa_inX12_flaw : Cond.instanceMethod (cz_nm mX12_flaw) ∈ cz_T := cz_in (i := 1648) (by decide +kernel) rfl
theorem xa_seX12_bounded : Cond.selects (cz_on 12) (cz_nm mX12_bounded) (cz_nm mX12_bounded) ∈ cz_T := cz_in (i := 76) (by decide +kernel) rfl
theorem xa_inX12_readAll : Cond.instanceMethod (cz_nm mX12_readAll) ∈ cz_T := cz_in (i := 1626) (by decide +kernel) rfl
theorem xa_seX12_readAlmanac : Cond.selects (cz_on 12) (cz_nm mX12_readAlmanac) (cz_nm mX12_readAlmanac) ∈ cz_T := cz_in (i := 85) (by decide +kernel) rfl
theorem xa_inX12_where : Cond.instanceMethod (cz_nm mX12_where) ∈ cz_T := cz_in (i := 1766) (by decide +kernel) rfl
theorem xa_seX12_laysLight : Cond.selects (cz_on 12) (cz_nm mX12_laysLight) (cz_nm mX12_laysLight) ∈ cz_T := cz_in (i := 93) (by decide +kernel) rfl
theorem xa_inX12_goes : Cond.instanceMethod (cz_nm mX12_goes) ∈ cz_T := cz_in (i := 1879) (by decide +kernel) rfl
theorem xa_seX12_isHut : Cond.selects (cz_on 12) (cz_nm mX12_isHut) (cz_nm mX12_isHut) ∈ cz_T := cz_in (i := 100) (by decide +kernel) rfl
theorem xa_inX12_change : Cond.instanceMethod (cz_nm mX12_change) ∈ cz_T := cz_in (i := 1826) (by decide +kernel) rfl
theorem xa_seX12_work : Cond.selects (cz_on 12) (cz_nm mX12_work) (cz_nm mX12_work) ∈ cz_T := cz_in (i := 1867) (by decide +kernel) rfl
theorem xa_inX12_cause : Cond.instanceMethod (cz_nm mX12_cause) ∈ cz_T := cz_in (i := 1927) (by decide +kernel) rfl
theorem xa_seX12_wakeTotal : Cond.selects (cz_on 12) (cz_nm mX12_wakeTotal) (cz_nm mX12_wakeTotal) ∈ cz_T := cz_in (i := 1955) (by decide +kernel) rfl
theorem xa_inX12_fits : Cond.instanceMethod (cz_nm mX12_fits) ∈ cz_T := cz_in (i := 1974) (by decide +kernel) rfl
theorem xa_seX12_keeps : Cond.selects (cz_on 12) (cz_nm mX12_keeps) (cz_nm mX12_keeps) ∈ cz_T := cz_in (i := 127) (by decide +kernel) rfl
theorem xa_inX12_undo : Cond.instanceMethod (cz_nm mX12_undo) ∈ cz_T := cz_in (i := 2046) (by decide +kernel) rfl
theorem xa_seX12_trouble : Cond.selects (cz_on 12) (cz_nm mX12_trouble) (cz_nm mX12_trouble) ∈ cz_T := cz_in (i := 2071) (by decide +kernel) rfl
theorem xa_inJ1_charAt_3b067 : Cond.static (cz_nm mJ1_charAt_3b067) ∈ cz_T := cz_in (i := 717) (by decide +kernel) rfl
theorem xa_lk5_67 : Cond.methodLink (cz_on 5) 67 (cz_nm mX5_turnAll) ∈ cz_T := cz_in (i := 978) (by decide +kernel) rfl
theorem xa_lk5_200 : Cond.methodLink (cz_on 5) 200 (cz_nm mX0_costOf) ∈ cz_T := cz_in (i := 1035) (by decide +kernel) rfl
theorem xa_lk7_93 : Cond.methodLink (cz_on 7) 93 (cz_nm mJ0_charAt_5068e) ∈ cz_T := cz_in (i := 708) (by decide +kernel) rfl
theorem xa_lk7_190 : Cond.methodLink (cz_on 7) 190 (cz_nm mX7_readTurner) ∈ cz_T := cz_in (i := 815) (by decide +kernel) rfl
theorem xa_lk8_53 : Cond.methodLink (cz_on 8) 53 (cz_nm mX8_wipe) ∈ cz_T := cz_in (i := 892) (by decide +kernel) rfl
theorem xa_lk10_75 : Cond.methodLink (cz_on 10) 75 (cz_nm mX10_putBytes) ∈ cz_T := cz_in (i := 639) (by decide +kernel) rfl
theorem xa_lk10_152 : Cond.methodLink (cz_on 10) 152 (cz_nm mX10_isTurner) ∈ cz_T := cz_in (i := 955) (by decide +kernel) rfl
theorem xa_lk10_222 : Cond.methodLink (cz_on 10) 222 (cz_nm mX10_veinMinute) ∈ cz_T := cz_in (i := 1080) (by decide +kernel) rfl
theorem xa_lk10_275 : Cond.methodLink (cz_on 10) 275 (cz_nm mX3_addDrawn) ∈ cz_T := cz_in (i := 1182) (by decide +kernel) rfl
theorem xa_lk12_81 : Cond.methodLink (cz_on 12) 81 (cz_nm mX12_good) ∈ cz_T := cz_in (i := 1757) (by decide +kernel) rfl
theorem xa_lk12_161 : Cond.methodLink (cz_on 12) 161 (cz_nm mX12_readWhole) ∈ cz_T := cz_in (i := 1659) (by decide +kernel) rfl
theorem xa_lk12_257 : Cond.methodLink (cz_on 12) 257 (cz_nm mX12_needsSign) ∈ cz_T := cz_in (i := 1672) (by decide +kernel) rfl
theorem xa_lk12_407 : Cond.methodLink (cz_on 12) 407 (cz_nm mX12_hutOf) ∈ cz_T := cz_in (i := 1801) (by decide +kernel) rfl
theorem xa_lk12_446 : Cond.methodLink (cz_on 12) 446 (cz_nm mX12_isHut) ∈ cz_T := cz_in (i := 1809) (by decide +kernel) rfl
theorem xa_lk12_488 : Cond.methodLink (cz_on 12) 488 (cz_nm mX12_fitsNow) ∈ cz_T := cz_in (i := 1981) (by decide +kernel) rfl
theorem xa_lk13_15 : Cond.methodLink (cz_on 13) 15 (cz_nm mX10_init) ∈ cz_T := cz_in (i := 156) (by decide +kernel) rfl
theorem xa_lk13_45 : Cond.methodLink (cz_on 13) 45 (cz_nm mX12_light) ∈ cz_T := cz_in (i := 1805) (by decide +kernel) rfl
