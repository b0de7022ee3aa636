/-! the constructors: their words, by program -/
theorem kAI : Cond.arrayClass .int ∈ zGW := zgw (List.mem_of_getElem? (i := 174) (by decide +kernel)) rfl
theorem kAL : Cond.arrayClass .long ∈ zGW := zgw (List.mem_of_getElem? (i := 220) (by decide +kernel)) rfl
theorem kOI : Cond.instanceMethod objectInit ∈ zGW := zgw (List.mem_of_getElem? (i := 114) (by decide +kernel)) rfl
theorem kOC : Cond.code objectInit ⟨#[0xb1]⟩ 1 none ∈ zGW := zgw (List.mem_of_getElem? (i := 115) (by decide +kernel)) rfl
theorem kC0 : Cond.code yX0_init cX0_init 1 none ∈ zGW := zgw (List.mem_of_getElem? (i := 251) (by decide +kernel)) rfl
theorem kM0 : Cond.instanceMethod yX0_init ∈ zGW := zgw (List.mem_of_getElem? (i := 250) (by decide +kernel)) rfl
theorem kT0 : Cond.initialized yX0_init.cls ∈ zGW := zgw (List.mem_of_getElem? (i := 97) (by decide +kernel)) rfl
theorem kS0 : Cond.instantiable (zR 20) (zlen 20) ∈ zGW := zgw (List.mem_of_getElem? (i := 248) (by decide +kernel)) rfl
theorem kC1 : Cond.code yX1_init cX1_init 1 none ∈ zGW := zgw (List.mem_of_getElem? (i := 225) (by decide +kernel)) rfl
theorem kM1 : Cond.instanceMethod yX1_init ∈ zGW := zgw (List.mem_of_getElem? (i := 224) (by decide +kernel)) rfl
theorem kT1 : Cond.initialized yX1_init.cls ∈ zGW := zgw (List.mem_of_getElem? (i := 95) (by decide +kernel)) rfl
theorem kS1 : Cond.instantiable (zR 18) (zlen 18) ∈ zGW := zgw (List.mem_of_getElem? (i := 222) (by decide +kernel)) rfl
theorem kC2 : Cond.code yX2_init cX2_init 1 none ∈ zGW := zgw (List.mem_of_getElem? (i := 181) (by decide +kernel)) rfl
theorem kM2 : Cond.instanceMethod yX2_init ∈ zGW := zgw (List.mem_of_getElem? (i := 180) (by decide +kernel)) rfl
theorem kT2 : Cond.initialized yX2_init.cls ∈ zGW := zgw (List.mem_of_getElem? (i := 94) (by decide +kernel)) rfl
theorem kS2 : Cond.instantiable (zR 10) (zlen 10) ∈ zGW := zgw (List.mem_of_getElem? (i := 178) (by decide +kernel)) rfl
theorem kC3 : Cond.code yX3_init cX3_init 1 none ∈ zGW := zgw (List.mem_of_getElem? (i := 240) (by decide +kernel)) rfl
theorem kM3 : Cond.instanceMethod yX3_init ∈ zGW := zgw (List.mem_of_getElem? (i := 239) (by decide +kernel)) rfl
theorem kT3 : Cond.initialized yX3_init.cls ∈ zGW := zgw (List.mem_of_getElem? (i := 96) (by decide +kernel)) rfl
theorem kS3 : Cond.instantiable (zR 19) (zlen 19) ∈ zGW := zgw (List.mem_of_getElem? (i := 237) (by decide +kernel)) rfl
theorem kC4 : Cond.code yX4_init cX4_init 1 none ∈ zGW := zgw (List.mem_of_getElem? (i := 273) (by decide +kernel)) rfl
theorem kM4 : Cond.instanceMethod yX4_init ∈ zGW := zgw (List.mem_of_getElem? (i := 272) (by decide +kernel)) rfl
theorem kT4 : Cond.initialized yX4_init.cls ∈ zGW := zgw (List.mem_of_getElem? (i := 98) (by decide +kernel)) rfl
theorem kS4 : Cond.instantiable (zR 8) (zlen 8) ∈ zGW := zgw (List.mem_of_getElem? (i := 270) (by decide +kernel)) rfl
theorem kC5 : Cond.code yX5_init cX5_init 1 none ∈ zGW := zgw (List.mem_of_getElem? (i := 120) (by decide +kernel)) rfl
theorem kM5 : Cond.instanceMethod yX5_init ∈ zGW := zgw (List.mem_of_getElem? (i := 119) (by decide +kernel)) rfl
theorem kT5 : Cond.initialized yX5_init.cls ∈ zGW := zgw (List.mem_of_getElem? (i := 93) (by decide +kernel)) rfl
theorem kS5 : Cond.instantiable (zR 1) (zlen 1) ∈ zGW := zgw (List.mem_of_getElem? (i := 117) (by decide +kernel)) rfl
theorem kC6 : Cond.code yX6_init cX6_init 2 none ∈ zGW := zgw (List.mem_of_getElem? (i := 112) (by decide +kernel)) rfl
theorem kM6 : Cond.instanceMethod yX6_init ∈ zGW := zgw (List.mem_of_getElem? (i := 111) (by decide +kernel)) rfl
theorem kT6 : Cond.initialized yX6_init.cls ∈ zGW := zgw (List.mem_of_getElem? (i := 92) (by decide +kernel)) rfl
theorem kS6 : Cond.instantiable (zR 0) (zlen 0) ∈ zGW := zgw (List.mem_of_getElem? (i := 109) (by decide +kernel)) rfl
theorem kC7 : Cond.code yX7_init cX7_init 1 none ∈ zGW := zgw (List.mem_of_getElem? (i := 1018) (by decide +kernel)) rfl
theorem kM7 : Cond.instanceMethod yX7_init ∈ zGW := zgw (List.mem_of_getElem? (i := 1017) (by decide +kernel)) rfl
theorem kT7 : Cond.initialized yX7_init.cls ∈ zGW := zgw (List.mem_of_getElem? (i := 99) (by decide +kernel)) rfl
theorem kS7 : Cond.instantiable (zR 64) (zlen 64) ∈ zGW := zgw (List.mem_of_getElem? (i := 1015) (by decide +kernel)) rfl
theorem kL5_3 : Cond.methodLink (zN 5) 3 objectInit ∈ zGW := zgw (List.mem_of_getElem? (i := 121) (by decide +kernel)) rfl
theorem kL4_3 : Cond.methodLink (zN 4) 3 objectInit ∈ zGW := zgw (List.mem_of_getElem? (i := 274) (by decide +kernel)) rfl
theorem kL2_3 : Cond.methodLink (zN 2) 3 objectInit ∈ zGW := zgw (List.mem_of_getElem? (i := 182) (by decide +kernel)) rfl
theorem kL1_3 : Cond.methodLink (zN 1) 3 objectInit ∈ zGW := zgw (List.mem_of_getElem? (i := 226) (by decide +kernel)) rfl
theorem kL3_3 : Cond.methodLink (zN 3) 3 objectInit ∈ zGW := zgw (List.mem_of_getElem? (i := 241) (by decide +kernel)) rfl
theorem kL0_3 : Cond.methodLink (zN 0) 3 objectInit ∈ zGW := zgw (List.mem_of_getElem? (i := 252) (by decide +kernel)) rfl
theorem kL7_1 : Cond.methodLink (zN 7) 1 objectInit ∈ zGW := zgw (List.mem_of_getElem? (i := 1019) (by decide +kernel)) rfl
theorem kL6_1 : Cond.methodLink (zN 6) 1 objectInit ∈ zGW := zgw (List.mem_of_getElem? (i := 113) (by decide +kernel)) rfl
theorem kK6_7 : Cond.classLink (zN 6) 7 (zR 1) ∈ zGW := zgw (List.mem_of_getElem? (i := 116) (by decide +kernel)) rfl
theorem kK6_26 : Cond.classLink (zN 6) 26 (zR 8) ∈ zGW := zgw (List.mem_of_getElem? (i := 175) (by decide +kernel)) rfl
theorem kK6_32 : Cond.classLink (zN 6) 32 (zR 10) ∈ zGW := zgw (List.mem_of_getElem? (i := 177) (by decide +kernel)) rfl
theorem kK6_39 : Cond.classLink (zN 6) 39 (zR 18) ∈ zGW := zgw (List.mem_of_getElem? (i := 221) (by decide +kernel)) rfl
theorem kK6_46 : Cond.classLink (zN 6) 46 (zR 19) ∈ zGW := zgw (List.mem_of_getElem? (i := 236) (by decide +kernel)) rfl
theorem kK6_53 : Cond.classLink (zN 6) 53 (zR 20) ∈ zGW := zgw (List.mem_of_getElem? (i := 247) (by decide +kernel)) rfl
theorem kLL9 : Cond.methodLink (zN 8) 9 yX6_init ∈ zGW := zgw (List.mem_of_getElem? (i := 110) (by decide +kernel)) rfl
theorem kLL12 : Cond.methodLink (zN 8) 12 yX7_init ∈ zGW := zgw (List.mem_of_getElem? (i := 1016) (by decide +kernel)) rfl
theorem kK8_7 : Cond.classLink (zN 8) 7 (zR 0) ∈ zGW := zgw (List.mem_of_getElem? (i := 108) (by decide +kernel)) rfl
theorem kK8_10 : Cond.classLink (zN 8) 10 (zR 64) ∈ zGW := zgw (List.mem_of_getElem? (i := 1014) (by decide +kernel)) rfl
