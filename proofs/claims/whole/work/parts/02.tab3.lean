/-! tables, part 3: written by wip/tables.py -/
theorem qf_t303 : qf_chk 303 [(.ofNat 1, .ofNat 1, .ofNat 76), (.ofNat 2, .negSucc 0, .ofNat 38), (.ofNat 2, .ofNat 1, .ofNat 38), (.ofNat 3, .ofNat 3, .ofNat 26), (.ofNat 4, .negSucc 0, .ofNat 19), (.ofNat 4, .ofNat 1, .ofNat 19), (.ofNat 6, .negSucc 2, .ofNat 13), (.ofNat 6, .ofNat 3, .ofNat 13), (.ofNat 8, .negSucc 6, .ofNat 11), (.ofNat 8, .ofNat 7, .ofNat 11)] 0x3804808ca4324064846221ca8124803142341d01014871246608cc4381281146229c0640524290224a00638c871a5013140231503124e020528398a418820 = true := by decide +kernel
theorem qf_t304 : qf_chk 304 [(.ofNat 1, .ofNat 0, .ofNat 76), (.ofNat 4, .ofNat 0, .ofNat 19), (.ofNat 5, .negSucc 3, .ofNat 16), (.ofNat 5, .ofNat 4, .ofNat 16), (.ofNat 7, .negSucc 1, .ofNat 11), (.ofNat 7, .ofNat 2, .ofNat 11)] 0x1008119403094442044028c2500c82188a4004a418820 = true := by decide +kernel
theorem qf_t307 : qf_chk 307 [(.ofNat 1, .ofNat 1, .ofNat 77), (.ofNat 7, .negSucc 0, .ofNat 11), (.ofNat 7, .ofNat 1, .ofNat 11)] 0x10080208820 = true := by decide +kernel
theorem qf_t308 : qf_chk 308 [(.ofNat 1, .ofNat 0, .ofNat 77), (.ofNat 2, .ofNat 2, .ofNat 39), (.ofNat 3, .negSucc 1, .ofNat 26), (.ofNat 3, .ofNat 2, .ofNat 26), (.ofNat 6, .negSucc 1, .ofNat 13), (.ofNat 6, .ofNat 2, .ofNat 13), (.ofNat 7, .ofNat 0, .ofNat 11), (.ofNat 9, .ofNat 4, .ofNat 9)] 0x48510cc708043214e6208e03046528c0709844110c1380a31942601c8231c6229001398a418820 = true := by decide +kernel
theorem qf_t311 : qf_chk 311 [(.ofNat 1, .ofNat 1, .ofNat 78), (.ofNat 2, .negSucc 0, .ofNat 39), (.ofNat 2, .ofNat 1, .ofNat 39), (.ofNat 3, .negSucc 0, .ofNat 26), (.ofNat 3, .ofNat 1, .ofNat 26), (.ofNat 4, .negSucc 2, .ofNat 20), (.ofNat 4, .ofNat 3, .ofNat 20), (.ofNat 5, .negSucc 2, .ofNat 16), (.ofNat 5, .ofNat 3, .ofNat 16), (.ofNat 6, .negSucc 4, .ofNat 14), (.ofNat 6, .negSucc 0, .ofNat 13), (.ofNat 6, .ofNat 1, .ofNat 13), (.ofNat 6, .ofNat 5, .ofNat 14), (.ofNat 7, .negSucc 4, .ofNat 12), (.ofNat 7, .ofNat 5, .ofNat 12), (.ofNat 8, .negSucc 2, .ofNat 10), (.ofNat 8, .ofNat 3, .ofNat 10), (.ofNat 9, .negSucc 6, .ofNat 10), (.ofNat 9, .ofNat 7, .ofNat 10)] 0xe015878ac298344f1988a4480d49a487b04a0b890194eb8952b00d5273d822442d418f06180a591306c461148ee415e790d62005102c54c23cc96ba285100133ce25c8692c1cc6adf2484d02c404429c23b46c0b1d043ca3048cd49d428916913db03c404338a86056392a0a644a2048cf38dab4048e4b4221c564338ec015504c9e8138815490d28c095998f844ef2444c1a9286956703a41818700c88971d8b518088b5e22986d3bca25051063a3202d242150e340e25852f934116286a399097362324a017ad850090b395ac1924e7c6024a8060ca307b9ac5a928398a418820 = true := by decide +kernel
theorem qf_t312 : qf_chk 312 [(.ofNat 1, .ofNat 0, .ofNat 78), (.ofNat 2, .ofNat 0, .ofNat 39), (.ofNat 3, .ofNat 0, .ofNat 26), (.ofNat 6, .ofNat 0, .ofNat 13)] 0x4430806210c0118820 = true := by decide +kernel
theorem qf_t315 : qf_chk 315 [(.ofNat 1, .ofNat 1, .ofNat 79), (.ofNat 5, .ofNat 5, .ofNat 17), (.ofNat 7, .ofNat 7, .ofNat 13), (.ofNat 9, .ofNat 9, .ofNat 11)] 0x4430806210c0118820 = true := by decide +kernel
theorem qf_t316 : qf_chk 316 [(.ofNat 1, .ofNat 0, .ofNat 79), (.ofNat 5, .negSucc 1, .ofNat 16), (.ofNat 5, .ofNat 2, .ofNat 16), (.ofNat 8, .negSucc 5, .ofNat 11), (.ofNat 8, .ofNat 6, .ofNat 11)] 0x2004640048218483008620102418820 = true := by decide +kernel
theorem qf_t319 : qf_chk 319 [(.ofNat 1, .ofNat 1, .ofNat 80), (.ofNat 2, .negSucc 0, .ofNat 40), (.ofNat 2, .ofNat 1, .ofNat 40), (.ofNat 4, .negSucc 0, .ofNat 20), (.ofNat 4, .ofNat 1, .ofNat 20), (.ofNat 5, .negSucc 0, .ofNat 16), (.ofNat 5, .ofNat 1, .ofNat 16), (.ofNat 8, .negSucc 0, .ofNat 10), (.ofNat 8, .ofNat 1, .ofNat 10), (.ofNat 10, .ofNat 9, .ofNat 10)] 0xc8209d062a466004e911488200a81052331c414100329d2609c4019889414e908cc50204440925200c138cc519d2809002290c9408e018528398a418820 = true := by decide +kernel
theorem qf_t320 : qf_chk 320 [(.ofNat 1, .ofNat 0, .ofNat 80), (.ofNat 3, .negSucc 1, .ofNat 27), (.ofNat 3, .ofNat 2, .ofNat 27), (.ofNat 4, .ofNat 4, .ofNat 21), (.ofNat 5, .ofNat 0, .ofNat 16), (.ofNat 7, .negSucc 3, .ofNat 12), (.ofNat 7, .ofNat 4, .ofNat 12), (.ofNat 9, .ofNat 2, .ofNat 9)] 0x14c32044729c0111066300e208c8518440394c420827018a30906531c0210c86280e1398a418820 = true := by decide +kernel
theorem qf_t323 : qf_chk 323 [(.ofNat 1, .ofNat 1, .ofNat 81), (.ofNat 3, .negSucc 0, .ofNat 27), (.ofNat 3, .ofNat 1, .ofNat 27), (.ofNat 9, .ofNat 1, .ofNat 9)] 0x44308c021006118820 = true := by decide +kernel
theorem qf_t324 : qf_chk 324 [(.ofNat 1, .ofNat 0, .ofNat 81), (.ofNat 2, .ofNat 2, .ofNat 41), (.ofNat 5, .negSucc 3, .ofNat 17), (.ofNat 5, .ofNat 4, .ofNat 17), (.ofNat 9, .negSucc 5, .ofNat 10), (.ofNat 9, .ofNat 6, .ofNat 10)] 0x200411940508c441048028c2301482188a4004a418820 = true := by decide +kernel
theorem qf_t327 : qf_chk 327 [(.ofNat 1, .ofNat 1, .ofNat 82), (.ofNat 2, .negSucc 0, .ofNat 41), (.ofNat 2, .ofNat 1, .ofNat 41), (.ofNat 3, .ofNat 3, .ofNat 28), (.ofNat 4, .negSucc 2, .ofNat 21), (.ofNat 4, .ofNat 3, .ofNat 21), (.ofNat 6, .negSucc 2, .ofNat 14), (.ofNat 6, .ofNat 3, .ofNat 14), (.ofNat 7, .negSucc 2, .ofNat 12), (.ofNat 7, .ofNat 3, .ofNat 12), (.ofNat 8, .negSucc 4, .ofNat 11), (.ofNat 8, .ofNat 5, .ofNat 11)] 0x18026494475208b00ce2220c15952a09d0012c65228c9308095048329d684904a2816608d072a161010ea124661186459d2040545384a3328084ac4452c8508909018e3415471a42b31002224cb40d42380a15a928398a418820 = true := by decide +kernel
theorem qf_t328 : qf_chk 328 [(.ofNat 1, .ofNat 0, .ofNat 82), (.ofNat 2, .ofNat 0, .ofNat 41), (.ofNat 7, .negSucc 5, .ofNat 13), (.ofNat 7, .ofNat 6, .ofNat 13)] 0x80430046210c0118820 = true := by decide +kernel
theorem qf_t331 : qf_chk 331 [(.ofNat 1, .ofNat 1, .ofNat 83), (.ofNat 5, .negSucc 2, .ofNat 17), (.ofNat 5, .ofNat 3, .ofNat 17)] 0x10080208820 = true := by decide +kernel
theorem qf_t332 : qf_chk 332 [(.ofNat 1, .ofNat 0, .ofNat 83), (.ofNat 3, .negSucc 1, .ofNat 28), (.ofNat 3, .ofNat 2, .ofNat 28), (.ofNat 4, .negSucc 1, .ofNat 21), (.ofNat 4, .ofNat 2, .ofNat 21), (.ofNat 7, .negSucc 1, .ofNat 12), (.ofNat 7, .ofNat 2, .ofNat 12), (.ofNat 9, .negSucc 7, .ofNat 11), (.ofNat 9, .ofNat 8, .ofNat 11)] 0x501c6609048018881142339c820050329868004e2310a6104e30150409502010e619023314e8008432910601c28398a418820 = true := by decide +kernel
theorem qf_t335 : qf_chk 335 [(.ofNat 1, .ofNat 1, .ofNat 84), (.ofNat 2, .negSucc 0, .ofNat 42), (.ofNat 2, .ofNat 1, .ofNat 42), (.ofNat 3, .negSucc 0, .ofNat 28), (.ofNat 3, .ofNat 1, .ofNat 28), (.ofNat 4, .negSucc 0, .ofNat 21), (.ofNat 4, .ofNat 1, .ofNat 21), (.ofNat 5, .ofNat 5, .ofNat 18), (.ofNat 6, .negSucc 4, .ofNat 15), (.ofNat 6, .negSucc 0, .ofNat 14), (.ofNat 6, .ofNat 1, .ofNat 14), (.ofNat 6, .ofNat 5, .ofNat 15), (.ofNat 7, .negSucc 0, .ofNat 12), (.ofNat 7, .ofNat 1, .ofNat 12), (.ofNat 8, .negSucc 6, .ofNat 12), (.ofNat 8, .ofNat 7, .ofNat 12), (.ofNat 9, .negSucc 4, .ofNat 10), (.ofNat 9, .ofNat 5, .ofNat 10)] 0x2808d13d0b3243050dc76440660dc15150b1262f234f0231208a1ae3894119a055bda30297009dec490512a0ce13a2b4018123cc339549835e14400b70c4d29c893454c429a163a0688085488ef1ad6571c23324107c50d1308a320ef20a20515cb805836a52b131ed040b11a8c7091c8089493148f70c0d62d1089e09090672c56a6a00c7b8465446239128819805b9a17946f344a9134275b1d00290471205518e26050f6822b48ced2a1317b0648382a5980261d66828646ba227a120286307b9ac5a928398a418820 = true := by decide +kernel
theorem qf_t336 : qf_chk 336 [(.ofNat 1, .ofNat 0, .ofNat 84), (.ofNat 3, .ofNat 0, .ofNat 28), (.ofNat 4, .ofNat 0, .ofNat 21), (.ofNat 5, .negSucc 1, .ofNat 17), (.ofNat 5, .ofNat 2, .ofNat 17), (.ofNat 7, .ofNat 0, .ofNat 12), (.ofNat 8, .negSucc 3, .ofNat 11), (.ofNat 8, .ofNat 4, .ofNat 11)] 0x10065098870088129c661900638445284c200ce4094e0110c331c23200a220c4731401398a418820 = true := by decide +kernel
theorem qf_t339 : qf_chk 339 [(.ofNat 1, .ofNat 1, .ofNat 85), (.ofNat 3, .ofNat 3, .ofNat 29), (.ofNat 5, .negSucc 0, .ofNat 17), (.ofNat 5, .ofNat 1, .ofNat 17), (.ofNat 7, .negSucc 4, .ofNat 13), (.ofNat 7, .ofNat 5, .ofNat 13)] 0x200231140510464088a020c61010a210c85004a418820 = true := by decide +kernel
theorem qf_t340 : qf_chk 340 [(.ofNat 1, .ofNat 0, .ofNat 85), (.ofNat 2, .ofNat 2, .ofNat 43), (.ofNat 5, .ofNat 0, .ofNat 17), (.ofNat 10, .ofNat 10, .ofNat 11)] 0x4430806210c0118820 = true := by decide +kernel
theorem qf_t343 : qf_chk 343 [(.ofNat 1, .ofNat 1, .ofNat 86), (.ofNat 2, .negSucc 0, .ofNat 43), (.ofNat 2, .ofNat 1, .ofNat 43), (.ofNat 4, .negSucc 2, .ofNat 22), (.ofNat 4, .ofNat 3, .ofNat 22), (.ofNat 8, .negSucc 2, .ofNat 11), (.ofNat 8, .ofNat 3, .ofNat 11)] 0x200c2429801110c328c45004c40900628864304a3008a330804098a418820 = true := by decide +kernel
theorem qf_t344 : qf_chk 344 [(.ofNat 1, .ofNat 0, .ofNat 86), (.ofNat 2, .ofNat 0, .ofNat 43), (.ofNat 3, .negSucc 1, .ofNat 29), (.ofNat 3, .ofNat 2, .ofNat 29), (.ofNat 5, .negSucc 3, .ofNat 18), (.ofNat 5, .ofNat 4, .ofNat 18), (.ofNat 6, .negSucc 3, .ofNat 15), (.ofNat 6, .ofNat 4, .ofNat 15), (.ofNat 9, .negSucc 3, .ofNat 10), (.ofNat 9, .ofNat 4, .ofNat 10)] 0x3010708c45224073244120ca8419201942411ce90208228466088643812641461288063a1241102549d0030ca3204c8024e221443424c700528398a418820 = true := by decide +kernel
theorem qf_t347 : qf_chk 347 [(.ofNat 1, .ofNat 1, .ofNat 87), (.ofNat 3, .negSucc 0, .ofNat 29), (.ofNat 3, .ofNat 1, .ofNat 29), (.ofNat 9, .negSucc 6, .ofNat 11), (.ofNat 9, .ofNat 7, .ofNat 11)] 0x100c440082418c240084400c2418820 = true := by decide +kernel
theorem qf_t348 : qf_chk 348 [(.ofNat 1, .ofNat 0, .ofNat 87), (.ofNat 3, .ofNat 0, .ofNat 29), (.ofNat 7, .negSucc 3, .ofNat 13), (.ofNat 7, .ofNat 4, .ofNat 13), (.ofNat 8, .negSucc 1, .ofNat 11), (.ofNat 8, .ofNat 2, .ofNat 11)] 0x1802411402284640944020c8100ca210c85004a418820 = true := by decide +kernel
theorem qf_t351 : qf_chk 351 [(.ofNat 1, .ofNat 1, .ofNat 88), (.ofNat 2, .negSucc 0, .ofNat 44), (.ofNat 2, .ofNat 1, .ofNat 44), (.ofNat 4, .negSucc 0, .ofNat 22), (.ofNat 4, .ofNat 1, .ofNat 22), (.ofNat 5, .negSucc 2, .ofNat 18), (.ofNat 5, .ofNat 3, .ofNat 18), (.ofNat 8, .negSucc 0, .ofNat 11), (.ofNat 8, .ofNat 1, .ofNat 11), (.ofNat 9, .negSucc 2, .ofNat 10), (.ofNat 9, .ofNat 3, .ofNat 10), (.ofNat 10, .ofNat 7, .ofNat 10)] 0x10674044a494cb224013090359caa1814511c2b21909384ab0286612488418405912128d47088ea20c0542d2612023480873296550d66094e9020444ac822a0c0504e329cc91ad48090023150452562380615a928398a418820 = true := by decide +kernel
theorem qf_t352 : qf_chk 352 [(.ofNat 1, .ofNat 0, .ofNat 88), (.ofNat 4, .ofNat 4, .ofNat 23), (.ofNat 8, .ofNat 0, .ofNat 11), (.ofNat 8, .ofNat 8, .ofNat 13)] 0x4430806210c0118820 = true := by decide +kernel
theorem qf_t355 : qf_chk 355 [(.ofNat 1, .ofNat 1, .ofNat 89), (.ofNat 5, .ofNat 5, .ofNat 19), (.ofNat 7, .negSucc 2, .ofNat 13), (.ofNat 7, .ofNat 3, .ofNat 13)] 0x80430046210c0118820 = true := by decide +kernel
theorem qf_t356 : qf_chk 356 [(.ofNat 1, .ofNat 0, .ofNat 89), (.ofNat 2, .ofNat 2, .ofNat 45), (.ofNat 3, .negSucc 1, .ofNat 30), (.ofNat 3, .ofNat 2, .ofNat 30), (.ofNat 5, .negSucc 1, .ofNat 18), (.ofNat 5, .ofNat 2, .ofNat 18), (.ofNat 6, .negSucc 1, .ofNat 15), (.ofNat 6, .ofNat 2, .ofNat 15), (.ofNat 7, .negSucc 5, .ofNat 14), (.ofNat 7, .ofNat 6, .ofNat 14), (.ofNat 9, .negSucc 1, .ofNat 10), (.ofNat 9, .ofNat 2, .ofNat 10)] 0x2804649c2a40c8b010e332161124aa11c202ac665110930c01510e22ad28498aa58048204673a16402923094460ac671248032145504c240c0549d6440945204c9580e31a48b09507028c2215091894b398015a928398a418820 = true := by decide +kernel
theorem qf_t359 : qf_chk 359 [(.ofNat 1, .ofNat 1, .ofNat 90), (.ofNat 2, .negSucc 0, .ofNat 45), (.ofNat 2, .ofNat 1, .ofNat 45), (.ofNat 3, .negSucc 0, .ofNat 30), (.ofNat 3, .ofNat 1, .ofNat 30), (.ofNat 4, .negSucc 2, .ofNat 23), (.ofNat 4, .ofNat 3, .ofNat 23), (.ofNat 5, .negSucc 0, .ofNat 18), (.ofNat 5, .ofNat 1, .ofNat 18), (.ofNat 6, .negSucc 4, .ofNat 16), (.ofNat 6, .negSucc 0, .ofNat 15), (.ofNat 6, .ofNat 1, .ofNat 15), (.ofNat 6, .ofNat 5, .ofNat 16), (.ofNat 8, .negSucc 4, .ofNat 12), (.ofNat 8, .ofNat 5, .ofNat 12), (.ofNat 9, .negSucc 0, .ofNat 10), (.ofNat 9, .ofNat 1, .ofNat 10), (.ofNat 10, .negSucc 8, .ofNat 11), (.ofNat 10, .ofNat 9, .ofNat 11)] 0x4038ac7a02b6893019a2a3c80333609728476048f9150b8b8c202a2b6a4612a24c21df02b40192c8c728c289c69821ec82a4b005ed89c62220c92b9e98ac0a93a022206129ccc6a1cb206472bc098a8c28346c0a9ac7b8b2040664a0e28916b125cd83c113148760503929a71aa22040c8930ab7848e4898131c891964d02e0a73e28484a21a2262300e7a9ab940f0222221a9272adec03a416986f91c813218b828098b5c229a4c1a0a2385ea6ba3002d248948931e02405cb9340f6286a41e093362323e4172d85008eb7a0ac1924e8c1a24a8060ca307b9ac5a928398a418820 = true := by decide +kernel
theorem qf_t360 : qf_chk 360 [(.ofNat 1, .ofNat 0, .ofNat 90), (.ofNat 2, .ofNat 0, .ofNat 45), (.ofNat 5, .ofNat 0, .ofNat 18), (.ofNat 7, .negSucc 1, .ofNat 13), (.ofNat 7, .ofNat 2, .ofNat 13), (.ofNat 9, .negSucc 5, .ofNat 11), (.ofNat 9, .ofNat 0, .ofNat 10), (.ofNat 9, .ofNat 6, .ofNat 11)] 0x3140111067280e32044601cc208c8508c4601ca411020314e320467280c21888539801398a418820 = true := by decide +kernel
theorem qf_t363 : qf_chk 363 [(.ofNat 1, .ofNat 1, .ofNat 91), (.ofNat 3, .ofNat 3, .ofNat 31), (.ofNat 7, .negSucc 0, .ofNat 13), (.ofNat 7, .ofNat 1, .ofNat 13)] 0x80430046210c0118820 = true := by decide +kernel
theorem qf_t364 : qf_chk 364 [(.ofNat 1, .ofNat 0, .ofNat 91), (.ofNat 4, .negSucc 1, .ofNat 23), (.ofNat 4, .ofNat 2, .ofNat 23), (.ofNat 5, .negSucc 3, .ofNat 19), (.ofNat 5, .ofNat 4, .ofNat 19), (.ofNat 7, .ofNat 0, .ofNat 13)] 0x8241944100ca40804520c832840219480104a418820 = true := by decide +kernel
theorem qf_t367 : qf_chk 367 [(.ofNat 1, .ofNat 1, .ofNat 92), (.ofNat 2, .negSucc 0, .ofNat 46), (.ofNat 2, .ofNat 1, .ofNat 46), (.ofNat 4, .negSucc 0, .ofNat 23), (.ofNat 4, .ofNat 1, .ofNat 23), (.ofNat 7, .negSucc 4, .ofNat 14), (.ofNat 7, .ofNat 5, .ofNat 14), (.ofNat 8, .negSucc 6, .ofNat 13), (.ofNat 8, .ofNat 7, .ofNat 13)] 0x70088130ca802061288c438861020853988100867418a12a06601c44308870142818cc541c24008a43984800c28398a418820 = true := by decide +kernel
theorem qf_t368 : qf_chk 368 [(.ofNat 1, .ofNat 0, .ofNat 92), (.ofNat 3, .negSucc 1, .ofNat 31), (.ofNat 3, .ofNat 2, .ofNat 31), (.ofNat 4, .ofNat 0, .ofNat 23), (.ofNat 9, .negSucc 7, .ofNat 12), (.ofNat 9, .ofNat 8, .ofNat 12)] 0x2002311405104640880428c612140210ca0204a418820 = true := by decide +kernel
theorem qf_t371 : qf_chk 371 [(.ofNat 1, .ofNat 1, .ofNat 93), (.ofNat 3, .negSucc 0, .ofNat 31), (.ofNat 3, .ofNat 1, .ofNat 31), (.ofNat 5, .negSucc 2, .ofNat 19), (.ofNat 5, .ofNat 3, .ofNat 19), (.ofNat 7, .ofNat 7, .ofNat 15), (.ofNat 9, .negSucc 4, .ofNat 11), (.ofNat 9, .ofNat 5, .ofNat 11)] 0x280c310487014e120c4631c02090651844601ca411020394c308c872980220865300e1398a418820 = true := by decide +kernel
theorem qf_t372 : qf_chk 372 [(.ofNat 1, .ofNat 0, .ofNat 93), (.ofNat 2, .ofNat 2, .ofNat 47), (.ofNat 3, .ofNat 0, .ofNat 31), (.ofNat 6, .ofNat 6, .ofNat 17)] 0x4430806210c0118820 = true := by decide +kernel
theorem qf_t375 : qf_chk 375 [(.ofNat 1, .ofNat 1, .ofNat 94), (.ofNat 2, .negSucc 0, .ofNat 47), (.ofNat 2, .ofNat 1, .ofNat 47), (.ofNat 3, .ofNat 3, .ofNat 32), (.ofNat 4, .negSucc 2, .ofNat 24), (.ofNat 4, .ofNat 3, .ofNat 24), (.ofNat 6, .negSucc 2, .ofNat 16), (.ofNat 6, .ofNat 3, .ofNat 16), (.ofNat 8, .negSucc 2, .ofNat 12), (.ofNat 8, .ofNat 3, .ofNat 12)] 0x3804818485324064844329c88124a02182341d01010e512466188873010149423314074a044214224240638ca71a4283100231103488e028528398a418820 = true := by decide +kernel
theorem qf_t376 : qf_chk 376 [(.ofNat 1, .ofNat 0, .ofNat 94), (.ofNat 2, .ofNat 0, .ofNat 47), (.ofNat 5, .negSucc 1, .ofNat 19), (.ofNat 5, .ofNat 2, .ofNat 19), (.ofNat 7, .negSucc 3, .ofNat 14), (.ofNat 7, .ofNat 4, .ofNat 14), (.ofNat 10, .negSucc 7, .ofNat 11), (.ofNat 10, .ofNat 8, .ofNat 11)] 0x200c30944701447204663082038c8519c01118a4090e2280c328466010e210c8531c01398a418820 = true := by decide +kernel
theorem qf_t379 : qf_chk 379 [(.ofNat 1, .ofNat 1, .ofNat 95), (.ofNat 5, .negSucc 0, .ofNat 19), (.ofNat 5, .ofNat 1, .ofNat 19)] 0x10080208820 = true := by decide +kernel
theorem qf_t380 : qf_chk 380 [(.ofNat 1, .ofNat 0, .ofNat 95), (.ofNat 3, .negSucc 1, .ofNat 32), (.ofNat 3, .ofNat 2, .ofNat 32), (.ofNat 5, .ofNat 0, .ofNat 19), (.ofNat 8, .negSucc 5, .ofNat 13), (.ofNat 8, .ofNat 6, .ofNat 13), (.ofNat 9, .negSucc 3, .ofNat 11), (.ofNat 9, .ofNat 4, .ofNat 11)] 0x180453048700c8139446110e008cc52840611c6431c22010a30946721802208c3280e1398a418820 = true := by decide +kernel
theorem qf_t383 : qf_chk 383 [(.ofNat 1, .ofNat 1, .ofNat 96), (.ofNat 2, .negSucc 0, .ofNat 48), (.ofNat 2, .ofNat 1, .ofNat 48), (.ofNat 3, .negSucc 0, .ofNat 32), (.ofNat 3, .ofNat 1, .ofNat 32), (.ofNat 4, .negSucc 0, .ofNat 24), (.ofNat 4, .ofNat 1, .ofNat 24), (.ofNat 6, .negSucc 4, .ofNat 17), (.ofNat 6, .negSucc 0, .ofNat 16), (.ofNat 6, .ofNat 1, .ofNat 16), (.ofNat 6, .ofNat 5, .ofNat 17), (.ofNat 7, .negSucc 2, .ofNat 14), (.ofNat 7, .ofNat 3, .ofNat 14), (.ofNat 8, .negSucc 0, .ofNat 12), (.ofNat 8, .ofNat 1, .ofNat 12), (.ofNat 9, .negSucc 6, .ofNat 12), (.ofNat 9, .ofNat 7, .ofNat 12)] 0xd03d012a5c71306622d50039303082a6a08b194ec7bd2a010ec0c1a3115683391001d4373c4b091862a5a1311420146971e086bd6c288e3005a8219ea725905a42c715a433c0b408f01a9ca0bc683301029d62691276c04923c0b2a8c160dc8121ab7181028d2c5048f3b08309deb2a9280360e1186b1120a41ccc025ee0b4a61958870961535f0024e4215666a4e26060e03d481ace82bd9068c8e0a5460094c32570191cf134e8014307b9ac5a928398a418820 = true := by decide +kernel
theorem qf_t384 : qf_chk 384 [(.ofNat 1, .ofNat 0, .ofNat 96), (.ofNat 3, .ofNat 0, .ofNat 32), (.ofNat 4, .ofNat 4, .ofNat 25), (.ofNat 5, .negSucc 3, .ofNat 20), (.ofNat 5, .ofNat 4, .ofNat 20), (.ofNat 7, .negSucc 5, .ofNat 15), (.ofNat 7, .ofNat 6, .ofNat 15), (.ofNat 11, .ofNat 10, .ofNat 11)] 0xc85304471880709486200413986529c2200cc4304e0110a3094c3200e21106629c01398a418820 = true := by decide +kernel
theorem qf_t387 : qf_chk 387 [(.ofNat 1, .ofNat 1, .ofNat 97), (.ofNat 9, .negSucc 2, .ofNat 11), (.ofNat 9, .ofNat 3, .ofNat 11), (.ofNat 9, .ofNat 9, .ofNat 13)] 0x44308c021006118820 = true := by decide +kernel
theorem qf_t388 : qf_chk 388 [(.ofNat 1, .ofNat 0, .ofNat 97), (.ofNat 2, .ofNat 2, .ofNat 49), (.ofNat 7, .negSucc 1, .ofNat 14), (.ofNat 7, .ofNat 2, .ofNat 14)] 0x80430046210c0118820 = true := by decide +kernel
theorem qf_t391 : qf_chk 391 [(.ofNat 1, .ofNat 1, .ofNat 98), (.ofNat 2, .negSucc 0, .ofNat 49), (.ofNat 2, .ofNat 1, .ofNat 49), (.ofNat 4, .negSucc 2, .ofNat 25), (.ofNat 4, .ofNat 3, .ofNat 25), (.ofNat 5, .negSucc 2, .ofNat 20), (.ofNat 5, .ofNat 3, .ofNat 20), (.ofNat 7, .negSucc 0, .ofNat 14), (.ofNat 7, .ofNat 1, .ofNat 14), (.ofNat 8, .negSucc 4, .ofNat 13), (.ofNat 8, .ofNat 5, .ofNat 13), (.ofNat 10, .negSucc 6, .ofNat 11), (.ofNat 10, .ofNat 3, .ofNat 10), (.ofNat 10, .ofNat 7, .ofNat 11)] 0x51006588614a1853b4801a0ea4882d598ac00d2d2902a130e832cc86840561d622246a59ca0130cd40c245244a215810246669d681a42c3004452cad41c2251da920c0542d864844b40d4021ccc6950d60866594ea0052462ce40b4a83012a10ca6424876ad8150c02394c352d0c6a440205ac5a928398a418820 = true := by decide +kernel
theorem qf_t392 : qf_chk 392 [(.ofNat 1, .ofNat 0, .ofNat 98), (.ofNat 2, .ofNat 0, .ofNat 49), (.ofNat 3, .negSucc 1, .ofNat 33), (.ofNat 3, .ofNat 2, .ofNat 33), (.ofNat 6, .negSucc 3, .ofNat 17), (.ofNat 6, .ofNat 4, .ofNat 17), (.ofNat 9, .negSucc 1, .ofNat 11), (.ofNat 9, .ofNat 2, .ofNat 11)] 0x808228cc700465110e620cc009c4511407304642882638083190e1018a231c4321401398a418820 = true := by decide +kernel
theorem qf_t395 : qf_chk 395 [(.ofNat 1, .ofNat 1, .ofNat 99), (.ofNat 3, .negSucc 0, .ofNat 33), (.ofNat 3, .ofNat 1, .ofNat 33), (.ofNat 5, .ofNat 5, .ofNat 21), (.ofNat 7, .negSucc 4, .ofNat 15), (.ofNat 7, .ofNat 5, .ofNat 15), (.ofNat 9, .negSucc 0, .ofNat 11), (.ofNat 9, .ofNat 1, .ofNat 11)] 0x180253104700c82384a6090e0118652880608ce431c4101483204c329c0211467200c1398a418820 = true := by decide +kernel
theorem qf_t396 : qf_chk 396 [(.ofNat 1, .ofNat 0, .ofNat 99), (.ofNat 4, .negSucc 1, .ofNat 25), (.ofNat 4, .ofNat 2, .ofNat 25), (.ofNat 5, .negSucc 1, .ofNat 20), (.ofNat 5, .ofNat 2, .ofNat 20), (.ofNat 9, .ofNat 0, .ofNat 11)] 0x8241944100ca40804520c832840219480104a418820 = true := by decide +kernel
theorem qf_t399 : qf_chk 399 [(.ofNat 1, .ofNat 1, .ofNat 100), (.ofNat 2, .negSucc 0, .ofNat 50), (.ofNat 2, .ofNat 1, .ofNat 50), (.ofNat 3, .ofNat 3, .ofNat 34), (.ofNat 4, .negSucc 0, .ofNat 25), (.ofNat 4, .ofNat 1, .ofNat 25), (.ofNat 5, .negSucc 0, .ofNat 20), (.ofNat 5, .ofNat 1, .ofNat 20), (.ofNat 6, .negSucc 2, .ofNat 17), (.ofNat 6, .ofNat 3, .ofNat 17), (.ofNat 7, .ofNat 7, .ofNat 16), (.ofNat 8, .negSucc 6, .ofNat 14), (.ofNat 8, .ofNat 7, .ofNat 14), (.ofNat 10, .negSucc 8, .ofNat 12), (.ofNat 10, .ofNat 1, .ofNat 10), (.ofNat 10, .ofNat 9, .ofNat 12)] 0x514074358112c6e224cf2808848d6c089ed518ee0114933c4b605c329d0d3a125009cf1b42b3114c424c0205ae78d823a8ab68de2080e64a0857316a62c4e69c802a90608de90b16f71805510e913468105837a4aa200c85b9a75882d1a1440152763dc61bdc161107325406ac457346b114c941c0a78584228a63b8225b1af02123498e45306d73d614140231d0a2ade36b84c480817b9ac5a928398a418820 = true := by decide +kernel
theorem qf_t400 : qf_chk 400 [(.ofNat 1, .ofNat 0, .ofNat 100), (.ofNat 4, .ofNat 0, .ofNat 25), (.ofNat 8, .negSucc 3, .ofNat 13), (.ofNat 8, .ofNat 4, .ofNat 13)] 0x80430046210c0118820 = true := by decide +kernel
theorem qf_b303 (d : Nat) (h1 : 303 ≤ d) (h2 : d ≤ 320) (hv : d % 4 = 0 ∨ d % 4 = 3) : ∃ L N, qf_chk d L N = true := by
  have h : d = 303 ∨ d = 304 ∨ d = 307 ∨ d = 308 ∨ d = 311 ∨ d = 312 ∨ d = 315 ∨ d = 316 ∨ d = 319 ∨ d = 320 := by omega
  rcases h with rfl | rfl | rfl | rfl | rfl | rfl | rfl | rfl | rfl | rfl
  · exact ⟨_, _, qf_t303⟩
  · exact ⟨_, _, qf_t304⟩
  · exact ⟨_, _, qf_t307⟩
  · exact ⟨_, _, qf_t308⟩
  · exact ⟨_, _, qf_t311⟩
  · exact ⟨_, _, qf_t312⟩
  · exact ⟨_, _, qf_t315⟩
  · exact ⟨_, _, qf_t316⟩
  · exact ⟨_, _, qf_t319⟩
  · exact ⟨_, _, qf_t320⟩
theorem qf_b323 (d : Nat) (h1 : 323 ≤ d) (h2 : d ≤ 340) (hv : d % 4 = 0 ∨ d % 4 = 3) : ∃ L N, qf_chk d L N = true := by
  have h : d = 323 ∨ d = 324 ∨ d = 327 ∨ d = 328 ∨ d = 331 ∨ d = 332 ∨ d = 335 ∨ d = 336 ∨ d = 339 ∨ d = 340 := by omega
  rcases h with rfl | rfl | rfl | rfl | rfl | rfl | rfl | rfl | rfl | rfl
  · exact ⟨_, _, qf_t323⟩
  · exact ⟨_, _, qf_t324⟩
  · exact ⟨_, _, qf_t327⟩
  · exact ⟨_, _, qf_t328⟩
  · exact ⟨_, _, qf_t331⟩
  · exact ⟨_, _, qf_t332⟩
  · exact ⟨_, _, qf_t335⟩
  · exact ⟨_, _, qf_t336⟩
  · exact ⟨_, _, qf_t339⟩
  · exact ⟨_, _, qf_t340⟩
theorem qf_b343 (d : Nat) (h1 : 343 ≤ d) (h2 : d ≤ 360) (hv : d % 4 = 0 ∨ d % 4 = 3) : ∃ L N, qf_chk d L N = true := by
  have h : d = 343 ∨ d = 344 ∨ d = 347 ∨ d = 348 ∨ d = 351 ∨ d = 352 ∨ d = 355 ∨ d = 356 ∨ d = 359 ∨ d = 360 := by omega
  rcases h with rfl | rfl | rfl | rfl | rfl | rfl | rfl | rfl | rfl | rfl
  · exact ⟨_, _, qf_t343⟩
  · exact ⟨_, _, qf_t344⟩
  · exact ⟨_, _, qf_t347⟩
  · exact ⟨_, _, qf_t348⟩
  · exact ⟨_, _, qf_t351⟩
  · exact ⟨_, _, qf_t352⟩
  · exact ⟨_, _, qf_t355⟩
  · exact ⟨_, _, qf_t356⟩
  · exact ⟨_, _, qf_t359⟩
  · exact ⟨_, _, qf_t360⟩
theorem qf_b363 (d : Nat) (h1 : 363 ≤ d) (h2 : d ≤ 380) (hv : d % 4 = 0 ∨ d % 4 = 3) : ∃ L N, qf_chk d L N = true := by
  have h : d = 363 ∨ d = 364 ∨ d = 367 ∨ d = 368 ∨ d = 371 ∨ d = 372 ∨ d = 375 ∨ d = 376 ∨ d = 379 ∨ d = 380 := by omega
  rcases h with rfl | rfl | rfl | rfl | rfl | rfl | rfl | rfl | rfl | rfl
  · exact ⟨_, _, qf_t363⟩
  · exact ⟨_, _, qf_t364⟩
  · exact ⟨_, _, qf_t367⟩
  · exact ⟨_, _, qf_t368⟩
  · exact ⟨_, _, qf_t371⟩
  · exact ⟨_, _, qf_t372⟩
  · exact ⟨_, _, qf_t375⟩
  · exact ⟨_, _, qf_t376⟩
  · exact ⟨_, _, qf_t379⟩
  · exact ⟨_, _, qf_t380⟩
theorem qf_b383 (d : Nat) (h1 : 383 ≤ d) (h2 : d ≤ 400) (hv : d % 4 = 0 ∨ d % 4 = 3) : ∃ L N, qf_chk d L N = true := by
  have h : d = 383 ∨ d = 384 ∨ d = 387 ∨ d = 388 ∨ d = 391 ∨ d = 392 ∨ d = 395 ∨ d = 396 ∨ d = 399 ∨ d = 400 := by omega
  rcases h with rfl | rfl | rfl | rfl | rfl | rfl | rfl | rfl | rfl | rfl
  · exact ⟨_, _, qf_t383⟩
  · exact ⟨_, _, qf_t384⟩
  · exact ⟨_, _, qf_t387⟩
  · exact ⟨_, _, qf_t388⟩
  · exact ⟨_, _, qf_t391⟩
  · exact ⟨_, _, qf_t392⟩
  · exact ⟨_, _, qf_t395⟩
  · exact ⟨_, _, qf_t396⟩
  · exact ⟨_, _, qf_t399⟩
  · exact ⟨_, _, qf_t400⟩
theorem qf_ex (d : Nat) (h1 : 3 ≤ d) (h2 : d ≤ 400) (hv : d % 4 = 0 ∨ d % 4 = 3) : ∃ L N, qf_chk d L N = true := by
  by_cases g3 : d ≤ 20
  · exact qf_b3 d (by omega) g3 hv
  by_cases g23 : d ≤ 40
  · exact qf_b23 d (by omega) g23 hv
  by_cases g43 : d ≤ 60
  · exact qf_b43 d (by omega) g43 hv
  by_cases g63 : d ≤ 80
  · exact qf_b63 d (by omega) g63 hv
  by_cases g83 : d ≤ 100
  · exact qf_b83 d (by omega) g83 hv
  by_cases g103 : d ≤ 120
  · exact qf_b103 d (by omega) g103 hv
  by_cases g123 : d ≤ 140
  · exact qf_b123 d (by omega) g123 hv
  by_cases g143 : d ≤ 160
  · exact qf_b143 d (by omega) g143 hv
  by_cases g163 : d ≤ 180
  · exact qf_b163 d (by omega) g163 hv
  by_cases g183 : d ≤ 200
  · exact qf_b183 d (by omega) g183 hv
  by_cases g203 : d ≤ 220
  · exact qf_b203 d (by omega) g203 hv
  by_cases g223 : d ≤ 240
  · exact qf_b223 d (by omega) g223 hv
  by_cases g243 : d ≤ 260
  · exact qf_b243 d (by omega) g243 hv
  by_cases g263 : d ≤ 280
  · exact qf_b263 d (by omega) g263 hv
  by_cases g283 : d ≤ 300
  · exact qf_b283 d (by omega) g283 hv
  by_cases g303 : d ≤ 320
  · exact qf_b303 d (by omega) g303 hv
  by_cases g323 : d ≤ 340
  · exact qf_b323 d (by omega) g323 hv
  by_cases g343 : d ≤ 360
  · exact qf_b343 d (by omega) g343 hv
  by_cases g363 : d ≤ 380
  · exact qf_b363 d (by omega) g363 hv
  by_cases g383 : d ≤ 400
  · exact qf_b383 d (by omega) g383 hv
  omega
