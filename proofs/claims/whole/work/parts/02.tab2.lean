/-! tables, part 2: written by wip/tables.py -/
theorem qf_t203 : qf_chk 203 [(.ofNat 1, .ofNat 1, .ofNat 51), (.ofNat 3, .negSucc 0, .ofNat 17), (.ofNat 3, .ofNat 1, .ofNat 17), (.ofNat 7, .ofNat 7, .ofNat 9)] 0x44308c021006118820 = true := by decide +kernel
theorem qf_t204 : qf_chk 204 [(.ofNat 1, .ofNat 0, .ofNat 51), (.ofNat 3, .ofNat 0, .ofNat 17), (.ofNat 4, .negSucc 1, .ofNat 13), (.ofNat 4, .ofNat 2, .ofNat 13), (.ofNat 5, .negSucc 3, .ofNat 11), (.ofNat 5, .ofNat 4, .ofNat 11)] 0x1802411402284640944020c8100ca210c85004a418820 = true := by decide +kernel
theorem qf_t207 : qf_chk 207 [(.ofNat 1, .ofNat 1, .ofNat 52), (.ofNat 2, .negSucc 0, .ofNat 26), (.ofNat 2, .ofNat 1, .ofNat 26), (.ofNat 4, .negSucc 0, .ofNat 13), (.ofNat 4, .ofNat 1, .ofNat 13), (.ofNat 8, .ofNat 7, .ofNat 8)] 0x44321423014441008128c6509002208a0184a418820 = true := by decide +kernel
theorem qf_t208 : qf_chk 208 [(.ofNat 1, .ofNat 0, .ofNat 52), (.ofNat 4, .ofNat 0, .ofNat 13), (.ofNat 7, .negSucc 3, .ofNat 8), (.ofNat 7, .ofNat 4, .ofNat 8)] 0x80430046210c0118820 = true := by decide +kernel
theorem qf_t211 : qf_chk 211 [(.ofNat 1, .ofNat 1, .ofNat 53), (.ofNat 5, .negSucc 2, .ofNat 11), (.ofNat 5, .ofNat 3, .ofNat 11)] 0x10080208820 = true := by decide +kernel
theorem qf_t212 : qf_chk 212 [(.ofNat 1, .ofNat 0, .ofNat 53), (.ofNat 2, .ofNat 2, .ofNat 27), (.ofNat 3, .negSucc 1, .ofNat 18), (.ofNat 3, .ofNat 2, .ofNat 18), (.ofNat 6, .negSucc 1, .ofNat 9), (.ofNat 6, .ofNat 2, .ofNat 9)] 0x200411940508c441048028c2301482188a4004a418820 = true := by decide +kernel
theorem qf_t215 : qf_chk 215 [(.ofNat 1, .ofNat 1, .ofNat 54), (.ofNat 2, .negSucc 0, .ofNat 27), (.ofNat 2, .ofNat 1, .ofNat 27), (.ofNat 3, .negSucc 0, .ofNat 18), (.ofNat 3, .ofNat 1, .ofNat 18), (.ofNat 4, .negSucc 2, .ofNat 14), (.ofNat 4, .ofNat 3, .ofNat 14), (.ofNat 5, .ofNat 5, .ofNat 12), (.ofNat 6, .negSucc 4, .ofNat 10), (.ofNat 6, .negSucc 0, .ofNat 9), (.ofNat 6, .ofNat 1, .ofNat 9), (.ofNat 6, .ofNat 5, .ofNat 10), (.ofNat 7, .negSucc 2, .ofNat 8), (.ofNat 7, .ofNat 3, .ofNat 8)] 0x580813b142199092b40869c434902b2994c234c550029409871ac272ac096a0c31308a3894041985584836a583024c512d4d090e85242d60803214c859c444a0ab1a80768586185065a8804b0ed114cb10c2d29d890290441582204cd3814b48d263b064405aa594022a86469d6c12120305ac5a928398a418820 = true := by decide +kernel
theorem qf_t216 : qf_chk 216 [(.ofNat 1, .ofNat 0, .ofNat 54), (.ofNat 2, .ofNat 0, .ofNat 27), (.ofNat 5, .negSucc 1, .ofNat 11), (.ofNat 5, .ofNat 2, .ofNat 11), (.ofNat 7, .negSucc 5, .ofNat 9), (.ofNat 7, .ofNat 6, .ofNat 9)] 0x200231140510464088a020c61010a210c85004a418820 = true := by decide +kernel
theorem qf_t219 : qf_chk 219 [(.ofNat 1, .ofNat 1, .ofNat 55), (.ofNat 3, .ofNat 3, .ofNat 19), (.ofNat 5, .negSucc 0, .ofNat 11), (.ofNat 5, .ofNat 1, .ofNat 11)] 0x80430046210c0118820 = true := by decide +kernel
theorem qf_t220 : qf_chk 220 [(.ofNat 1, .ofNat 0, .ofNat 55), (.ofNat 5, .ofNat 0, .ofNat 11), (.ofNat 7, .negSucc 1, .ofNat 8), (.ofNat 7, .ofNat 2, .ofNat 8)] 0x80430046210c0118820 = true := by decide +kernel
theorem qf_t223 : qf_chk 223 [(.ofNat 1, .ofNat 1, .ofNat 56), (.ofNat 2, .negSucc 0, .ofNat 28), (.ofNat 2, .ofNat 1, .ofNat 28), (.ofNat 4, .negSucc 0, .ofNat 14), (.ofNat 4, .ofNat 1, .ofNat 14), (.ofNat 7, .negSucc 0, .ofNat 8), (.ofNat 7, .ofNat 1, .ofNat 8)] 0x20048329801188c42846601444208050986331424008a411803098a418820 = true := by decide +kernel
theorem qf_t224 : qf_chk 224 [(.ofNat 1, .ofNat 0, .ofNat 56), (.ofNat 3, .negSucc 1, .ofNat 19), (.ofNat 3, .ofNat 2, .ofNat 19), (.ofNat 4, .ofNat 4, .ofNat 15), (.ofNat 5, .negSucc 3, .ofNat 12), (.ofNat 5, .ofNat 4, .ofNat 12), (.ofNat 7, .ofNat 0, .ofNat 8), (.ofNat 8, .ofNat 8, .ofNat 9)] 0xc853044718022390a6204e0118652880708cc431c4101483090c329c0211466200e1398a418820 = true := by decide +kernel
theorem qf_t227 : qf_chk 227 [(.ofNat 1, .ofNat 1, .ofNat 57), (.ofNat 3, .negSucc 0, .ofNat 19), (.ofNat 3, .ofNat 1, .ofNat 19), (.ofNat 7, .negSucc 4, .ofNat 9), (.ofNat 7, .ofNat 5, .ofNat 9)] 0x100c440082418c240084400c2418820 = true := by decide +kernel
theorem qf_t228 : qf_chk 228 [(.ofNat 1, .ofNat 0, .ofNat 57), (.ofNat 2, .ofNat 2, .ofNat 29), (.ofNat 3, .ofNat 0, .ofNat 19), (.ofNat 6, .ofNat 6, .ofNat 11)] 0x4430806210c0118820 = true := by decide +kernel
theorem qf_t231 : qf_chk 231 [(.ofNat 1, .ofNat 1, .ofNat 58), (.ofNat 2, .negSucc 0, .ofNat 29), (.ofNat 2, .ofNat 1, .ofNat 29), (.ofNat 3, .ofNat 3, .ofNat 20), (.ofNat 4, .negSucc 2, .ofNat 15), (.ofNat 4, .ofNat 3, .ofNat 15), (.ofNat 5, .negSucc 2, .ofNat 12), (.ofNat 5, .ofNat 3, .ofNat 12), (.ofNat 6, .negSucc 2, .ofNat 10), (.ofNat 6, .ofNat 3, .ofNat 10), (.ofNat 7, .ofNat 7, .ofNat 10), (.ofNat 8, .ofNat 5, .ofNat 8)] 0xce64a0415148b1808508909598ea390a012d4808cc9314045852a11c684844b280662290740961010e32a5461214919c80305650a50a30c053ac4452c22214c702123298675242b4100221cc342962480a15a928398a418820 = true := by decide +kernel
theorem qf_t232 : qf_chk 232 [(.ofNat 1, .ofNat 0, .ofNat 58), (.ofNat 2, .ofNat 0, .ofNat 29)] 0x420 = true := by decide +kernel
theorem qf_t235 : qf_chk 235 [(.ofNat 1, .ofNat 1, .ofNat 59), (.ofNat 5, .ofNat 5, .ofNat 13)] 0x420 = true := by decide +kernel
theorem qf_t236 : qf_chk 236 [(.ofNat 1, .ofNat 0, .ofNat 59), (.ofNat 3, .negSucc 1, .ofNat 20), (.ofNat 3, .ofNat 2, .ofNat 20), (.ofNat 4, .negSucc 1, .ofNat 15), (.ofNat 4, .ofNat 2, .ofNat 15), (.ofNat 5, .negSucc 1, .ofNat 12), (.ofNat 5, .ofNat 2, .ofNat 12), (.ofNat 7, .negSucc 3, .ofNat 9), (.ofNat 7, .ofNat 4, .ofNat 9)] 0x501c6609048018881142339c820050329868004e2310a6104e30150409502010e619023314e8008432910601c28398a418820 = true := by decide +kernel
theorem qf_t239 : qf_chk 239 [(.ofNat 1, .ofNat 1, .ofNat 60), (.ofNat 2, .negSucc 0, .ofNat 30), (.ofNat 2, .ofNat 1, .ofNat 30), (.ofNat 3, .negSucc 0, .ofNat 20), (.ofNat 3, .ofNat 1, .ofNat 20), (.ofNat 4, .negSucc 0, .ofNat 15), (.ofNat 4, .ofNat 1, .ofNat 15), (.ofNat 5, .negSucc 0, .ofNat 12), (.ofNat 5, .ofNat 1, .ofNat 12), (.ofNat 6, .negSucc 4, .ofNat 11), (.ofNat 6, .negSucc 0, .ofNat 10), (.ofNat 6, .ofNat 1, .ofNat 10), (.ofNat 6, .ofNat 5, .ofNat 11), (.ofNat 8, .negSucc 6, .ofNat 9), (.ofNat 8, .ofNat 7, .ofNat 9)] 0x4021865092158da53b8035952760542711066a16133807691422a46c614ca0342372502391664b80b2904c684e342947034a2721633048c48987091c900cc55a9a8485a31200c2914672ce1511cc58ca801d2d11962525a3310076202e28dc2404c551d8d02d24690a2385664a00e62865424e3229cd0ad86008e61910c6ac4e4a8050b9ac5a928398a418820 = true := by decide +kernel
theorem qf_t240 : qf_chk 240 [(.ofNat 1, .ofNat 0, .ofNat 60), (.ofNat 3, .ofNat 0, .ofNat 20), (.ofNat 4, .ofNat 0, .ofNat 15), (.ofNat 5, .ofNat 0, .ofNat 12)] 0x4430806210c0118820 = true := by decide +kernel
theorem qf_t243 : qf_chk 243 [(.ofNat 1, .ofNat 1, .ofNat 61), (.ofNat 7, .negSucc 2, .ofNat 9), (.ofNat 7, .ofNat 3, .ofNat 9)] 0x10080208820 = true := by decide +kernel
theorem qf_t244 : qf_chk 244 [(.ofNat 1, .ofNat 0, .ofNat 61), (.ofNat 2, .ofNat 2, .ofNat 31), (.ofNat 5, .negSucc 3, .ofNat 13), (.ofNat 5, .ofNat 4, .ofNat 13), (.ofNat 7, .negSucc 5, .ofNat 10), (.ofNat 7, .ofNat 6, .ofNat 10)] 0x1008119403094442044028c2500c82188a4004a418820 = true := by decide +kernel
theorem qf_t247 : qf_chk 247 [(.ofNat 1, .ofNat 1, .ofNat 62), (.ofNat 2, .negSucc 0, .ofNat 31), (.ofNat 2, .ofNat 1, .ofNat 31), (.ofNat 4, .negSucc 2, .ofNat 16), (.ofNat 4, .ofNat 3, .ofNat 16), (.ofNat 8, .ofNat 3, .ofNat 8)] 0x82419443004a40808510c8128c0219440204a418820 = true := by decide +kernel
theorem qf_t248 : qf_chk 248 [(.ofNat 1, .ofNat 0, .ofNat 62), (.ofNat 2, .ofNat 0, .ofNat 31), (.ofNat 3, .negSucc 1, .ofNat 21), (.ofNat 3, .ofNat 2, .ofNat 21), (.ofNat 6, .negSucc 3, .ofNat 11), (.ofNat 6, .ofNat 4, .ofNat 11), (.ofNat 7, .negSucc 1, .ofNat 9), (.ofNat 7, .ofNat 2, .ofNat 9)] 0x8065110c70048228ce6190e0098452880638464114273008320cc101ca231c4321401398a418820 = true := by decide +kernel
theorem qf_t251 : qf_chk 251 [(.ofNat 1, .ofNat 1, .ofNat 63), (.ofNat 3, .negSucc 0, .ofNat 21), (.ofNat 3, .ofNat 1, .ofNat 21), (.ofNat 5, .negSucc 2, .ofNat 13), (.ofNat 5, .ofNat 3, .ofNat 13), (.ofNat 7, .negSucc 0, .ofNat 9), (.ofNat 7, .ofNat 1, .ofNat 9)] 0x301441218040986229422018641180121461198850088219406098a418820 = true := by decide +kernel
theorem qf_t252 : qf_chk 252 [(.ofNat 1, .ofNat 0, .ofNat 63), (.ofNat 7, .ofNat 0, .ofNat 9), (.ofNat 8, .negSucc 5, .ofNat 9), (.ofNat 8, .ofNat 6, .ofNat 9)] 0x80430046210c0118820 = true := by decide +kernel
theorem qf_t255 : qf_chk 255 [(.ofNat 1, .ofNat 1, .ofNat 64), (.ofNat 2, .negSucc 0, .ofNat 32), (.ofNat 2, .ofNat 1, .ofNat 32), (.ofNat 3, .ofNat 3, .ofNat 22), (.ofNat 4, .negSucc 0, .ofNat 16), (.ofNat 4, .ofNat 1, .ofNat 16), (.ofNat 5, .ofNat 5, .ofNat 14), (.ofNat 6, .negSucc 2, .ofNat 11), (.ofNat 6, .ofNat 3, .ofNat 11), (.ofNat 7, .negSucc 4, .ofNat 10), (.ofNat 7, .ofNat 5, .ofNat 10), (.ofNat 8, .ofNat 1, .ofNat 8)] 0x20ea48c22310ab4100258523298ea380ab0886a220c950964014e608d284ac20290c81286718445201075a5460a4673208052c4510d4641c05485643148112d4901d0321903525613940229cc91a84b400815a928398a418820 = true := by decide +kernel
theorem qf_t256 : qf_chk 256 [(.ofNat 1, .ofNat 0, .ofNat 64), (.ofNat 4, .ofNat 4, .ofNat 17), (.ofNat 5, .negSucc 1, .ofNat 13), (.ofNat 5, .ofNat 2, .ofNat 13)] 0x80430046210c0118820 = true := by decide +kernel
theorem qf_t259 : qf_chk 259 [(.ofNat 1, .ofNat 1, .ofNat 65), (.ofNat 5, .negSucc 0, .ofNat 13), (.ofNat 5, .ofNat 1, .ofNat 13), (.ofNat 7, .ofNat 7, .ofNat 11)] 0x44308c021006118820 = true := by decide +kernel
theorem qf_t260 : qf_chk 260 [(.ofNat 1, .ofNat 0, .ofNat 65), (.ofNat 2, .ofNat 2, .ofNat 33), (.ofNat 3, .negSucc 1, .ofNat 22), (.ofNat 3, .ofNat 2, .ofNat 22), (.ofNat 5, .ofNat 0, .ofNat 13), (.ofNat 6, .negSucc 1, .ofNat 11), (.ofNat 6, .ofNat 2, .ofNat 11), (.ofNat 9, .ofNat 8, .ofNat 9)] 0x14c110c8729c0220466300e30904508860298e411025380c31848601ca220c4731401398a418820 = true := by decide +kernel
theorem qf_t263 : qf_chk 263 [(.ofNat 1, .ofNat 1, .ofNat 66), (.ofNat 2, .negSucc 0, .ofNat 33), (.ofNat 2, .ofNat 1, .ofNat 33), (.ofNat 3, .negSucc 0, .ofNat 22), (.ofNat 3, .ofNat 1, .ofNat 22), (.ofNat 4, .negSucc 2, .ofNat 17), (.ofNat 4, .ofNat 3, .ofNat 17), (.ofNat 6, .negSucc 4, .ofNat 12), (.ofNat 6, .negSucc 0, .ofNat 11), (.ofNat 6, .ofNat 1, .ofNat 11), (.ofNat 6, .ofNat 5, .ofNat 12), (.ofNat 8, .negSucc 4, .ofNat 9), (.ofNat 8, .ofNat 5, .ofNat 9)] 0xa0242758866220ac01d8a12081194c95a5812ac08208c71a82a28c0c399025912712c043154148d885a00c308692848a388883946902981598612194902167608a6189012a96c024e4214c24858702d481a0c758c8162545008a91918a588e80182c5a928398a418820 = true := by decide +kernel
theorem qf_t264 : qf_chk 264 [(.ofNat 1, .ofNat 0, .ofNat 66), (.ofNat 2, .ofNat 0, .ofNat 33), (.ofNat 3, .ofNat 0, .ofNat 22), (.ofNat 5, .negSucc 3, .ofNat 14), (.ofNat 5, .ofNat 4, .ofNat 14), (.ofNat 6, .ofNat 0, .ofNat 11), (.ofNat 7, .negSucc 3, .ofNat 10), (.ofNat 7, .ofNat 4, .ofNat 10)] 0x10081298670086509c8620c0730445094e200cc4284c0110e331c23200a21904639401398a418820 = true := by decide +kernel
theorem qf_t267 : qf_chk 267 [(.ofNat 1, .ofNat 1, .ofNat 67), (.ofNat 3, .ofNat 3, .ofNat 23)] 0x420 = true := by decide +kernel
theorem qf_t268 : qf_chk 268 [(.ofNat 1, .ofNat 0, .ofNat 67), (.ofNat 4, .negSucc 1, .ofNat 17), (.ofNat 4, .ofNat 2, .ofNat 17)] 0x10080208820 = true := by decide +kernel
theorem qf_t271 : qf_chk 271 [(.ofNat 1, .ofNat 1, .ofNat 68), (.ofNat 2, .negSucc 0, .ofNat 34), (.ofNat 2, .ofNat 1, .ofNat 34), (.ofNat 4, .negSucc 0, .ofNat 17), (.ofNat 4, .ofNat 1, .ofNat 17), (.ofNat 5, .negSucc 2, .ofNat 14), (.ofNat 5, .ofNat 3, .ofNat 14), (.ofNat 7, .negSucc 2, .ofNat 10), (.ofNat 7, .ofNat 3, .ofNat 10), (.ofNat 8, .negSucc 6, .ofNat 10), (.ofNat 8, .ofNat 7, .ofNat 10)] 0x801125104e33280750c26408a4491410086649ca848c0220545320e50888900d0a398461840a391092850650ce50244438925410060a86329cca42424008c42a0e9128030a928398a418820 = true := by decide +kernel
theorem qf_t272 : qf_chk 272 [(.ofNat 1, .ofNat 0, .ofNat 68), (.ofNat 3, .negSucc 1, .ofNat 23), (.ofNat 3, .ofNat 2, .ofNat 23), (.ofNat 4, .ofNat 0, .ofNat 17), (.ofNat 7, .negSucc 5, .ofNat 11), (.ofNat 7, .ofNat 6, .ofNat 11), (.ofNat 8, .negSucc 3, .ofNat 9), (.ofNat 8, .ofNat 4, .ofNat 9)] 0x180253104700c82384a6090e0118652880608ce431c4101483204c329c0211467200c1398a418820 = true := by decide +kernel
theorem qf_t275 : qf_chk 275 [(.ofNat 1, .ofNat 1, .ofNat 69), (.ofNat 3, .negSucc 0, .ofNat 23), (.ofNat 3, .ofNat 1, .ofNat 23), (.ofNat 9, .ofNat 7, .ofNat 9)] 0x44308c021006118820 = true := by decide +kernel
theorem qf_t276 : qf_chk 276 [(.ofNat 1, .ofNat 0, .ofNat 69), (.ofNat 2, .ofNat 2, .ofNat 35), (.ofNat 3, .ofNat 0, .ofNat 23), (.ofNat 5, .negSucc 1, .ofNat 14), (.ofNat 5, .ofNat 2, .ofNat 14), (.ofNat 6, .ofNat 6, .ofNat 13), (.ofNat 7, .negSucc 1, .ofNat 10), (.ofNat 7, .ofNat 2, .ofNat 10)] 0x280c111067014e208c8631c03204450886501cc410480298e320c27300a21904639401398a418820 = true := by decide +kernel
theorem qf_t279 : qf_chk 279 [(.ofNat 1, .ofNat 1, .ofNat 70), (.ofNat 2, .negSucc 0, .ofNat 35), (.ofNat 2, .ofNat 1, .ofNat 35), (.ofNat 4, .negSucc 2, .ofNat 18), (.ofNat 4, .ofNat 3, .ofNat 18), (.ofNat 5, .negSucc 0, .ofNat 14), (.ofNat 5, .ofNat 1, .ofNat 14), (.ofNat 7, .negSucc 0, .ofNat 10), (.ofNat 7, .ofNat 1, .ofNat 10), (.ofNat 8, .negSucc 2, .ofNat 9), (.ofNat 8, .ofNat 3, .ofNat 9), (.ofNat 9, .ofNat 9, .ofNat 10)] 0x254418828398ab4ac022a066090ea50166090e22a069208c70054359528194204244b228c71208148c0551d6608cea1008932d05418435952700544384ab228c0424433110551d6148c0229c6932d0a100815a928398a418820 = true := by decide +kernel
theorem qf_t280 : qf_chk 280 [(.ofNat 1, .ofNat 0, .ofNat 70), (.ofNat 2, .ofNat 0, .ofNat 35), (.ofNat 5, .ofNat 0, .ofNat 14), (.ofNat 7, .ofNat 0, .ofNat 10)] 0x4430806210c0118820 = true := by decide +kernel
theorem qf_t283 : qf_chk 283 [(.ofNat 1, .ofNat 1, .ofNat 71), (.ofNat 7, .negSucc 4, .ofNat 11), (.ofNat 7, .ofNat 5, .ofNat 11)] 0x10080208820 = true := by decide +kernel
theorem qf_t284 : qf_chk 284 [(.ofNat 1, .ofNat 0, .ofNat 71), (.ofNat 3, .negSucc 1, .ofNat 24), (.ofNat 3, .ofNat 2, .ofNat 24), (.ofNat 5, .negSucc 3, .ofNat 15), (.ofNat 5, .ofNat 4, .ofNat 15), (.ofNat 8, .negSucc 1, .ofNat 9), (.ofNat 8, .ofNat 2, .ofNat 9)] 0x301441218040986229422018641180121461198850088219406098a418820 = true := by decide +kernel
theorem qf_t287 : qf_chk 287 [(.ofNat 1, .ofNat 1, .ofNat 72), (.ofNat 2, .negSucc 0, .ofNat 36), (.ofNat 2, .ofNat 1, .ofNat 36), (.ofNat 3, .negSucc 0, .ofNat 24), (.ofNat 3, .ofNat 1, .ofNat 24), (.ofNat 4, .negSucc 0, .ofNat 18), (.ofNat 4, .ofNat 1, .ofNat 18), (.ofNat 6, .negSucc 4, .ofNat 13), (.ofNat 6, .negSucc 0, .ofNat 12), (.ofNat 6, .ofNat 1, .ofNat 12), (.ofNat 6, .ofNat 5, .ofNat 13), (.ofNat 7, .ofNat 7, .ofNat 12), (.ofNat 8, .negSucc 0, .ofNat 9), (.ofNat 8, .ofNat 1, .ofNat 9)] 0x812452d0510cec3340242567184ca215ac4a0016b044198a752c89094cd01d0262c6a52da6081833944822567634022a88130d2840c40614c95342459ca121c6a4b0085b44611868391406ad216146a308a16a16c024e4390ac1182b481aa40d853ad032342951802335432256261d00285ac5a928398a418820 = true := by decide +kernel
theorem qf_t288 : qf_chk 288 [(.ofNat 1, .ofNat 0, .ofNat 72), (.ofNat 4, .ofNat 4, .ofNat 19), (.ofNat 8, .ofNat 0, .ofNat 9), (.ofNat 8, .ofNat 8, .ofNat 11)] 0x4430806210c0118820 = true := by decide +kernel
theorem qf_t291 : qf_chk 291 [(.ofNat 1, .ofNat 1, .ofNat 73), (.ofNat 3, .ofNat 3, .ofNat 25), (.ofNat 5, .negSucc 2, .ofNat 15), (.ofNat 5, .ofNat 3, .ofNat 15)] 0x80430046210c0118820 = true := by decide +kernel
theorem qf_t292 : qf_chk 292 [(.ofNat 1, .ofNat 0, .ofNat 73), (.ofNat 2, .ofNat 2, .ofNat 37), (.ofNat 7, .negSucc 3, .ofNat 11), (.ofNat 7, .ofNat 4, .ofNat 11)] 0x80430046210c0118820 = true := by decide +kernel
theorem qf_t295 : qf_chk 295 [(.ofNat 1, .ofNat 1, .ofNat 74), (.ofNat 2, .negSucc 0, .ofNat 37), (.ofNat 2, .ofNat 1, .ofNat 37), (.ofNat 4, .negSucc 2, .ofNat 19), (.ofNat 4, .ofNat 3, .ofNat 19), (.ofNat 5, .ofNat 5, .ofNat 16), (.ofNat 8, .negSucc 4, .ofNat 10), (.ofNat 8, .ofNat 5, .ofNat 10)] 0x200223146700c47090a608803218e511c65004c43048029c43290c138c02194e610081398a418820 = true := by decide +kernel
theorem qf_t296 : qf_chk 296 [(.ofNat 1, .ofNat 0, .ofNat 74), (.ofNat 2, .ofNat 0, .ofNat 37), (.ofNat 3, .negSucc 1, .ofNat 25), (.ofNat 3, .ofNat 2, .ofNat 25), (.ofNat 5, .negSucc 1, .ofNat 15), (.ofNat 5, .ofNat 2, .ofNat 15), (.ofNat 6, .negSucc 3, .ofNat 13), (.ofNat 6, .ofNat 4, .ofNat 13), (.ofNat 9, .negSucc 7, .ofNat 10), (.ofNat 9, .ofNat 8, .ofNat 10)] 0x100c4385032a40329c2612488315001a42411c87025022846638468100864942648803395044082521d2030c69204c5020e2290434a0c700528398a418820 = true := by decide +kernel
theorem qf_t299 : qf_chk 299 [(.ofNat 1, .ofNat 1, .ofNat 75), (.ofNat 3, .negSucc 0, .ofNat 25), (.ofNat 3, .ofNat 1, .ofNat 25), (.ofNat 5, .negSucc 0, .ofNat 15), (.ofNat 5, .ofNat 1, .ofNat 15), (.ofNat 7, .negSucc 2, .ofNat 11), (.ofNat 7, .ofNat 3, .ofNat 11), (.ofNat 9, .ofNat 5, .ofNat 9)] 0xc853044718807090a6200223986529c4100cc4304e011483090c329c0211466200e1398a418820 = true := by decide +kernel
theorem qf_t300 : qf_chk 300 [(.ofNat 1, .ofNat 0, .ofNat 75), (.ofNat 3, .ofNat 0, .ofNat 25), (.ofNat 4, .negSucc 1, .ofNat 19), (.ofNat 4, .ofNat 2, .ofNat 19), (.ofNat 7, .negSucc 5, .ofNat 12), (.ofNat 7, .ofNat 6, .ofNat 12)] 0x1008119403094442044028c2500c82188a4004a418820 = true := by decide +kernel
theorem qf_b203 (d : Nat) (h1 : 203 ≤ d) (h2 : d ≤ 220) (hv : d % 4 = 0 ∨ d % 4 = 3) : ∃ L N, qf_chk d L N = true := by
  have h : d = 203 ∨ d = 204 ∨ d = 207 ∨ d = 208 ∨ d = 211 ∨ d = 212 ∨ d = 215 ∨ d = 216 ∨ d = 219 ∨ d = 220 := by omega
  rcases h with rfl | rfl | rfl | rfl | rfl | rfl | rfl | rfl | rfl | rfl
  · exact ⟨_, _, qf_t203⟩
  · exact ⟨_, _, qf_t204⟩
  · exact ⟨_, _, qf_t207⟩
  · exact ⟨_, _, qf_t208⟩
  · exact ⟨_, _, qf_t211⟩
  · exact ⟨_, _, qf_t212⟩
  · exact ⟨_, _, qf_t215⟩
  · exact ⟨_, _, qf_t216⟩
  · exact ⟨_, _, qf_t219⟩
  · exact ⟨_, _, qf_t220⟩
theorem qf_b223 (d : Nat) (h1 : 223 ≤ d) (h2 : d ≤ 240) (hv : d % 4 = 0 ∨ d % 4 = 3) : ∃ L N, qf_chk d L N = true := by
  have h : d = 223 ∨ d = 224 ∨ d = 227 ∨ d = 228 ∨ d = 231 ∨ d = 232 ∨ d = 235 ∨ d = 236 ∨ d = 239 ∨ d = 240 := by omega
  rcases h with rfl | rfl | rfl | rfl | rfl | rfl | rfl | rfl | rfl | rfl
  · exact ⟨_, _, qf_t223⟩
  · exact ⟨_, _, qf_t224⟩
  · exact ⟨_, _, qf_t227⟩
  · exact ⟨_, _, qf_t228⟩
  · exact ⟨_, _, qf_t231⟩
  · exact ⟨_, _, qf_t232⟩
  · exact ⟨_, _, qf_t235⟩
  · exact ⟨_, _, qf_t236⟩
  · exact ⟨_, _, qf_t239⟩
  · exact ⟨_, _, qf_t240⟩
theorem qf_b243 (d : Nat) (h1 : 243 ≤ d) (h2 : d ≤ 260) (hv : d % 4 = 0 ∨ d % 4 = 3) : ∃ L N, qf_chk d L N = true := by
  have h : d = 243 ∨ d = 244 ∨ d = 247 ∨ d = 248 ∨ d = 251 ∨ d = 252 ∨ d = 255 ∨ d = 256 ∨ d = 259 ∨ d = 260 := by omega
  rcases h with rfl | rfl | rfl | rfl | rfl | rfl | rfl | rfl | rfl | rfl
  · exact ⟨_, _, qf_t243⟩
  · exact ⟨_, _, qf_t244⟩
  · exact ⟨_, _, qf_t247⟩
  · exact ⟨_, _, qf_t248⟩
  · exact ⟨_, _, qf_t251⟩
  · exact ⟨_, _, qf_t252⟩
  · exact ⟨_, _, qf_t255⟩
  · exact ⟨_, _, qf_t256⟩
  · exact ⟨_, _, qf_t259⟩
  · exact ⟨_, _, qf_t260⟩
theorem qf_b263 (d : Nat) (h1 : 263 ≤ d) (h2 : d ≤ 280) (hv : d % 4 = 0 ∨ d % 4 = 3) : ∃ L N, qf_chk d L N = true := by
  have h : d = 263 ∨ d = 264 ∨ d = 267 ∨ d = 268 ∨ d = 271 ∨ d = 272 ∨ d = 275 ∨ d = 276 ∨ d = 279 ∨ d = 280 := by omega
  rcases h with rfl | rfl | rfl | rfl | rfl | rfl | rfl | rfl | rfl | rfl
  · exact ⟨_, _, qf_t263⟩
  · exact ⟨_, _, qf_t264⟩
  · exact ⟨_, _, qf_t267⟩
  · exact ⟨_, _, qf_t268⟩
  · exact ⟨_, _, qf_t271⟩
  · exact ⟨_, _, qf_t272⟩
  · exact ⟨_, _, qf_t275⟩
  · exact ⟨_, _, qf_t276⟩
  · exact ⟨_, _, qf_t279⟩
  · exact ⟨_, _, qf_t280⟩
theorem qf_b283 (d : Nat) (h1 : 283 ≤ d) (h2 : d ≤ 300) (hv : d % 4 = 0 ∨ d % 4 = 3) : ∃ L N, qf_chk d L N = true := by
  have h : d = 283 ∨ d = 284 ∨ d = 287 ∨ d = 288 ∨ d = 291 ∨ d = 292 ∨ d = 295 ∨ d = 296 ∨ d = 299 ∨ d = 300 := by omega
  rcases h with rfl | rfl | rfl | rfl | rfl | rfl | rfl | rfl | rfl | rfl
  · exact ⟨_, _, qf_t283⟩
  · exact ⟨_, _, qf_t284⟩
  · exact ⟨_, _, qf_t287⟩
  · exact ⟨_, _, qf_t288⟩
  · exact ⟨_, _, qf_t291⟩
  · exact ⟨_, _, qf_t292⟩
  · exact ⟨_, _, qf_t295⟩
  · exact ⟨_, _, qf_t296⟩
  · exact ⟨_, _, qf_t299⟩
  · exact ⟨_, _, qf_t300⟩
