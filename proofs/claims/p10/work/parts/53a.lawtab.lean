/-! ===== the law's table ===== -/
noncomputable def kt_L : Nat → Option nk_I := fun pc => bif Nat.ble pc 999 then ((fun pc => bif Nat.ble pc 590 then ((fun pc => bif Nat.ble pc 387 then ((fun pc => bif Nat.ble pc 285 then ((fun pc => bif Nat.ble pc 237 then ((fun pc => bif Nat.ble pc 32 then ((fun pc => bif Nat.ble pc 17 then ((fun pc => bif Nat.ble pc 8 then ((fun pc => bif Nat.ble pc 3 then (bif Nat.ble pc 0 then (bif Nat.beq pc 0 then some (.new 7, 3, 3, [], 0) else none)
  else (bif Nat.beq pc 3 then some (.dup, 1, 4, [], 0) else none))
  else ((fun pc => bif Nat.ble pc 4 then (bif Nat.beq pc 4 then some (.invokespecial 9, 3, 7, [], 0) else none)
  else (bif Nat.ble pc 7 then (bif Nat.beq pc 7 then some (.astore_n 1, 1, 8, [], 0) else none)
  else (bif Nat.beq pc 8 then some (.new 10, 3, 11, [], 0) else none))) : nk_F) pc) : nk_F) pc
  else ((fun pc => bif Nat.ble pc 12 then (bif Nat.ble pc 11 then (bif Nat.beq pc 11 then some (.dup, 1, 12, [], 0) else none)
  else (bif Nat.beq pc 12 then some (.invokespecial 12, 3, 15, [], 0) else none))
  else ((fun pc => bif Nat.ble pc 15 then (bif Nat.beq pc 15 then some (.astore_n 2, 1, 16, [], 0) else none)
  else (bif Nat.ble pc 16 then (bif Nat.beq pc 16 then some (.iconst 0, 1, 17, [], 0) else none)
  else (bif Nat.beq pc 17 then some (.istore_n 3, 1, 18, [], 0) else none))) : nk_F) pc) : nk_F) pc) : nk_F) pc
  else ((fun pc => bif Nat.ble pc 23 then ((fun pc => bif Nat.ble pc 19 then (bif Nat.ble pc 18 then (bif Nat.beq pc 18 then some (.iload_n 3, 1, 19, [], 0) else none)
  else (bif Nat.beq pc 19 then some (.aload_n 0, 1, 20, [], 0) else none))
  else ((fun pc => bif Nat.ble pc 20 then (bif Nat.beq pc 20 then some (.arraylength, 1, 21, [], 0) else none)
  else (bif Nat.ble pc 21 then (bif Nat.beq pc 21 then some (.bipush 8, 2, 23, [], 8) else none)
  else (bif Nat.beq pc 23 then some (.isub, 1, 24, [], 0) else none))) : nk_F) pc) : nk_F) pc
  else ((fun pc => bif Nat.ble pc 28 then ((fun pc => bif Nat.ble pc 24 then (bif Nat.beq pc 24 then some (.if_icmp .gt 1784, 3, 27, [1808], 0) else none)
  else (bif Nat.ble pc 27 then (bif Nat.beq pc 27 then some (.aload_n 0, 1, 28, [], 0) else none)
  else (bif Nat.beq pc 28 then some (.iload_n 3, 1, 29, [], 0) else none))) : nk_F) pc
  else ((fun pc => bif Nat.ble pc 29 then (bif Nat.beq pc 29 then some (.iaload, 1, 30, [], 0) else none)
  else (bif Nat.ble pc 30 then (bif Nat.beq pc 30 then some (.bipush 63, 2, 32, [], 63) else none)
  else (bif Nat.beq pc 32 then some (.iand, 1, 33, [], 0) else none))) : nk_F) pc) : nk_F) pc) : nk_F) pc) : nk_F) pc
  else ((fun pc => bif Nat.ble pc 224 then ((fun pc => bif Nat.ble pc 219 then ((fun pc => bif Nat.ble pc 216 then (bif Nat.ble pc 33 then (bif Nat.beq pc 33 then some (.tableswitch 1769 0 41 #[183, 216, 259, 292, 315, 378, 401, 434, 477, 530, 553, 586, 689, 722, 755, 788, 811, 844, 867, 900, 943, 1006, 1059, 1112, 1165, 1208, 1241, 1294, 1347, 1400, 1453, 1496, 1539, 1592, 1625, 1658, 1671, 1684, 1697, 1720, 1733, 1756], 183, 216, [1802, 216, 249, 292, 325, 348, 411, 434, 467, 510, 563, 586, 619, 722, 755, 788, 821, 844, 877, 900, 933, 976, 1039, 1092, 1145, 1198, 1241, 1274, 1327, 1380, 1433, 1486, 1529, 1572, 1625, 1658, 1691, 1704, 1717, 1730, 1753, 1766, 1789], 0) else none)
  else (bif Nat.beq pc 216 then some (.aload_n 1, 1, 217, [], 0) else none))
  else ((fun pc => bif Nat.ble pc 217 then (bif Nat.beq pc 217 then some (.aload_n 0, 1, 218, [], 0) else none)
  else (bif Nat.ble pc 218 then (bif Nat.beq pc 218 then some (.iload_n 3, 1, 219, [], 0) else none)
  else (bif Nat.beq pc 219 then some (.iconst 1, 1, 220, [], 1) else none))) : nk_F) pc) : nk_F) pc
  else ((fun pc => bif Nat.ble pc 221 then (bif Nat.ble pc 220 then (bif Nat.beq pc 220 then some (.iadd, 1, 221, [], 0) else none)
  else (bif Nat.beq pc 221 then some (.iaload, 1, 222, [], 0) else none))
  else ((fun pc => bif Nat.ble pc 222 then (bif Nat.beq pc 222 then some (.aload_n 0, 1, 223, [], 0) else none)
  else (bif Nat.ble pc 223 then (bif Nat.beq pc 223 then some (.iload_n 3, 1, 224, [], 0) else none)
  else (bif Nat.beq pc 224 then some (.iconst 2, 1, 225, [], 2) else none))) : nk_F) pc) : nk_F) pc) : nk_F) pc
  else ((fun pc => bif Nat.ble pc 231 then ((fun pc => bif Nat.ble pc 226 then (bif Nat.ble pc 225 then (bif Nat.beq pc 225 then some (.iadd, 1, 226, [], 0) else none)
  else (bif Nat.beq pc 226 then some (.iaload, 1, 227, [], 0) else none))
  else ((fun pc => bif Nat.ble pc 227 then (bif Nat.beq pc 227 then some (.invokevirtual 13, 3, 230, [], 0) else none)
  else (bif Nat.ble pc 230 then (bif Nat.beq pc 230 then some (.pop, 1, 231, [], 0) else none)
  else (bif Nat.beq pc 231 then some (.aload_n 2, 1, 232, [], 0) else none))) : nk_F) pc) : nk_F) pc
  else ((fun pc => bif Nat.ble pc 234 then ((fun pc => bif Nat.ble pc 232 then (bif Nat.beq pc 232 then some (.aload_n 0, 1, 233, [], 0) else none)
  else (bif Nat.ble pc 233 then (bif Nat.beq pc 233 then some (.iload_n 3, 1, 234, [], 0) else none)
  else (bif Nat.beq pc 234 then some (.iconst 1, 1, 235, [], 1) else none))) : nk_F) pc
  else ((fun pc => bif Nat.ble pc 235 then (bif Nat.beq pc 235 then some (.iadd, 1, 236, [], 0) else none)
  else (bif Nat.ble pc 236 then (bif Nat.beq pc 236 then some (.iaload, 1, 237, [], 0) else none)
  else (bif Nat.beq pc 237 then some (.aload_n 0, 1, 238, [], 0) else none))) : nk_F) pc) : nk_F) pc) : nk_F) pc) : nk_F) pc) : nk_F) pc
  else ((fun pc => bif Nat.ble pc 262 then ((fun pc => bif Nat.ble pc 251 then ((fun pc => bif Nat.ble pc 242 then ((fun pc => bif Nat.ble pc 239 then (bif Nat.ble pc 238 then (bif Nat.beq pc 238 then some (.iload_n 3, 1, 239, [], 0) else none)
  else (bif Nat.beq pc 239 then some (.iconst 2, 1, 240, [], 2) else none))
  else ((fun pc => bif Nat.ble pc 240 then (bif Nat.beq pc 240 then some (.iadd, 1, 241, [], 0) else none)
  else (bif Nat.ble pc 241 then (bif Nat.beq pc 241 then some (.iaload, 1, 242, [], 0) else none)
  else (bif Nat.beq pc 242 then some (.invokevirtual 17, 3, 245, [], 0) else none))) : nk_F) pc) : nk_F) pc
  else ((fun pc => bif Nat.ble pc 246 then (bif Nat.ble pc 245 then (bif Nat.beq pc 245 then some (.pop, 1, 246, [], 0) else none)
  else (bif Nat.beq pc 246 then some (.goto 1556, 3, 249, [1802], 0) else none))
  else ((fun pc => bif Nat.ble pc 249 then (bif Nat.beq pc 249 then some (.aload_n 1, 1, 250, [], 0) else none)
  else (bif Nat.ble pc 250 then (bif Nat.beq pc 250 then some (.aload_n 0, 1, 251, [], 0) else none)
  else (bif Nat.beq pc 251 then some (.iload_n 3, 1, 252, [], 0) else none))) : nk_F) pc) : nk_F) pc) : nk_F) pc
  else ((fun pc => bif Nat.ble pc 256 then ((fun pc => bif Nat.ble pc 253 then (bif Nat.ble pc 252 then (bif Nat.beq pc 252 then some (.iconst 1, 1, 253, [], 1) else none)
  else (bif Nat.beq pc 253 then some (.iadd, 1, 254, [], 0) else none))
  else ((fun pc => bif Nat.ble pc 254 then (bif Nat.beq pc 254 then some (.iaload, 1, 255, [], 0) else none)
  else (bif Nat.ble pc 255 then (bif Nat.beq pc 255 then some (.aload_n 0, 1, 256, [], 0) else none)
  else (bif Nat.beq pc 256 then some (.iload_n 3, 1, 257, [], 0) else none))) : nk_F) pc) : nk_F) pc
  else ((fun pc => bif Nat.ble pc 259 then ((fun pc => bif Nat.ble pc 257 then (bif Nat.beq pc 257 then some (.iconst 2, 1, 258, [], 2) else none)
  else (bif Nat.ble pc 258 then (bif Nat.beq pc 258 then some (.iadd, 1, 259, [], 0) else none)
  else (bif Nat.beq pc 259 then some (.iaload, 1, 260, [], 0) else none))) : nk_F) pc
  else ((fun pc => bif Nat.ble pc 260 then (bif Nat.beq pc 260 then some (.aload_n 0, 1, 261, [], 0) else none)
  else (bif Nat.ble pc 261 then (bif Nat.beq pc 261 then some (.iload_n 3, 1, 262, [], 0) else none)
  else (bif Nat.beq pc 262 then some (.iconst 3, 1, 263, [], 3) else none))) : nk_F) pc) : nk_F) pc) : nk_F) pc) : nk_F) pc
  else ((fun pc => bif Nat.ble pc 274 then ((fun pc => bif Nat.ble pc 269 then ((fun pc => bif Nat.ble pc 264 then (bif Nat.ble pc 263 then (bif Nat.beq pc 263 then some (.iadd, 1, 264, [], 0) else none)
  else (bif Nat.beq pc 264 then some (.iaload, 1, 265, [], 0) else none))
  else ((fun pc => bif Nat.ble pc 265 then (bif Nat.beq pc 265 then some (.invokevirtual 18, 3, 268, [], 0) else none)
  else (bif Nat.ble pc 268 then (bif Nat.beq pc 268 then some (.pop, 1, 269, [], 0) else none)
  else (bif Nat.beq pc 269 then some (.aload_n 2, 1, 270, [], 0) else none))) : nk_F) pc) : nk_F) pc
  else ((fun pc => bif Nat.ble pc 271 then (bif Nat.ble pc 270 then (bif Nat.beq pc 270 then some (.aload_n 0, 1, 271, [], 0) else none)
  else (bif Nat.beq pc 271 then some (.iload_n 3, 1, 272, [], 0) else none))
  else ((fun pc => bif Nat.ble pc 272 then (bif Nat.beq pc 272 then some (.iconst 1, 1, 273, [], 1) else none)
  else (bif Nat.ble pc 273 then (bif Nat.beq pc 273 then some (.iadd, 1, 274, [], 0) else none)
  else (bif Nat.beq pc 274 then some (.iaload, 1, 275, [], 0) else none))) : nk_F) pc) : nk_F) pc) : nk_F) pc
  else ((fun pc => bif Nat.ble pc 279 then ((fun pc => bif Nat.ble pc 276 then (bif Nat.ble pc 275 then (bif Nat.beq pc 275 then some (.aload_n 0, 1, 276, [], 0) else none)
  else (bif Nat.beq pc 276 then some (.iload_n 3, 1, 277, [], 0) else none))
  else ((fun pc => bif Nat.ble pc 277 then (bif Nat.beq pc 277 then some (.iconst 2, 1, 278, [], 2) else none)
  else (bif Nat.ble pc 278 then (bif Nat.beq pc 278 then some (.iadd, 1, 279, [], 0) else none)
  else (bif Nat.beq pc 279 then some (.iaload, 1, 280, [], 0) else none))) : nk_F) pc) : nk_F) pc
  else ((fun pc => bif Nat.ble pc 282 then ((fun pc => bif Nat.ble pc 280 then (bif Nat.beq pc 280 then some (.aload_n 0, 1, 281, [], 0) else none)
  else (bif Nat.ble pc 281 then (bif Nat.beq pc 281 then some (.iload_n 3, 1, 282, [], 0) else none)
  else (bif Nat.beq pc 282 then some (.iconst 3, 1, 283, [], 3) else none))) : nk_F) pc
  else ((fun pc => bif Nat.ble pc 283 then (bif Nat.beq pc 283 then some (.iadd, 1, 284, [], 0) else none)
  else (bif Nat.ble pc 284 then (bif Nat.beq pc 284 then some (.iaload, 1, 285, [], 0) else none)
  else (bif Nat.beq pc 285 then some (.invokevirtual 22, 3, 288, [], 0) else none))) : nk_F) pc) : nk_F) pc) : nk_F) pc) : nk_F) pc) : nk_F) pc) : nk_F) pc
  else ((fun pc => bif Nat.ble pc 339 then ((fun pc => bif Nat.ble pc 312 then ((fun pc => bif Nat.ble pc 299 then ((fun pc => bif Nat.ble pc 294 then ((fun pc => bif Nat.ble pc 289 then (bif Nat.ble pc 288 then (bif Nat.beq pc 288 then some (.pop, 1, 289, [], 0) else none)
  else (bif Nat.beq pc 289 then some (.goto 1513, 3, 292, [1802], 0) else none))
  else ((fun pc => bif Nat.ble pc 292 then (bif Nat.beq pc 292 then some (.aload_n 1, 1, 293, [], 0) else none)
  else (bif Nat.ble pc 293 then (bif Nat.beq pc 293 then some (.aload_n 0, 1, 294, [], 0) else none)
  else (bif Nat.beq pc 294 then some (.iload_n 3, 1, 295, [], 0) else none))) : nk_F) pc) : nk_F) pc
  else ((fun pc => bif Nat.ble pc 296 then (bif Nat.ble pc 295 then (bif Nat.beq pc 295 then some (.iconst 1, 1, 296, [], 1) else none)
  else (bif Nat.beq pc 296 then some (.iadd, 1, 297, [], 0) else none))
  else ((fun pc => bif Nat.ble pc 297 then (bif Nat.beq pc 297 then some (.iaload, 1, 298, [], 0) else none)
  else (bif Nat.ble pc 298 then (bif Nat.beq pc 298 then some (.aload_n 0, 1, 299, [], 0) else none)
  else (bif Nat.beq pc 299 then some (.iload_n 3, 1, 300, [], 0) else none))) : nk_F) pc) : nk_F) pc) : nk_F) pc
  else ((fun pc => bif Nat.ble pc 306 then ((fun pc => bif Nat.ble pc 301 then (bif Nat.ble pc 300 then (bif Nat.beq pc 300 then some (.iconst 2, 1, 301, [], 2) else none)
  else (bif Nat.beq pc 301 then some (.iadd, 1, 302, [], 0) else none))
  else ((fun pc => bif Nat.ble pc 302 then (bif Nat.beq pc 302 then some (.iaload, 1, 303, [], 0) else none)
  else (bif Nat.ble pc 303 then (bif Nat.beq pc 303 then some (.invokevirtual 23, 3, 306, [], 0) else none)
  else (bif Nat.beq pc 306 then some (.pop, 1, 307, [], 0) else none))) : nk_F) pc) : nk_F) pc
  else ((fun pc => bif Nat.ble pc 309 then ((fun pc => bif Nat.ble pc 307 then (bif Nat.beq pc 307 then some (.aload_n 2, 1, 308, [], 0) else none)
  else (bif Nat.ble pc 308 then (bif Nat.beq pc 308 then some (.aload_n 0, 1, 309, [], 0) else none)
  else (bif Nat.beq pc 309 then some (.iload_n 3, 1, 310, [], 0) else none))) : nk_F) pc
  else ((fun pc => bif Nat.ble pc 310 then (bif Nat.beq pc 310 then some (.iconst 1, 1, 311, [], 1) else none)
  else (bif Nat.ble pc 311 then (bif Nat.beq pc 311 then some (.iadd, 1, 312, [], 0) else none)
  else (bif Nat.beq pc 312 then some (.iaload, 1, 313, [], 0) else none))) : nk_F) pc) : nk_F) pc) : nk_F) pc) : nk_F) pc
  else ((fun pc => bif Nat.ble pc 326 then ((fun pc => bif Nat.ble pc 317 then ((fun pc => bif Nat.ble pc 314 then (bif Nat.ble pc 313 then (bif Nat.beq pc 313 then some (.aload_n 0, 1, 314, [], 0) else none)
  else (bif Nat.beq pc 314 then some (.iload_n 3, 1, 315, [], 0) else none))
  else ((fun pc => bif Nat.ble pc 315 then (bif Nat.beq pc 315 then some (.iconst 2, 1, 316, [], 2) else none)
  else (bif Nat.ble pc 316 then (bif Nat.beq pc 316 then some (.iadd, 1, 317, [], 0) else none)
  else (bif Nat.beq pc 317 then some (.iaload, 1, 318, [], 0) else none))) : nk_F) pc) : nk_F) pc
  else ((fun pc => bif Nat.ble pc 321 then (bif Nat.ble pc 318 then (bif Nat.beq pc 318 then some (.invokevirtual 26, 3, 321, [], 0) else none)
  else (bif Nat.beq pc 321 then some (.pop, 1, 322, [], 0) else none))
  else ((fun pc => bif Nat.ble pc 322 then (bif Nat.beq pc 322 then some (.goto 1480, 3, 325, [1802], 0) else none)
  else (bif Nat.ble pc 325 then (bif Nat.beq pc 325 then some (.aload_n 1, 1, 326, [], 0) else none)
  else (bif Nat.beq pc 326 then some (.aload_n 0, 1, 327, [], 0) else none))) : nk_F) pc) : nk_F) pc) : nk_F) pc
  else ((fun pc => bif Nat.ble pc 331 then ((fun pc => bif Nat.ble pc 328 then (bif Nat.ble pc 327 then (bif Nat.beq pc 327 then some (.iload_n 3, 1, 328, [], 0) else none)
  else (bif Nat.beq pc 328 then some (.iconst 1, 1, 329, [], 1) else none))
  else ((fun pc => bif Nat.ble pc 329 then (bif Nat.beq pc 329 then some (.iadd, 1, 330, [], 0) else none)
  else (bif Nat.ble pc 330 then (bif Nat.beq pc 330 then some (.iaload, 1, 331, [], 0) else none)
  else (bif Nat.beq pc 331 then some (.invokevirtual 27, 3, 334, [], 0) else none))) : nk_F) pc) : nk_F) pc
  else ((fun pc => bif Nat.ble pc 336 then ((fun pc => bif Nat.ble pc 334 then (bif Nat.beq pc 334 then some (.pop, 1, 335, [], 0) else none)
  else (bif Nat.ble pc 335 then (bif Nat.beq pc 335 then some (.aload_n 2, 1, 336, [], 0) else none)
  else (bif Nat.beq pc 336 then some (.aload_n 0, 1, 337, [], 0) else none))) : nk_F) pc
  else ((fun pc => bif Nat.ble pc 337 then (bif Nat.beq pc 337 then some (.iload_n 3, 1, 338, [], 0) else none)
  else (bif Nat.ble pc 338 then (bif Nat.beq pc 338 then some (.iconst 1, 1, 339, [], 1) else none)
  else (bif Nat.beq pc 339 then some (.iadd, 1, 340, [], 0) else none))) : nk_F) pc) : nk_F) pc) : nk_F) pc) : nk_F) pc) : nk_F) pc
  else ((fun pc => bif Nat.ble pc 364 then ((fun pc => bif Nat.ble pc 353 then ((fun pc => bif Nat.ble pc 348 then ((fun pc => bif Nat.ble pc 341 then (bif Nat.ble pc 340 then (bif Nat.beq pc 340 then some (.iaload, 1, 341, [], 0) else none)
  else (bif Nat.beq pc 341 then some (.invokevirtual 31, 3, 344, [], 0) else none))
  else ((fun pc => bif Nat.ble pc 344 then (bif Nat.beq pc 344 then some (.pop, 1, 345, [], 0) else none)
  else (bif Nat.ble pc 345 then (bif Nat.beq pc 345 then some (.goto 1457, 3, 348, [1802], 0) else none)
  else (bif Nat.beq pc 348 then some (.aload_n 1, 1, 349, [], 0) else none))) : nk_F) pc) : nk_F) pc
  else ((fun pc => bif Nat.ble pc 350 then (bif Nat.ble pc 349 then (bif Nat.beq pc 349 then some (.aload_n 0, 1, 350, [], 0) else none)
  else (bif Nat.beq pc 350 then some (.iload_n 3, 1, 351, [], 0) else none))
  else ((fun pc => bif Nat.ble pc 351 then (bif Nat.beq pc 351 then some (.iconst 1, 1, 352, [], 1) else none)
  else (bif Nat.ble pc 352 then (bif Nat.beq pc 352 then some (.iadd, 1, 353, [], 0) else none)
  else (bif Nat.beq pc 353 then some (.iaload, 1, 354, [], 0) else none))) : nk_F) pc) : nk_F) pc) : nk_F) pc
  else ((fun pc => bif Nat.ble pc 358 then ((fun pc => bif Nat.ble pc 355 then (bif Nat.ble pc 354 then (bif Nat.beq pc 354 then some (.aload_n 0, 1, 355, [], 0) else none)
  else (bif Nat.beq pc 355 then some (.iload_n 3, 1, 356, [], 0) else none))
  else ((fun pc => bif Nat.ble pc 356 then (bif Nat.beq pc 356 then some (.iconst 2, 1, 357, [], 2) else none)
  else (bif Nat.ble pc 357 then (bif Nat.beq pc 357 then some (.iadd, 1, 358, [], 0) else none)
  else (bif Nat.beq pc 358 then some (.iaload, 1, 359, [], 0) else none))) : nk_F) pc) : nk_F) pc
  else ((fun pc => bif Nat.ble pc 361 then ((fun pc => bif Nat.ble pc 359 then (bif Nat.beq pc 359 then some (.aload_n 0, 1, 360, [], 0) else none)
  else (bif Nat.ble pc 360 then (bif Nat.beq pc 360 then some (.iload_n 3, 1, 361, [], 0) else none)
  else (bif Nat.beq pc 361 then some (.iconst 3, 1, 362, [], 3) else none))) : nk_F) pc
  else ((fun pc => bif Nat.ble pc 362 then (bif Nat.beq pc 362 then some (.iadd, 1, 363, [], 0) else none)
  else (bif Nat.ble pc 363 then (bif Nat.beq pc 363 then some (.iaload, 1, 364, [], 0) else none)
  else (bif Nat.beq pc 364 then some (.aload_n 0, 1, 365, [], 0) else none))) : nk_F) pc) : nk_F) pc) : nk_F) pc) : nk_F) pc
  else ((fun pc => bif Nat.ble pc 374 then ((fun pc => bif Nat.ble pc 369 then ((fun pc => bif Nat.ble pc 366 then (bif Nat.ble pc 365 then (bif Nat.beq pc 365 then some (.iload_n 3, 1, 366, [], 0) else none)
  else (bif Nat.beq pc 366 then some (.iconst 4, 1, 367, [], 4) else none))
  else ((fun pc => bif Nat.ble pc 367 then (bif Nat.beq pc 367 then some (.iadd, 1, 368, [], 0) else none)
  else (bif Nat.ble pc 368 then (bif Nat.beq pc 368 then some (.iaload, 1, 369, [], 0) else none)
  else (bif Nat.beq pc 369 then some (.aload_n 0, 1, 370, [], 0) else none))) : nk_F) pc) : nk_F) pc
  else ((fun pc => bif Nat.ble pc 371 then (bif Nat.ble pc 370 then (bif Nat.beq pc 370 then some (.iload_n 3, 1, 371, [], 0) else none)
  else (bif Nat.beq pc 371 then some (.iconst 5, 1, 372, [], 5) else none))
  else ((fun pc => bif Nat.ble pc 372 then (bif Nat.beq pc 372 then some (.iadd, 1, 373, [], 0) else none)
  else (bif Nat.ble pc 373 then (bif Nat.beq pc 373 then some (.iaload, 1, 374, [], 0) else none)
  else (bif Nat.beq pc 374 then some (.invokevirtual 32, 3, 377, [], 0) else none))) : nk_F) pc) : nk_F) pc) : nk_F) pc
  else ((fun pc => bif Nat.ble pc 381 then ((fun pc => bif Nat.ble pc 378 then (bif Nat.ble pc 377 then (bif Nat.beq pc 377 then some (.pop, 1, 378, [], 0) else none)
  else (bif Nat.beq pc 378 then some (.aload_n 2, 1, 379, [], 0) else none))
  else ((fun pc => bif Nat.ble pc 379 then (bif Nat.beq pc 379 then some (.aload_n 0, 1, 380, [], 0) else none)
  else (bif Nat.ble pc 380 then (bif Nat.beq pc 380 then some (.iload_n 3, 1, 381, [], 0) else none)
  else (bif Nat.beq pc 381 then some (.iconst 1, 1, 382, [], 1) else none))) : nk_F) pc) : nk_F) pc
  else ((fun pc => bif Nat.ble pc 384 then ((fun pc => bif Nat.ble pc 382 then (bif Nat.beq pc 382 then some (.iadd, 1, 383, [], 0) else none)
  else (bif Nat.ble pc 383 then (bif Nat.beq pc 383 then some (.iaload, 1, 384, [], 0) else none)
  else (bif Nat.beq pc 384 then some (.aload_n 0, 1, 385, [], 0) else none))) : nk_F) pc
  else ((fun pc => bif Nat.ble pc 385 then (bif Nat.beq pc 385 then some (.iload_n 3, 1, 386, [], 0) else none)
  else (bif Nat.ble pc 386 then (bif Nat.beq pc 386 then some (.iconst 2, 1, 387, [], 2) else none)
  else (bif Nat.beq pc 387 then some (.iadd, 1, 388, [], 0) else none))) : nk_F) pc) : nk_F) pc) : nk_F) pc) : nk_F) pc) : nk_F) pc) : nk_F) pc) : nk_F) pc
  else ((fun pc => bif Nat.ble pc 489 then ((fun pc => bif Nat.ble pc 439 then ((fun pc => bif Nat.ble pc 412 then ((fun pc => bif Nat.ble pc 397 then ((fun pc => bif Nat.ble pc 392 then ((fun pc => bif Nat.ble pc 389 then (bif Nat.ble pc 388 then (bif Nat.beq pc 388 then some (.iaload, 1, 389, [], 0) else none)
  else (bif Nat.beq pc 389 then some (.aload_n 0, 1, 390, [], 0) else none))
  else ((fun pc => bif Nat.ble pc 390 then (bif Nat.beq pc 390 then some (.iload_n 3, 1, 391, [], 0) else none)
  else (bif Nat.ble pc 391 then (bif Nat.beq pc 391 then some (.iconst 3, 1, 392, [], 3) else none)
  else (bif Nat.beq pc 392 then some (.iadd, 1, 393, [], 0) else none))) : nk_F) pc) : nk_F) pc
  else ((fun pc => bif Nat.ble pc 394 then (bif Nat.ble pc 393 then (bif Nat.beq pc 393 then some (.iaload, 1, 394, [], 0) else none)
  else (bif Nat.beq pc 394 then some (.aload_n 0, 1, 395, [], 0) else none))
  else ((fun pc => bif Nat.ble pc 395 then (bif Nat.beq pc 395 then some (.iload_n 3, 1, 396, [], 0) else none)
  else (bif Nat.ble pc 396 then (bif Nat.beq pc 396 then some (.iconst 4, 1, 397, [], 4) else none)
  else (bif Nat.beq pc 397 then some (.iadd, 1, 398, [], 0) else none))) : nk_F) pc) : nk_F) pc) : nk_F) pc
  else ((fun pc => bif Nat.ble pc 402 then ((fun pc => bif Nat.ble pc 399 then (bif Nat.ble pc 398 then (bif Nat.beq pc 398 then some (.iaload, 1, 399, [], 0) else none)
  else (bif Nat.beq pc 399 then some (.aload_n 0, 1, 400, [], 0) else none))
  else ((fun pc => bif Nat.ble pc 400 then (bif Nat.beq pc 400 then some (.iload_n 3, 1, 401, [], 0) else none)
  else (bif Nat.ble pc 401 then (bif Nat.beq pc 401 then some (.iconst 5, 1, 402, [], 5) else none)
  else (bif Nat.beq pc 402 then some (.iadd, 1, 403, [], 0) else none))) : nk_F) pc) : nk_F) pc
  else ((fun pc => bif Nat.ble pc 407 then ((fun pc => bif Nat.ble pc 403 then (bif Nat.beq pc 403 then some (.iaload, 1, 404, [], 0) else none)
  else (bif Nat.ble pc 404 then (bif Nat.beq pc 404 then some (.invokevirtual 36, 3, 407, [], 0) else none)
  else (bif Nat.beq pc 407 then some (.pop, 1, 408, [], 0) else none))) : nk_F) pc
  else ((fun pc => bif Nat.ble pc 408 then (bif Nat.beq pc 408 then some (.goto 1394, 3, 411, [1802], 0) else none)
  else (bif Nat.ble pc 411 then (bif Nat.beq pc 411 then some (.aload_n 1, 1, 412, [], 0) else none)
  else (bif Nat.beq pc 412 then some (.aload_n 0, 1, 413, [], 0) else none))) : nk_F) pc) : nk_F) pc) : nk_F) pc) : nk_F) pc
  else ((fun pc => bif Nat.ble pc 424 then ((fun pc => bif Nat.ble pc 417 then ((fun pc => bif Nat.ble pc 414 then (bif Nat.ble pc 413 then (bif Nat.beq pc 413 then some (.iload_n 3, 1, 414, [], 0) else none)
  else (bif Nat.beq pc 414 then some (.iconst 1, 1, 415, [], 1) else none))
  else ((fun pc => bif Nat.ble pc 415 then (bif Nat.beq pc 415 then some (.iadd, 1, 416, [], 0) else none)
  else (bif Nat.ble pc 416 then (bif Nat.beq pc 416 then some (.iaload, 1, 417, [], 0) else none)
  else (bif Nat.beq pc 417 then some (.invokevirtual 37, 3, 420, [], 0) else none))) : nk_F) pc) : nk_F) pc
  else ((fun pc => bif Nat.ble pc 421 then (bif Nat.ble pc 420 then (bif Nat.beq pc 420 then some (.pop, 1, 421, [], 0) else none)
  else (bif Nat.beq pc 421 then some (.aload_n 2, 1, 422, [], 0) else none))
  else ((fun pc => bif Nat.ble pc 422 then (bif Nat.beq pc 422 then some (.aload_n 0, 1, 423, [], 0) else none)
  else (bif Nat.ble pc 423 then (bif Nat.beq pc 423 then some (.iload_n 3, 1, 424, [], 0) else none)
  else (bif Nat.beq pc 424 then some (.iconst 1, 1, 425, [], 1) else none))) : nk_F) pc) : nk_F) pc) : nk_F) pc
  else ((fun pc => bif Nat.ble pc 431 then ((fun pc => bif Nat.ble pc 426 then (bif Nat.ble pc 425 then (bif Nat.beq pc 425 then some (.iadd, 1, 426, [], 0) else none)
  else (bif Nat.beq pc 426 then some (.iaload, 1, 427, [], 0) else none))
  else ((fun pc => bif Nat.ble pc 427 then (bif Nat.beq pc 427 then some (.invokevirtual 40, 3, 430, [], 0) else none)
  else (bif Nat.ble pc 430 then (bif Nat.beq pc 430 then some (.pop, 1, 431, [], 0) else none)
  else (bif Nat.beq pc 431 then some (.goto 1371, 3, 434, [1802], 0) else none))) : nk_F) pc) : nk_F) pc
  else ((fun pc => bif Nat.ble pc 436 then ((fun pc => bif Nat.ble pc 434 then (bif Nat.beq pc 434 then some (.aload_n 1, 1, 435, [], 0) else none)
  else (bif Nat.ble pc 435 then (bif Nat.beq pc 435 then some (.aload_n 0, 1, 436, [], 0) else none)
  else (bif Nat.beq pc 436 then some (.iload_n 3, 1, 437, [], 0) else none))) : nk_F) pc
  else ((fun pc => bif Nat.ble pc 437 then (bif Nat.beq pc 437 then some (.iconst 1, 1, 438, [], 1) else none)
  else (bif Nat.ble pc 438 then (bif Nat.beq pc 438 then some (.iadd, 1, 439, [], 0) else none)
  else (bif Nat.beq pc 439 then some (.iaload, 1, 440, [], 0) else none))) : nk_F) pc) : nk_F) pc) : nk_F) pc) : nk_F) pc) : nk_F) pc
  else ((fun pc => bif Nat.ble pc 464 then ((fun pc => bif Nat.ble pc 451 then ((fun pc => bif Nat.ble pc 444 then ((fun pc => bif Nat.ble pc 441 then (bif Nat.ble pc 440 then (bif Nat.beq pc 440 then some (.aload_n 0, 1, 441, [], 0) else none)
  else (bif Nat.beq pc 441 then some (.iload_n 3, 1, 442, [], 0) else none))
  else ((fun pc => bif Nat.ble pc 442 then (bif Nat.beq pc 442 then some (.iconst 2, 1, 443, [], 2) else none)
  else (bif Nat.ble pc 443 then (bif Nat.beq pc 443 then some (.iadd, 1, 444, [], 0) else none)
  else (bif Nat.beq pc 444 then some (.iaload, 1, 445, [], 0) else none))) : nk_F) pc) : nk_F) pc
  else ((fun pc => bif Nat.ble pc 448 then (bif Nat.ble pc 445 then (bif Nat.beq pc 445 then some (.invokevirtual 41, 3, 448, [], 0) else none)
  else (bif Nat.beq pc 448 then some (.pop, 1, 449, [], 0) else none))
  else ((fun pc => bif Nat.ble pc 449 then (bif Nat.beq pc 449 then some (.aload_n 2, 1, 450, [], 0) else none)
  else (bif Nat.ble pc 450 then (bif Nat.beq pc 450 then some (.aload_n 0, 1, 451, [], 0) else none)
  else (bif Nat.beq pc 451 then some (.iload_n 3, 1, 452, [], 0) else none))) : nk_F) pc) : nk_F) pc) : nk_F) pc
  else ((fun pc => bif Nat.ble pc 456 then ((fun pc => bif Nat.ble pc 453 then (bif Nat.ble pc 452 then (bif Nat.beq pc 452 then some (.iconst 1, 1, 453, [], 1) else none)
  else (bif Nat.beq pc 453 then some (.iadd, 1, 454, [], 0) else none))
  else ((fun pc => bif Nat.ble pc 454 then (bif Nat.beq pc 454 then some (.iaload, 1, 455, [], 0) else none)
  else (bif Nat.ble pc 455 then (bif Nat.beq pc 455 then some (.aload_n 0, 1, 456, [], 0) else none)
  else (bif Nat.beq pc 456 then some (.iload_n 3, 1, 457, [], 0) else none))) : nk_F) pc) : nk_F) pc
  else ((fun pc => bif Nat.ble pc 459 then ((fun pc => bif Nat.ble pc 457 then (bif Nat.beq pc 457 then some (.iconst 2, 1, 458, [], 2) else none)
  else (bif Nat.ble pc 458 then (bif Nat.beq pc 458 then some (.iadd, 1, 459, [], 0) else none)
  else (bif Nat.beq pc 459 then some (.iaload, 1, 460, [], 0) else none))) : nk_F) pc
  else ((fun pc => bif Nat.ble pc 460 then (bif Nat.beq pc 460 then some (.invokevirtual 44, 3, 463, [], 0) else none)
  else (bif Nat.ble pc 463 then (bif Nat.beq pc 463 then some (.pop, 1, 464, [], 0) else none)
  else (bif Nat.beq pc 464 then some (.goto 1338, 3, 467, [1802], 0) else none))) : nk_F) pc) : nk_F) pc) : nk_F) pc) : nk_F) pc
  else ((fun pc => bif Nat.ble pc 476 then ((fun pc => bif Nat.ble pc 471 then ((fun pc => bif Nat.ble pc 468 then (bif Nat.ble pc 467 then (bif Nat.beq pc 467 then some (.aload_n 1, 1, 468, [], 0) else none)
  else (bif Nat.beq pc 468 then some (.aload_n 0, 1, 469, [], 0) else none))
  else ((fun pc => bif Nat.ble pc 469 then (bif Nat.beq pc 469 then some (.iload_n 3, 1, 470, [], 0) else none)
  else (bif Nat.ble pc 470 then (bif Nat.beq pc 470 then some (.iconst 1, 1, 471, [], 1) else none)
  else (bif Nat.beq pc 471 then some (.iadd, 1, 472, [], 0) else none))) : nk_F) pc) : nk_F) pc
  else ((fun pc => bif Nat.ble pc 473 then (bif Nat.ble pc 472 then (bif Nat.beq pc 472 then some (.iaload, 1, 473, [], 0) else none)
  else (bif Nat.beq pc 473 then some (.aload_n 0, 1, 474, [], 0) else none))
  else ((fun pc => bif Nat.ble pc 474 then (bif Nat.beq pc 474 then some (.iload_n 3, 1, 475, [], 0) else none)
  else (bif Nat.ble pc 475 then (bif Nat.beq pc 475 then some (.iconst 2, 1, 476, [], 2) else none)
  else (bif Nat.beq pc 476 then some (.iadd, 1, 477, [], 0) else none))) : nk_F) pc) : nk_F) pc) : nk_F) pc
  else ((fun pc => bif Nat.ble pc 481 then ((fun pc => bif Nat.ble pc 478 then (bif Nat.ble pc 477 then (bif Nat.beq pc 477 then some (.iaload, 1, 478, [], 0) else none)
  else (bif Nat.beq pc 478 then some (.aload_n 0, 1, 479, [], 0) else none))
  else ((fun pc => bif Nat.ble pc 479 then (bif Nat.beq pc 479 then some (.iload_n 3, 1, 480, [], 0) else none)
  else (bif Nat.ble pc 480 then (bif Nat.beq pc 480 then some (.iconst 3, 1, 481, [], 3) else none)
  else (bif Nat.beq pc 481 then some (.iadd, 1, 482, [], 0) else none))) : nk_F) pc) : nk_F) pc
  else ((fun pc => bif Nat.ble pc 486 then ((fun pc => bif Nat.ble pc 482 then (bif Nat.beq pc 482 then some (.iaload, 1, 483, [], 0) else none)
  else (bif Nat.ble pc 483 then (bif Nat.beq pc 483 then some (.invokevirtual 45, 3, 486, [], 0) else none)
  else (bif Nat.beq pc 486 then some (.pop, 1, 487, [], 0) else none))) : nk_F) pc
  else ((fun pc => bif Nat.ble pc 487 then (bif Nat.beq pc 487 then some (.aload_n 2, 1, 488, [], 0) else none)
  else (bif Nat.ble pc 488 then (bif Nat.beq pc 488 then some (.aload_n 0, 1, 489, [], 0) else none)
  else (bif Nat.beq pc 489 then some (.iload_n 3, 1, 490, [], 0) else none))) : nk_F) pc) : nk_F) pc) : nk_F) pc) : nk_F) pc) : nk_F) pc) : nk_F) pc
  else ((fun pc => bif Nat.ble pc 537 then ((fun pc => bif Nat.ble pc 514 then ((fun pc => bif Nat.ble pc 499 then ((fun pc => bif Nat.ble pc 494 then ((fun pc => bif Nat.ble pc 491 then (bif Nat.ble pc 490 then (bif Nat.beq pc 490 then some (.iconst 1, 1, 491, [], 1) else none)
  else (bif Nat.beq pc 491 then some (.iadd, 1, 492, [], 0) else none))
  else ((fun pc => bif Nat.ble pc 492 then (bif Nat.beq pc 492 then some (.iaload, 1, 493, [], 0) else none)
  else (bif Nat.ble pc 493 then (bif Nat.beq pc 493 then some (.aload_n 0, 1, 494, [], 0) else none)
  else (bif Nat.beq pc 494 then some (.iload_n 3, 1, 495, [], 0) else none))) : nk_F) pc) : nk_F) pc
  else ((fun pc => bif Nat.ble pc 496 then (bif Nat.ble pc 495 then (bif Nat.beq pc 495 then some (.iconst 2, 1, 496, [], 2) else none)
  else (bif Nat.beq pc 496 then some (.iadd, 1, 497, [], 0) else none))
  else ((fun pc => bif Nat.ble pc 497 then (bif Nat.beq pc 497 then some (.iaload, 1, 498, [], 0) else none)
  else (bif Nat.ble pc 498 then (bif Nat.beq pc 498 then some (.aload_n 0, 1, 499, [], 0) else none)
  else (bif Nat.beq pc 499 then some (.iload_n 3, 1, 500, [], 0) else none))) : nk_F) pc) : nk_F) pc) : nk_F) pc
  else ((fun pc => bif Nat.ble pc 506 then ((fun pc => bif Nat.ble pc 501 then (bif Nat.ble pc 500 then (bif Nat.beq pc 500 then some (.iconst 3, 1, 501, [], 3) else none)
  else (bif Nat.beq pc 501 then some (.iadd, 1, 502, [], 0) else none))
  else ((fun pc => bif Nat.ble pc 502 then (bif Nat.beq pc 502 then some (.iaload, 1, 503, [], 0) else none)
  else (bif Nat.ble pc 503 then (bif Nat.beq pc 503 then some (.invokevirtual 48, 3, 506, [], 0) else none)
  else (bif Nat.beq pc 506 then some (.pop, 1, 507, [], 0) else none))) : nk_F) pc) : nk_F) pc
  else ((fun pc => bif Nat.ble pc 511 then ((fun pc => bif Nat.ble pc 507 then (bif Nat.beq pc 507 then some (.goto 1295, 3, 510, [1802], 0) else none)
  else (bif Nat.ble pc 510 then (bif Nat.beq pc 510 then some (.aload_n 1, 1, 511, [], 0) else none)
  else (bif Nat.beq pc 511 then some (.aload_n 0, 1, 512, [], 0) else none))) : nk_F) pc
  else ((fun pc => bif Nat.ble pc 512 then (bif Nat.beq pc 512 then some (.iload_n 3, 1, 513, [], 0) else none)
  else (bif Nat.ble pc 513 then (bif Nat.beq pc 513 then some (.iconst 1, 1, 514, [], 1) else none)
  else (bif Nat.beq pc 514 then some (.iadd, 1, 515, [], 0) else none))) : nk_F) pc) : nk_F) pc) : nk_F) pc) : nk_F) pc
  else ((fun pc => bif Nat.ble pc 524 then ((fun pc => bif Nat.ble pc 519 then ((fun pc => bif Nat.ble pc 516 then (bif Nat.ble pc 515 then (bif Nat.beq pc 515 then some (.iaload, 1, 516, [], 0) else none)
  else (bif Nat.beq pc 516 then some (.aload_n 0, 1, 517, [], 0) else none))
  else ((fun pc => bif Nat.ble pc 517 then (bif Nat.beq pc 517 then some (.iload_n 3, 1, 518, [], 0) else none)
  else (bif Nat.ble pc 518 then (bif Nat.beq pc 518 then some (.iconst 2, 1, 519, [], 2) else none)
  else (bif Nat.beq pc 519 then some (.iadd, 1, 520, [], 0) else none))) : nk_F) pc) : nk_F) pc
  else ((fun pc => bif Nat.ble pc 521 then (bif Nat.ble pc 520 then (bif Nat.beq pc 520 then some (.iaload, 1, 521, [], 0) else none)
  else (bif Nat.beq pc 521 then some (.aload_n 0, 1, 522, [], 0) else none))
  else ((fun pc => bif Nat.ble pc 522 then (bif Nat.beq pc 522 then some (.iload_n 3, 1, 523, [], 0) else none)
  else (bif Nat.ble pc 523 then (bif Nat.beq pc 523 then some (.iconst 3, 1, 524, [], 3) else none)
  else (bif Nat.beq pc 524 then some (.iadd, 1, 525, [], 0) else none))) : nk_F) pc) : nk_F) pc) : nk_F) pc
  else ((fun pc => bif Nat.ble pc 529 then ((fun pc => bif Nat.ble pc 526 then (bif Nat.ble pc 525 then (bif Nat.beq pc 525 then some (.iaload, 1, 526, [], 0) else none)
  else (bif Nat.beq pc 526 then some (.aload_n 0, 1, 527, [], 0) else none))
  else ((fun pc => bif Nat.ble pc 527 then (bif Nat.beq pc 527 then some (.iload_n 3, 1, 528, [], 0) else none)
  else (bif Nat.ble pc 528 then (bif Nat.beq pc 528 then some (.iconst 4, 1, 529, [], 4) else none)
  else (bif Nat.beq pc 529 then some (.iadd, 1, 530, [], 0) else none))) : nk_F) pc) : nk_F) pc
  else ((fun pc => bif Nat.ble pc 534 then ((fun pc => bif Nat.ble pc 530 then (bif Nat.beq pc 530 then some (.iaload, 1, 531, [], 0) else none)
  else (bif Nat.ble pc 531 then (bif Nat.beq pc 531 then some (.invokevirtual 49, 3, 534, [], 0) else none)
  else (bif Nat.beq pc 534 then some (.aload_n 2, 1, 535, [], 0) else none))) : nk_F) pc
  else ((fun pc => bif Nat.ble pc 535 then (bif Nat.beq pc 535 then some (.aload_n 0, 1, 536, [], 0) else none)
  else (bif Nat.ble pc 536 then (bif Nat.beq pc 536 then some (.iload_n 3, 1, 537, [], 0) else none)
  else (bif Nat.beq pc 537 then some (.iconst 1, 1, 538, [], 1) else none))) : nk_F) pc) : nk_F) pc) : nk_F) pc) : nk_F) pc) : nk_F) pc
  else ((fun pc => bif Nat.ble pc 562 then ((fun pc => bif Nat.ble pc 547 then ((fun pc => bif Nat.ble pc 542 then ((fun pc => bif Nat.ble pc 539 then (bif Nat.ble pc 538 then (bif Nat.beq pc 538 then some (.iadd, 1, 539, [], 0) else none)
  else (bif Nat.beq pc 539 then some (.iaload, 1, 540, [], 0) else none))
  else ((fun pc => bif Nat.ble pc 540 then (bif Nat.beq pc 540 then some (.aload_n 0, 1, 541, [], 0) else none)
  else (bif Nat.ble pc 541 then (bif Nat.beq pc 541 then some (.iload_n 3, 1, 542, [], 0) else none)
  else (bif Nat.beq pc 542 then some (.iconst 2, 1, 543, [], 2) else none))) : nk_F) pc) : nk_F) pc
  else ((fun pc => bif Nat.ble pc 544 then (bif Nat.ble pc 543 then (bif Nat.beq pc 543 then some (.iadd, 1, 544, [], 0) else none)
  else (bif Nat.beq pc 544 then some (.iaload, 1, 545, [], 0) else none))
  else ((fun pc => bif Nat.ble pc 545 then (bif Nat.beq pc 545 then some (.aload_n 0, 1, 546, [], 0) else none)
  else (bif Nat.ble pc 546 then (bif Nat.beq pc 546 then some (.iload_n 3, 1, 547, [], 0) else none)
  else (bif Nat.beq pc 547 then some (.iconst 3, 1, 548, [], 3) else none))) : nk_F) pc) : nk_F) pc) : nk_F) pc
  else ((fun pc => bif Nat.ble pc 552 then ((fun pc => bif Nat.ble pc 549 then (bif Nat.ble pc 548 then (bif Nat.beq pc 548 then some (.iadd, 1, 549, [], 0) else none)
  else (bif Nat.beq pc 549 then some (.iaload, 1, 550, [], 0) else none))
  else ((fun pc => bif Nat.ble pc 550 then (bif Nat.beq pc 550 then some (.aload_n 0, 1, 551, [], 0) else none)
  else (bif Nat.ble pc 551 then (bif Nat.beq pc 551 then some (.iload_n 3, 1, 552, [], 0) else none)
  else (bif Nat.beq pc 552 then some (.iconst 4, 1, 553, [], 4) else none))) : nk_F) pc) : nk_F) pc
  else ((fun pc => bif Nat.ble pc 555 then ((fun pc => bif Nat.ble pc 553 then (bif Nat.beq pc 553 then some (.iadd, 1, 554, [], 0) else none)
  else (bif Nat.ble pc 554 then (bif Nat.beq pc 554 then some (.iaload, 1, 555, [], 0) else none)
  else (bif Nat.beq pc 555 then some (.invokevirtual 53, 3, 558, [], 0) else none))) : nk_F) pc
  else ((fun pc => bif Nat.ble pc 558 then (bif Nat.beq pc 558 then some (.if_icmp .eq 1244, 3, 561, [1802], 0) else none)
  else (bif Nat.ble pc 561 then (bif Nat.beq pc 561 then some (.iconst 0, 1, 562, [], 0) else none)
  else (bif Nat.beq pc 562 then some (.ireturn, 1, 563, [], 0) else none))) : nk_F) pc) : nk_F) pc) : nk_F) pc) : nk_F) pc
  else ((fun pc => bif Nat.ble pc 575 then ((fun pc => bif Nat.ble pc 567 then ((fun pc => bif Nat.ble pc 564 then (bif Nat.ble pc 563 then (bif Nat.beq pc 563 then some (.aload_n 1, 1, 564, [], 0) else none)
  else (bif Nat.beq pc 564 then some (.aload_n 0, 1, 565, [], 0) else none))
  else ((fun pc => bif Nat.ble pc 565 then (bif Nat.beq pc 565 then some (.iload_n 3, 1, 566, [], 0) else none)
  else (bif Nat.ble pc 566 then (bif Nat.beq pc 566 then some (.iconst 1, 1, 567, [], 1) else none)
  else (bif Nat.beq pc 567 then some (.iadd, 1, 568, [], 0) else none))) : nk_F) pc) : nk_F) pc
  else ((fun pc => bif Nat.ble pc 572 then ((fun pc => bif Nat.ble pc 568 then (bif Nat.beq pc 568 then some (.iaload, 1, 569, [], 0) else none)
  else (bif Nat.ble pc 569 then (bif Nat.beq pc 569 then some (.invokevirtual 54, 3, 572, [], 0) else none)
  else (bif Nat.beq pc 572 then some (.pop, 1, 573, [], 0) else none))) : nk_F) pc
  else ((fun pc => bif Nat.ble pc 573 then (bif Nat.beq pc 573 then some (.aload_n 2, 1, 574, [], 0) else none)
  else (bif Nat.ble pc 574 then (bif Nat.beq pc 574 then some (.aload_n 0, 1, 575, [], 0) else none)
  else (bif Nat.beq pc 575 then some (.iload_n 3, 1, 576, [], 0) else none))) : nk_F) pc) : nk_F) pc) : nk_F) pc
  else ((fun pc => bif Nat.ble pc 582 then ((fun pc => bif Nat.ble pc 577 then (bif Nat.ble pc 576 then (bif Nat.beq pc 576 then some (.iconst 1, 1, 577, [], 1) else none)
  else (bif Nat.beq pc 577 then some (.iadd, 1, 578, [], 0) else none))
  else ((fun pc => bif Nat.ble pc 578 then (bif Nat.beq pc 578 then some (.iaload, 1, 579, [], 0) else none)
  else (bif Nat.ble pc 579 then (bif Nat.beq pc 579 then some (.invokevirtual 57, 3, 582, [], 0) else none)
  else (bif Nat.beq pc 582 then some (.pop, 1, 583, [], 0) else none))) : nk_F) pc) : nk_F) pc
  else ((fun pc => bif Nat.ble pc 587 then ((fun pc => bif Nat.ble pc 583 then (bif Nat.beq pc 583 then some (.goto 1219, 3, 586, [1802], 0) else none)
  else (bif Nat.ble pc 586 then (bif Nat.beq pc 586 then some (.aload_n 1, 1, 587, [], 0) else none)
  else (bif Nat.beq pc 587 then some (.aload_n 0, 1, 588, [], 0) else none))) : nk_F) pc
  else ((fun pc => bif Nat.ble pc 588 then (bif Nat.beq pc 588 then some (.iload_n 3, 1, 589, [], 0) else none)
  else (bif Nat.ble pc 589 then (bif Nat.beq pc 589 then some (.iconst 1, 1, 590, [], 1) else none)
  else (bif Nat.beq pc 590 then some (.iadd, 1, 591, [], 0) else none))) : nk_F) pc) : nk_F) pc) : nk_F) pc) : nk_F) pc) : nk_F) pc) : nk_F) pc) : nk_F) pc) : nk_F) pc
  else ((fun pc => bif Nat.ble pc 794 then ((fun pc => bif Nat.ble pc 688 then ((fun pc => bif Nat.ble pc 638 then ((fun pc => bif Nat.ble pc 615 then ((fun pc => bif Nat.ble pc 602 then ((fun pc => bif Nat.ble pc 595 then ((fun pc => bif Nat.ble pc 592 then (bif Nat.ble pc 591 then (bif Nat.beq pc 591 then some (.iaload, 1, 592, [], 0) else none)
  else (bif Nat.beq pc 592 then some (.aload_n 0, 1, 593, [], 0) else none))
  else ((fun pc => bif Nat.ble pc 593 then (bif Nat.beq pc 593 then some (.iload_n 3, 1, 594, [], 0) else none)
  else (bif Nat.ble pc 594 then (bif Nat.beq pc 594 then some (.iconst 2, 1, 595, [], 2) else none)
  else (bif Nat.beq pc 595 then some (.iadd, 1, 596, [], 0) else none))) : nk_F) pc) : nk_F) pc
  else ((fun pc => bif Nat.ble pc 597 then (bif Nat.ble pc 596 then (bif Nat.beq pc 596 then some (.iaload, 1, 597, [], 0) else none)
  else (bif Nat.beq pc 597 then some (.invokevirtual 58, 3, 600, [], 0) else none))
  else ((fun pc => bif Nat.ble pc 600 then (bif Nat.beq pc 600 then some (.pop, 1, 601, [], 0) else none)
  else (bif Nat.ble pc 601 then (bif Nat.beq pc 601 then some (.aload_n 2, 1, 602, [], 0) else none)
  else (bif Nat.beq pc 602 then some (.aload_n 0, 1, 603, [], 0) else none))) : nk_F) pc) : nk_F) pc) : nk_F) pc
  else ((fun pc => bif Nat.ble pc 607 then ((fun pc => bif Nat.ble pc 604 then (bif Nat.ble pc 603 then (bif Nat.beq pc 603 then some (.iload_n 3, 1, 604, [], 0) else none)
  else (bif Nat.beq pc 604 then some (.iconst 1, 1, 605, [], 1) else none))
  else ((fun pc => bif Nat.ble pc 605 then (bif Nat.beq pc 605 then some (.iadd, 1, 606, [], 0) else none)
  else (bif Nat.ble pc 606 then (bif Nat.beq pc 606 then some (.iaload, 1, 607, [], 0) else none)
  else (bif Nat.beq pc 607 then some (.aload_n 0, 1, 608, [], 0) else none))) : nk_F) pc) : nk_F) pc
  else ((fun pc => bif Nat.ble pc 610 then ((fun pc => bif Nat.ble pc 608 then (bif Nat.beq pc 608 then some (.iload_n 3, 1, 609, [], 0) else none)
  else (bif Nat.ble pc 609 then (bif Nat.beq pc 609 then some (.iconst 2, 1, 610, [], 2) else none)
  else (bif Nat.beq pc 610 then some (.iadd, 1, 611, [], 0) else none))) : nk_F) pc
  else ((fun pc => bif Nat.ble pc 611 then (bif Nat.beq pc 611 then some (.iaload, 1, 612, [], 0) else none)
  else (bif Nat.ble pc 612 then (bif Nat.beq pc 612 then some (.invokevirtual 61, 3, 615, [], 0) else none)
  else (bif Nat.beq pc 615 then some (.pop, 1, 616, [], 0) else none))) : nk_F) pc) : nk_F) pc) : nk_F) pc) : nk_F) pc
  else ((fun pc => bif Nat.ble pc 627 then ((fun pc => bif Nat.ble pc 622 then ((fun pc => bif Nat.ble pc 619 then (bif Nat.ble pc 616 then (bif Nat.beq pc 616 then some (.goto 1186, 3, 619, [1802], 0) else none)
  else (bif Nat.beq pc 619 then some (.aload_n 1, 1, 620, [], 0) else none))
  else ((fun pc => bif Nat.ble pc 620 then (bif Nat.beq pc 620 then some (.aload_n 0, 1, 621, [], 0) else none)
  else (bif Nat.ble pc 621 then (bif Nat.beq pc 621 then some (.iload_n 3, 1, 622, [], 0) else none)
  else (bif Nat.beq pc 622 then some (.iconst 1, 1, 623, [], 1) else none))) : nk_F) pc) : nk_F) pc
  else ((fun pc => bif Nat.ble pc 624 then (bif Nat.ble pc 623 then (bif Nat.beq pc 623 then some (.iadd, 1, 624, [], 0) else none)
  else (bif Nat.beq pc 624 then some (.iaload, 1, 625, [], 0) else none))
  else ((fun pc => bif Nat.ble pc 625 then (bif Nat.beq pc 625 then some (.aload_n 0, 1, 626, [], 0) else none)
  else (bif Nat.ble pc 626 then (bif Nat.beq pc 626 then some (.iload_n 3, 1, 627, [], 0) else none)
  else (bif Nat.beq pc 627 then some (.iconst 2, 1, 628, [], 2) else none))) : nk_F) pc) : nk_F) pc) : nk_F) pc
  else ((fun pc => bif Nat.ble pc 632 then ((fun pc => bif Nat.ble pc 629 then (bif Nat.ble pc 628 then (bif Nat.beq pc 628 then some (.iadd, 1, 629, [], 0) else none)
  else (bif Nat.beq pc 629 then some (.iaload, 1, 630, [], 0) else none))
  else ((fun pc => bif Nat.ble pc 630 then (bif Nat.beq pc 630 then some (.aload_n 0, 1, 631, [], 0) else none)
  else (bif Nat.ble pc 631 then (bif Nat.beq pc 631 then some (.iload_n 3, 1, 632, [], 0) else none)
  else (bif Nat.beq pc 632 then some (.iconst 3, 1, 633, [], 3) else none))) : nk_F) pc) : nk_F) pc
  else ((fun pc => bif Nat.ble pc 635 then ((fun pc => bif Nat.ble pc 633 then (bif Nat.beq pc 633 then some (.iadd, 1, 634, [], 0) else none)
  else (bif Nat.ble pc 634 then (bif Nat.beq pc 634 then some (.iaload, 1, 635, [], 0) else none)
  else (bif Nat.beq pc 635 then some (.aload_n 0, 1, 636, [], 0) else none))) : nk_F) pc
  else ((fun pc => bif Nat.ble pc 636 then (bif Nat.beq pc 636 then some (.iload_n 3, 1, 637, [], 0) else none)
  else (bif Nat.ble pc 637 then (bif Nat.beq pc 637 then some (.iconst 4, 1, 638, [], 4) else none)
  else (bif Nat.beq pc 638 then some (.iadd, 1, 639, [], 0) else none))) : nk_F) pc) : nk_F) pc) : nk_F) pc) : nk_F) pc) : nk_F) pc
  else ((fun pc => bif Nat.ble pc 665 then ((fun pc => bif Nat.ble pc 649 then ((fun pc => bif Nat.ble pc 643 then ((fun pc => bif Nat.ble pc 640 then (bif Nat.ble pc 639 then (bif Nat.beq pc 639 then some (.iaload, 1, 640, [], 0) else none)
  else (bif Nat.beq pc 640 then some (.aload_n 0, 1, 641, [], 0) else none))
  else ((fun pc => bif Nat.ble pc 641 then (bif Nat.beq pc 641 then some (.iload_n 3, 1, 642, [], 0) else none)
  else (bif Nat.ble pc 642 then (bif Nat.beq pc 642 then some (.iconst 5, 1, 643, [], 5) else none)
  else (bif Nat.beq pc 643 then some (.iadd, 1, 644, [], 0) else none))) : nk_F) pc) : nk_F) pc
  else ((fun pc => bif Nat.ble pc 645 then (bif Nat.ble pc 644 then (bif Nat.beq pc 644 then some (.iaload, 1, 645, [], 0) else none)
  else (bif Nat.beq pc 645 then some (.aload_n 0, 1, 646, [], 0) else none))
  else ((fun pc => bif Nat.ble pc 646 then (bif Nat.beq pc 646 then some (.iload_n 3, 1, 647, [], 0) else none)
  else (bif Nat.ble pc 647 then (bif Nat.beq pc 647 then some (.bipush 6, 2, 649, [], 6) else none)
  else (bif Nat.beq pc 649 then some (.iadd, 1, 650, [], 0) else none))) : nk_F) pc) : nk_F) pc) : nk_F) pc
  else ((fun pc => bif Nat.ble pc 655 then ((fun pc => bif Nat.ble pc 651 then (bif Nat.ble pc 650 then (bif Nat.beq pc 650 then some (.iaload, 1, 651, [], 0) else none)
  else (bif Nat.beq pc 651 then some (.aload_n 0, 1, 652, [], 0) else none))
  else ((fun pc => bif Nat.ble pc 652 then (bif Nat.beq pc 652 then some (.iload_n 3, 1, 653, [], 0) else none)
  else (bif Nat.ble pc 653 then (bif Nat.beq pc 653 then some (.bipush 7, 2, 655, [], 7) else none)
  else (bif Nat.beq pc 655 then some (.iadd, 1, 656, [], 0) else none))) : nk_F) pc) : nk_F) pc
  else ((fun pc => bif Nat.ble pc 660 then ((fun pc => bif Nat.ble pc 656 then (bif Nat.beq pc 656 then some (.iaload, 1, 657, [], 0) else none)
  else (bif Nat.ble pc 657 then (bif Nat.beq pc 657 then some (.ifCond .eq 7, 3, 660, [664], 0) else none)
  else (bif Nat.beq pc 660 then some (.iconst 1, 1, 661, [], 1) else none))) : nk_F) pc
  else ((fun pc => bif Nat.ble pc 661 then (bif Nat.beq pc 661 then some (.goto 4, 3, 664, [665], 0) else none)
  else (bif Nat.ble pc 664 then (bif Nat.beq pc 664 then some (.iconst 0, 1, 665, [], 0) else none)
  else (bif Nat.beq pc 665 then some (.invokevirtual 62, 3, 668, [], 0) else none))) : nk_F) pc) : nk_F) pc) : nk_F) pc) : nk_F) pc
  else ((fun pc => bif Nat.ble pc 677 then ((fun pc => bif Nat.ble pc 672 then ((fun pc => bif Nat.ble pc 669 then (bif Nat.ble pc 668 then (bif Nat.beq pc 668 then some (.pop, 1, 669, [], 0) else none)
  else (bif Nat.beq pc 669 then some (.aload_n 2, 1, 670, [], 0) else none))
  else ((fun pc => bif Nat.ble pc 670 then (bif Nat.beq pc 670 then some (.aload_n 0, 1, 671, [], 0) else none)
  else (bif Nat.ble pc 671 then (bif Nat.beq pc 671 then some (.iload_n 3, 1, 672, [], 0) else none)
  else (bif Nat.beq pc 672 then some (.iconst 1, 1, 673, [], 1) else none))) : nk_F) pc) : nk_F) pc
  else ((fun pc => bif Nat.ble pc 674 then (bif Nat.ble pc 673 then (bif Nat.beq pc 673 then some (.iadd, 1, 674, [], 0) else none)
  else (bif Nat.beq pc 674 then some (.iaload, 1, 675, [], 0) else none))
  else ((fun pc => bif Nat.ble pc 675 then (bif Nat.beq pc 675 then some (.aload_n 0, 1, 676, [], 0) else none)
  else (bif Nat.ble pc 676 then (bif Nat.beq pc 676 then some (.iload_n 3, 1, 677, [], 0) else none)
  else (bif Nat.beq pc 677 then some (.iconst 2, 1, 678, [], 2) else none))) : nk_F) pc) : nk_F) pc) : nk_F) pc
  else ((fun pc => bif Nat.ble pc 682 then ((fun pc => bif Nat.ble pc 679 then (bif Nat.ble pc 678 then (bif Nat.beq pc 678 then some (.iadd, 1, 679, [], 0) else none)
  else (bif Nat.beq pc 679 then some (.iaload, 1, 680, [], 0) else none))
  else ((fun pc => bif Nat.ble pc 680 then (bif Nat.beq pc 680 then some (.aload_n 0, 1, 681, [], 0) else none)
  else (bif Nat.ble pc 681 then (bif Nat.beq pc 681 then some (.iload_n 3, 1, 682, [], 0) else none)
  else (bif Nat.beq pc 682 then some (.iconst 3, 1, 683, [], 3) else none))) : nk_F) pc) : nk_F) pc
  else ((fun pc => bif Nat.ble pc 685 then ((fun pc => bif Nat.ble pc 683 then (bif Nat.beq pc 683 then some (.iadd, 1, 684, [], 0) else none)
  else (bif Nat.ble pc 684 then (bif Nat.beq pc 684 then some (.iaload, 1, 685, [], 0) else none)
  else (bif Nat.beq pc 685 then some (.aload_n 0, 1, 686, [], 0) else none))) : nk_F) pc
  else ((fun pc => bif Nat.ble pc 686 then (bif Nat.beq pc 686 then some (.iload_n 3, 1, 687, [], 0) else none)
  else (bif Nat.ble pc 687 then (bif Nat.beq pc 687 then some (.iconst 4, 1, 688, [], 4) else none)
  else (bif Nat.beq pc 688 then some (.iadd, 1, 689, [], 0) else none))) : nk_F) pc) : nk_F) pc) : nk_F) pc) : nk_F) pc) : nk_F) pc) : nk_F) pc
  else ((fun pc => bif Nat.ble pc 742 then ((fun pc => bif Nat.ble pc 715 then ((fun pc => bif Nat.ble pc 699 then ((fun pc => bif Nat.ble pc 693 then ((fun pc => bif Nat.ble pc 690 then (bif Nat.ble pc 689 then (bif Nat.beq pc 689 then some (.iaload, 1, 690, [], 0) else none)
  else (bif Nat.beq pc 690 then some (.aload_n 0, 1, 691, [], 0) else none))
  else ((fun pc => bif Nat.ble pc 691 then (bif Nat.beq pc 691 then some (.iload_n 3, 1, 692, [], 0) else none)
  else (bif Nat.ble pc 692 then (bif Nat.beq pc 692 then some (.iconst 5, 1, 693, [], 5) else none)
  else (bif Nat.beq pc 693 then some (.iadd, 1, 694, [], 0) else none))) : nk_F) pc) : nk_F) pc
  else ((fun pc => bif Nat.ble pc 695 then (bif Nat.ble pc 694 then (bif Nat.beq pc 694 then some (.iaload, 1, 695, [], 0) else none)
  else (bif Nat.beq pc 695 then some (.aload_n 0, 1, 696, [], 0) else none))
  else ((fun pc => bif Nat.ble pc 696 then (bif Nat.beq pc 696 then some (.iload_n 3, 1, 697, [], 0) else none)
  else (bif Nat.ble pc 697 then (bif Nat.beq pc 697 then some (.bipush 6, 2, 699, [], 6) else none)
  else (bif Nat.beq pc 699 then some (.iadd, 1, 700, [], 0) else none))) : nk_F) pc) : nk_F) pc) : nk_F) pc
  else ((fun pc => bif Nat.ble pc 705 then ((fun pc => bif Nat.ble pc 701 then (bif Nat.ble pc 700 then (bif Nat.beq pc 700 then some (.iaload, 1, 701, [], 0) else none)
  else (bif Nat.beq pc 701 then some (.aload_n 0, 1, 702, [], 0) else none))
  else ((fun pc => bif Nat.ble pc 702 then (bif Nat.beq pc 702 then some (.iload_n 3, 1, 703, [], 0) else none)
  else (bif Nat.ble pc 703 then (bif Nat.beq pc 703 then some (.bipush 7, 2, 705, [], 7) else none)
  else (bif Nat.beq pc 705 then some (.iadd, 1, 706, [], 0) else none))) : nk_F) pc) : nk_F) pc
  else ((fun pc => bif Nat.ble pc 710 then ((fun pc => bif Nat.ble pc 706 then (bif Nat.beq pc 706 then some (.iaload, 1, 707, [], 0) else none)
  else (bif Nat.ble pc 707 then (bif Nat.beq pc 707 then some (.ifCond .eq 7, 3, 710, [714], 0) else none)
  else (bif Nat.beq pc 710 then some (.iconst 1, 1, 711, [], 1) else none))) : nk_F) pc
  else ((fun pc => bif Nat.ble pc 711 then (bif Nat.beq pc 711 then some (.goto 4, 3, 714, [715], 0) else none)
  else (bif Nat.ble pc 714 then (bif Nat.beq pc 714 then some (.iconst 0, 1, 715, [], 0) else none)
  else (bif Nat.beq pc 715 then some (.invokevirtual 66, 3, 718, [], 0) else none))) : nk_F) pc) : nk_F) pc) : nk_F) pc) : nk_F) pc
  else ((fun pc => bif Nat.ble pc 729 then ((fun pc => bif Nat.ble pc 724 then ((fun pc => bif Nat.ble pc 719 then (bif Nat.ble pc 718 then (bif Nat.beq pc 718 then some (.pop, 1, 719, [], 0) else none)
  else (bif Nat.beq pc 719 then some (.goto 1083, 3, 722, [1802], 0) else none))
  else ((fun pc => bif Nat.ble pc 722 then (bif Nat.beq pc 722 then some (.aload_n 1, 1, 723, [], 0) else none)
  else (bif Nat.ble pc 723 then (bif Nat.beq pc 723 then some (.aload_n 0, 1, 724, [], 0) else none)
  else (bif Nat.beq pc 724 then some (.iload_n 3, 1, 725, [], 0) else none))) : nk_F) pc) : nk_F) pc
  else ((fun pc => bif Nat.ble pc 726 then (bif Nat.ble pc 725 then (bif Nat.beq pc 725 then some (.iconst 1, 1, 726, [], 1) else none)
  else (bif Nat.beq pc 726 then some (.iadd, 1, 727, [], 0) else none))
  else ((fun pc => bif Nat.ble pc 727 then (bif Nat.beq pc 727 then some (.iaload, 1, 728, [], 0) else none)
  else (bif Nat.ble pc 728 then (bif Nat.beq pc 728 then some (.aload_n 0, 1, 729, [], 0) else none)
  else (bif Nat.beq pc 729 then some (.iload_n 3, 1, 730, [], 0) else none))) : nk_F) pc) : nk_F) pc) : nk_F) pc
  else ((fun pc => bif Nat.ble pc 736 then ((fun pc => bif Nat.ble pc 731 then (bif Nat.ble pc 730 then (bif Nat.beq pc 730 then some (.iconst 2, 1, 731, [], 2) else none)
  else (bif Nat.beq pc 731 then some (.iadd, 1, 732, [], 0) else none))
  else ((fun pc => bif Nat.ble pc 732 then (bif Nat.beq pc 732 then some (.iaload, 1, 733, [], 0) else none)
  else (bif Nat.ble pc 733 then (bif Nat.beq pc 733 then some (.invokevirtual 67, 3, 736, [], 0) else none)
  else (bif Nat.beq pc 736 then some (.pop, 1, 737, [], 0) else none))) : nk_F) pc) : nk_F) pc
  else ((fun pc => bif Nat.ble pc 739 then ((fun pc => bif Nat.ble pc 737 then (bif Nat.beq pc 737 then some (.aload_n 2, 1, 738, [], 0) else none)
  else (bif Nat.ble pc 738 then (bif Nat.beq pc 738 then some (.aload_n 0, 1, 739, [], 0) else none)
  else (bif Nat.beq pc 739 then some (.iload_n 3, 1, 740, [], 0) else none))) : nk_F) pc
  else ((fun pc => bif Nat.ble pc 740 then (bif Nat.beq pc 740 then some (.iconst 1, 1, 741, [], 1) else none)
  else (bif Nat.ble pc 741 then (bif Nat.beq pc 741 then some (.iadd, 1, 742, [], 0) else none)
  else (bif Nat.beq pc 742 then some (.iaload, 1, 743, [], 0) else none))) : nk_F) pc) : nk_F) pc) : nk_F) pc) : nk_F) pc) : nk_F) pc
  else ((fun pc => bif Nat.ble pc 769 then ((fun pc => bif Nat.ble pc 756 then ((fun pc => bif Nat.ble pc 747 then ((fun pc => bif Nat.ble pc 744 then (bif Nat.ble pc 743 then (bif Nat.beq pc 743 then some (.aload_n 0, 1, 744, [], 0) else none)
  else (bif Nat.beq pc 744 then some (.iload_n 3, 1, 745, [], 0) else none))
  else ((fun pc => bif Nat.ble pc 745 then (bif Nat.beq pc 745 then some (.iconst 2, 1, 746, [], 2) else none)
  else (bif Nat.ble pc 746 then (bif Nat.beq pc 746 then some (.iadd, 1, 747, [], 0) else none)
  else (bif Nat.beq pc 747 then some (.iaload, 1, 748, [], 0) else none))) : nk_F) pc) : nk_F) pc
  else ((fun pc => bif Nat.ble pc 751 then (bif Nat.ble pc 748 then (bif Nat.beq pc 748 then some (.invokevirtual 70, 3, 751, [], 0) else none)
  else (bif Nat.beq pc 751 then some (.pop, 1, 752, [], 0) else none))
  else ((fun pc => bif Nat.ble pc 752 then (bif Nat.beq pc 752 then some (.goto 1050, 3, 755, [1802], 0) else none)
  else (bif Nat.ble pc 755 then (bif Nat.beq pc 755 then some (.aload_n 1, 1, 756, [], 0) else none)
  else (bif Nat.beq pc 756 then some (.aload_n 0, 1, 757, [], 0) else none))) : nk_F) pc) : nk_F) pc) : nk_F) pc
  else ((fun pc => bif Nat.ble pc 761 then ((fun pc => bif Nat.ble pc 758 then (bif Nat.ble pc 757 then (bif Nat.beq pc 757 then some (.iload_n 3, 1, 758, [], 0) else none)
  else (bif Nat.beq pc 758 then some (.iconst 1, 1, 759, [], 1) else none))
  else ((fun pc => bif Nat.ble pc 759 then (bif Nat.beq pc 759 then some (.iadd, 1, 760, [], 0) else none)
  else (bif Nat.ble pc 760 then (bif Nat.beq pc 760 then some (.iaload, 1, 761, [], 0) else none)
  else (bif Nat.beq pc 761 then some (.aload_n 0, 1, 762, [], 0) else none))) : nk_F) pc) : nk_F) pc
  else ((fun pc => bif Nat.ble pc 764 then ((fun pc => bif Nat.ble pc 762 then (bif Nat.beq pc 762 then some (.iload_n 3, 1, 763, [], 0) else none)
  else (bif Nat.ble pc 763 then (bif Nat.beq pc 763 then some (.iconst 2, 1, 764, [], 2) else none)
  else (bif Nat.beq pc 764 then some (.iadd, 1, 765, [], 0) else none))) : nk_F) pc
  else ((fun pc => bif Nat.ble pc 765 then (bif Nat.beq pc 765 then some (.iaload, 1, 766, [], 0) else none)
  else (bif Nat.ble pc 766 then (bif Nat.beq pc 766 then some (.invokevirtual 71, 3, 769, [], 0) else none)
  else (bif Nat.beq pc 769 then some (.pop, 1, 770, [], 0) else none))) : nk_F) pc) : nk_F) pc) : nk_F) pc) : nk_F) pc
  else ((fun pc => bif Nat.ble pc 779 then ((fun pc => bif Nat.ble pc 774 then ((fun pc => bif Nat.ble pc 771 then (bif Nat.ble pc 770 then (bif Nat.beq pc 770 then some (.aload_n 2, 1, 771, [], 0) else none)
  else (bif Nat.beq pc 771 then some (.aload_n 0, 1, 772, [], 0) else none))
  else ((fun pc => bif Nat.ble pc 772 then (bif Nat.beq pc 772 then some (.iload_n 3, 1, 773, [], 0) else none)
  else (bif Nat.ble pc 773 then (bif Nat.beq pc 773 then some (.iconst 1, 1, 774, [], 1) else none)
  else (bif Nat.beq pc 774 then some (.iadd, 1, 775, [], 0) else none))) : nk_F) pc) : nk_F) pc
  else ((fun pc => bif Nat.ble pc 776 then (bif Nat.ble pc 775 then (bif Nat.beq pc 775 then some (.iaload, 1, 776, [], 0) else none)
  else (bif Nat.beq pc 776 then some (.aload_n 0, 1, 777, [], 0) else none))
  else ((fun pc => bif Nat.ble pc 777 then (bif Nat.beq pc 777 then some (.iload_n 3, 1, 778, [], 0) else none)
  else (bif Nat.ble pc 778 then (bif Nat.beq pc 778 then some (.iconst 2, 1, 779, [], 2) else none)
  else (bif Nat.beq pc 779 then some (.iadd, 1, 780, [], 0) else none))) : nk_F) pc) : nk_F) pc) : nk_F) pc
  else ((fun pc => bif Nat.ble pc 788 then ((fun pc => bif Nat.ble pc 781 then (bif Nat.ble pc 780 then (bif Nat.beq pc 780 then some (.iaload, 1, 781, [], 0) else none)
  else (bif Nat.beq pc 781 then some (.invokevirtual 74, 3, 784, [], 0) else none))
  else ((fun pc => bif Nat.ble pc 784 then (bif Nat.beq pc 784 then some (.pop, 1, 785, [], 0) else none)
  else (bif Nat.ble pc 785 then (bif Nat.beq pc 785 then some (.goto 1017, 3, 788, [1802], 0) else none)
  else (bif Nat.beq pc 788 then some (.aload_n 1, 1, 789, [], 0) else none))) : nk_F) pc) : nk_F) pc
  else ((fun pc => bif Nat.ble pc 791 then ((fun pc => bif Nat.ble pc 789 then (bif Nat.beq pc 789 then some (.aload_n 0, 1, 790, [], 0) else none)
  else (bif Nat.ble pc 790 then (bif Nat.beq pc 790 then some (.iload_n 3, 1, 791, [], 0) else none)
  else (bif Nat.beq pc 791 then some (.iconst 1, 1, 792, [], 1) else none))) : nk_F) pc
  else ((fun pc => bif Nat.ble pc 792 then (bif Nat.beq pc 792 then some (.iadd, 1, 793, [], 0) else none)
  else (bif Nat.ble pc 793 then (bif Nat.beq pc 793 then some (.iaload, 1, 794, [], 0) else none)
  else (bif Nat.beq pc 794 then some (.aload_n 0, 1, 795, [], 0) else none))) : nk_F) pc) : nk_F) pc) : nk_F) pc) : nk_F) pc) : nk_F) pc) : nk_F) pc) : nk_F) pc
  else ((fun pc => bif Nat.ble pc 902 then ((fun pc => bif Nat.ble pc 848 then ((fun pc => bif Nat.ble pc 821 then ((fun pc => bif Nat.ble pc 806 then ((fun pc => bif Nat.ble pc 799 then ((fun pc => bif Nat.ble pc 796 then (bif Nat.ble pc 795 then (bif Nat.beq pc 795 then some (.iload_n 3, 1, 796, [], 0) else none)
  else (bif Nat.beq pc 796 then some (.iconst 2, 1, 797, [], 2) else none))
  else ((fun pc => bif Nat.ble pc 797 then (bif Nat.beq pc 797 then some (.iadd, 1, 798, [], 0) else none)
  else (bif Nat.ble pc 798 then (bif Nat.beq pc 798 then some (.iaload, 1, 799, [], 0) else none)
  else (bif Nat.beq pc 799 then some (.invokevirtual 75, 3, 802, [], 0) else none))) : nk_F) pc) : nk_F) pc
  else ((fun pc => bif Nat.ble pc 803 then (bif Nat.ble pc 802 then (bif Nat.beq pc 802 then some (.pop, 1, 803, [], 0) else none)
  else (bif Nat.beq pc 803 then some (.aload_n 2, 1, 804, [], 0) else none))
  else ((fun pc => bif Nat.ble pc 804 then (bif Nat.beq pc 804 then some (.aload_n 0, 1, 805, [], 0) else none)
  else (bif Nat.ble pc 805 then (bif Nat.beq pc 805 then some (.iload_n 3, 1, 806, [], 0) else none)
  else (bif Nat.beq pc 806 then some (.iconst 1, 1, 807, [], 1) else none))) : nk_F) pc) : nk_F) pc) : nk_F) pc
  else ((fun pc => bif Nat.ble pc 811 then ((fun pc => bif Nat.ble pc 808 then (bif Nat.ble pc 807 then (bif Nat.beq pc 807 then some (.iadd, 1, 808, [], 0) else none)
  else (bif Nat.beq pc 808 then some (.iaload, 1, 809, [], 0) else none))
  else ((fun pc => bif Nat.ble pc 809 then (bif Nat.beq pc 809 then some (.aload_n 0, 1, 810, [], 0) else none)
  else (bif Nat.ble pc 810 then (bif Nat.beq pc 810 then some (.iload_n 3, 1, 811, [], 0) else none)
  else (bif Nat.beq pc 811 then some (.iconst 2, 1, 812, [], 2) else none))) : nk_F) pc) : nk_F) pc
  else ((fun pc => bif Nat.ble pc 814 then ((fun pc => bif Nat.ble pc 812 then (bif Nat.beq pc 812 then some (.iadd, 1, 813, [], 0) else none)
  else (bif Nat.ble pc 813 then (bif Nat.beq pc 813 then some (.iaload, 1, 814, [], 0) else none)
  else (bif Nat.beq pc 814 then some (.invokevirtual 78, 3, 817, [], 0) else none))) : nk_F) pc
  else ((fun pc => bif Nat.ble pc 817 then (bif Nat.beq pc 817 then some (.pop, 1, 818, [], 0) else none)
  else (bif Nat.ble pc 818 then (bif Nat.beq pc 818 then some (.goto 984, 3, 821, [1802], 0) else none)
  else (bif Nat.beq pc 821 then some (.aload_n 1, 1, 822, [], 0) else none))) : nk_F) pc) : nk_F) pc) : nk_F) pc) : nk_F) pc
  else ((fun pc => bif Nat.ble pc 833 then ((fun pc => bif Nat.ble pc 826 then ((fun pc => bif Nat.ble pc 823 then (bif Nat.ble pc 822 then (bif Nat.beq pc 822 then some (.aload_n 0, 1, 823, [], 0) else none)
  else (bif Nat.beq pc 823 then some (.iload_n 3, 1, 824, [], 0) else none))
  else ((fun pc => bif Nat.ble pc 824 then (bif Nat.beq pc 824 then some (.iconst 1, 1, 825, [], 1) else none)
  else (bif Nat.ble pc 825 then (bif Nat.beq pc 825 then some (.iadd, 1, 826, [], 0) else none)
  else (bif Nat.beq pc 826 then some (.iaload, 1, 827, [], 0) else none))) : nk_F) pc) : nk_F) pc
  else ((fun pc => bif Nat.ble pc 830 then (bif Nat.ble pc 827 then (bif Nat.beq pc 827 then some (.invokevirtual 79, 3, 830, [], 0) else none)
  else (bif Nat.beq pc 830 then some (.pop, 1, 831, [], 0) else none))
  else ((fun pc => bif Nat.ble pc 831 then (bif Nat.beq pc 831 then some (.aload_n 2, 1, 832, [], 0) else none)
  else (bif Nat.ble pc 832 then (bif Nat.beq pc 832 then some (.aload_n 0, 1, 833, [], 0) else none)
  else (bif Nat.beq pc 833 then some (.iload_n 3, 1, 834, [], 0) else none))) : nk_F) pc) : nk_F) pc) : nk_F) pc
  else ((fun pc => bif Nat.ble pc 840 then ((fun pc => bif Nat.ble pc 835 then (bif Nat.ble pc 834 then (bif Nat.beq pc 834 then some (.iconst 1, 1, 835, [], 1) else none)
  else (bif Nat.beq pc 835 then some (.iadd, 1, 836, [], 0) else none))
  else ((fun pc => bif Nat.ble pc 836 then (bif Nat.beq pc 836 then some (.iaload, 1, 837, [], 0) else none)
  else (bif Nat.ble pc 837 then (bif Nat.beq pc 837 then some (.invokevirtual 82, 3, 840, [], 0) else none)
  else (bif Nat.beq pc 840 then some (.pop, 1, 841, [], 0) else none))) : nk_F) pc) : nk_F) pc
  else ((fun pc => bif Nat.ble pc 845 then ((fun pc => bif Nat.ble pc 841 then (bif Nat.beq pc 841 then some (.goto 961, 3, 844, [1802], 0) else none)
  else (bif Nat.ble pc 844 then (bif Nat.beq pc 844 then some (.aload_n 1, 1, 845, [], 0) else none)
  else (bif Nat.beq pc 845 then some (.aload_n 0, 1, 846, [], 0) else none))) : nk_F) pc
  else ((fun pc => bif Nat.ble pc 846 then (bif Nat.beq pc 846 then some (.iload_n 3, 1, 847, [], 0) else none)
  else (bif Nat.ble pc 847 then (bif Nat.beq pc 847 then some (.iconst 1, 1, 848, [], 1) else none)
  else (bif Nat.beq pc 848 then some (.iadd, 1, 849, [], 0) else none))) : nk_F) pc) : nk_F) pc) : nk_F) pc) : nk_F) pc) : nk_F) pc
  else ((fun pc => bif Nat.ble pc 873 then ((fun pc => bif Nat.ble pc 860 then ((fun pc => bif Nat.ble pc 853 then ((fun pc => bif Nat.ble pc 850 then (bif Nat.ble pc 849 then (bif Nat.beq pc 849 then some (.iaload, 1, 850, [], 0) else none)
  else (bif Nat.beq pc 850 then some (.aload_n 0, 1, 851, [], 0) else none))
  else ((fun pc => bif Nat.ble pc 851 then (bif Nat.beq pc 851 then some (.iload_n 3, 1, 852, [], 0) else none)
  else (bif Nat.ble pc 852 then (bif Nat.beq pc 852 then some (.iconst 2, 1, 853, [], 2) else none)
  else (bif Nat.beq pc 853 then some (.iadd, 1, 854, [], 0) else none))) : nk_F) pc) : nk_F) pc
  else ((fun pc => bif Nat.ble pc 855 then (bif Nat.ble pc 854 then (bif Nat.beq pc 854 then some (.iaload, 1, 855, [], 0) else none)
  else (bif Nat.beq pc 855 then some (.invokevirtual 83, 3, 858, [], 0) else none))
  else ((fun pc => bif Nat.ble pc 858 then (bif Nat.beq pc 858 then some (.pop, 1, 859, [], 0) else none)
  else (bif Nat.ble pc 859 then (bif Nat.beq pc 859 then some (.aload_n 2, 1, 860, [], 0) else none)
  else (bif Nat.beq pc 860 then some (.aload_n 0, 1, 861, [], 0) else none))) : nk_F) pc) : nk_F) pc) : nk_F) pc
  else ((fun pc => bif Nat.ble pc 865 then ((fun pc => bif Nat.ble pc 862 then (bif Nat.ble pc 861 then (bif Nat.beq pc 861 then some (.iload_n 3, 1, 862, [], 0) else none)
  else (bif Nat.beq pc 862 then some (.iconst 1, 1, 863, [], 1) else none))
  else ((fun pc => bif Nat.ble pc 863 then (bif Nat.beq pc 863 then some (.iadd, 1, 864, [], 0) else none)
  else (bif Nat.ble pc 864 then (bif Nat.beq pc 864 then some (.iaload, 1, 865, [], 0) else none)
  else (bif Nat.beq pc 865 then some (.aload_n 0, 1, 866, [], 0) else none))) : nk_F) pc) : nk_F) pc
  else ((fun pc => bif Nat.ble pc 868 then ((fun pc => bif Nat.ble pc 866 then (bif Nat.beq pc 866 then some (.iload_n 3, 1, 867, [], 0) else none)
  else (bif Nat.ble pc 867 then (bif Nat.beq pc 867 then some (.iconst 2, 1, 868, [], 2) else none)
  else (bif Nat.beq pc 868 then some (.iadd, 1, 869, [], 0) else none))) : nk_F) pc
  else ((fun pc => bif Nat.ble pc 869 then (bif Nat.beq pc 869 then some (.iaload, 1, 870, [], 0) else none)
  else (bif Nat.ble pc 870 then (bif Nat.beq pc 870 then some (.invokevirtual 86, 3, 873, [], 0) else none)
  else (bif Nat.beq pc 873 then some (.pop, 1, 874, [], 0) else none))) : nk_F) pc) : nk_F) pc) : nk_F) pc) : nk_F) pc
  else ((fun pc => bif Nat.ble pc 887 then ((fun pc => bif Nat.ble pc 880 then ((fun pc => bif Nat.ble pc 877 then (bif Nat.ble pc 874 then (bif Nat.beq pc 874 then some (.goto 928, 3, 877, [1802], 0) else none)
  else (bif Nat.beq pc 877 then some (.aload_n 1, 1, 878, [], 0) else none))
  else ((fun pc => bif Nat.ble pc 878 then (bif Nat.beq pc 878 then some (.aload_n 0, 1, 879, [], 0) else none)
  else (bif Nat.ble pc 879 then (bif Nat.beq pc 879 then some (.iload_n 3, 1, 880, [], 0) else none)
  else (bif Nat.beq pc 880 then some (.iconst 1, 1, 881, [], 1) else none))) : nk_F) pc) : nk_F) pc
  else ((fun pc => bif Nat.ble pc 882 then (bif Nat.ble pc 881 then (bif Nat.beq pc 881 then some (.iadd, 1, 882, [], 0) else none)
  else (bif Nat.beq pc 882 then some (.iaload, 1, 883, [], 0) else none))
  else ((fun pc => bif Nat.ble pc 883 then (bif Nat.beq pc 883 then some (.invokevirtual 87, 3, 886, [], 0) else none)
  else (bif Nat.ble pc 886 then (bif Nat.beq pc 886 then some (.pop, 1, 887, [], 0) else none)
  else (bif Nat.beq pc 887 then some (.aload_n 2, 1, 888, [], 0) else none))) : nk_F) pc) : nk_F) pc) : nk_F) pc
  else ((fun pc => bif Nat.ble pc 892 then ((fun pc => bif Nat.ble pc 889 then (bif Nat.ble pc 888 then (bif Nat.beq pc 888 then some (.aload_n 0, 1, 889, [], 0) else none)
  else (bif Nat.beq pc 889 then some (.iload_n 3, 1, 890, [], 0) else none))
  else ((fun pc => bif Nat.ble pc 890 then (bif Nat.beq pc 890 then some (.iconst 1, 1, 891, [], 1) else none)
  else (bif Nat.ble pc 891 then (bif Nat.beq pc 891 then some (.iadd, 1, 892, [], 0) else none)
  else (bif Nat.beq pc 892 then some (.iaload, 1, 893, [], 0) else none))) : nk_F) pc) : nk_F) pc
  else ((fun pc => bif Nat.ble pc 897 then ((fun pc => bif Nat.ble pc 893 then (bif Nat.beq pc 893 then some (.invokevirtual 90, 3, 896, [], 0) else none)
  else (bif Nat.ble pc 896 then (bif Nat.beq pc 896 then some (.pop, 1, 897, [], 0) else none)
  else (bif Nat.beq pc 897 then some (.goto 905, 3, 900, [1802], 0) else none))) : nk_F) pc
  else ((fun pc => bif Nat.ble pc 900 then (bif Nat.beq pc 900 then some (.aload_n 1, 1, 901, [], 0) else none)
  else (bif Nat.ble pc 901 then (bif Nat.beq pc 901 then some (.aload_n 0, 1, 902, [], 0) else none)
  else (bif Nat.beq pc 902 then some (.iload_n 3, 1, 903, [], 0) else none))) : nk_F) pc) : nk_F) pc) : nk_F) pc) : nk_F) pc) : nk_F) pc) : nk_F) pc
  else ((fun pc => bif Nat.ble pc 952 then ((fun pc => bif Nat.ble pc 925 then ((fun pc => bif Nat.ble pc 914 then ((fun pc => bif Nat.ble pc 907 then ((fun pc => bif Nat.ble pc 904 then (bif Nat.ble pc 903 then (bif Nat.beq pc 903 then some (.iconst 1, 1, 904, [], 1) else none)
  else (bif Nat.beq pc 904 then some (.iadd, 1, 905, [], 0) else none))
  else ((fun pc => bif Nat.ble pc 905 then (bif Nat.beq pc 905 then some (.iaload, 1, 906, [], 0) else none)
  else (bif Nat.ble pc 906 then (bif Nat.beq pc 906 then some (.aload_n 0, 1, 907, [], 0) else none)
  else (bif Nat.beq pc 907 then some (.iload_n 3, 1, 908, [], 0) else none))) : nk_F) pc) : nk_F) pc
  else ((fun pc => bif Nat.ble pc 909 then (bif Nat.ble pc 908 then (bif Nat.beq pc 908 then some (.iconst 2, 1, 909, [], 2) else none)
  else (bif Nat.beq pc 909 then some (.iadd, 1, 910, [], 0) else none))
  else ((fun pc => bif Nat.ble pc 910 then (bif Nat.beq pc 910 then some (.iaload, 1, 911, [], 0) else none)
  else (bif Nat.ble pc 911 then (bif Nat.beq pc 911 then some (.invokevirtual 91, 3, 914, [], 0) else none)
  else (bif Nat.beq pc 914 then some (.pop, 1, 915, [], 0) else none))) : nk_F) pc) : nk_F) pc) : nk_F) pc
  else ((fun pc => bif Nat.ble pc 919 then ((fun pc => bif Nat.ble pc 916 then (bif Nat.ble pc 915 then (bif Nat.beq pc 915 then some (.aload_n 2, 1, 916, [], 0) else none)
  else (bif Nat.beq pc 916 then some (.aload_n 0, 1, 917, [], 0) else none))
  else ((fun pc => bif Nat.ble pc 917 then (bif Nat.beq pc 917 then some (.iload_n 3, 1, 918, [], 0) else none)
  else (bif Nat.ble pc 918 then (bif Nat.beq pc 918 then some (.iconst 1, 1, 919, [], 1) else none)
  else (bif Nat.beq pc 919 then some (.iadd, 1, 920, [], 0) else none))) : nk_F) pc) : nk_F) pc
  else ((fun pc => bif Nat.ble pc 922 then ((fun pc => bif Nat.ble pc 920 then (bif Nat.beq pc 920 then some (.iaload, 1, 921, [], 0) else none)
  else (bif Nat.ble pc 921 then (bif Nat.beq pc 921 then some (.aload_n 0, 1, 922, [], 0) else none)
  else (bif Nat.beq pc 922 then some (.iload_n 3, 1, 923, [], 0) else none))) : nk_F) pc
  else ((fun pc => bif Nat.ble pc 923 then (bif Nat.beq pc 923 then some (.iconst 2, 1, 924, [], 2) else none)
  else (bif Nat.ble pc 924 then (bif Nat.beq pc 924 then some (.iadd, 1, 925, [], 0) else none)
  else (bif Nat.beq pc 925 then some (.iaload, 1, 926, [], 0) else none))) : nk_F) pc) : nk_F) pc) : nk_F) pc) : nk_F) pc
  else ((fun pc => bif Nat.ble pc 939 then ((fun pc => bif Nat.ble pc 934 then ((fun pc => bif Nat.ble pc 929 then (bif Nat.ble pc 926 then (bif Nat.beq pc 926 then some (.invokevirtual 94, 3, 929, [], 0) else none)
  else (bif Nat.beq pc 929 then some (.pop, 1, 930, [], 0) else none))
  else ((fun pc => bif Nat.ble pc 930 then (bif Nat.beq pc 930 then some (.goto 872, 3, 933, [1802], 0) else none)
  else (bif Nat.ble pc 933 then (bif Nat.beq pc 933 then some (.aload_n 1, 1, 934, [], 0) else none)
  else (bif Nat.beq pc 934 then some (.aload_n 0, 1, 935, [], 0) else none))) : nk_F) pc) : nk_F) pc
  else ((fun pc => bif Nat.ble pc 936 then (bif Nat.ble pc 935 then (bif Nat.beq pc 935 then some (.iload_n 3, 1, 936, [], 0) else none)
  else (bif Nat.beq pc 936 then some (.iconst 1, 1, 937, [], 1) else none))
  else ((fun pc => bif Nat.ble pc 937 then (bif Nat.beq pc 937 then some (.iadd, 1, 938, [], 0) else none)
  else (bif Nat.ble pc 938 then (bif Nat.beq pc 938 then some (.iaload, 1, 939, [], 0) else none)
  else (bif Nat.beq pc 939 then some (.aload_n 0, 1, 940, [], 0) else none))) : nk_F) pc) : nk_F) pc) : nk_F) pc
  else ((fun pc => bif Nat.ble pc 944 then ((fun pc => bif Nat.ble pc 941 then (bif Nat.ble pc 940 then (bif Nat.beq pc 940 then some (.iload_n 3, 1, 941, [], 0) else none)
  else (bif Nat.beq pc 941 then some (.iconst 2, 1, 942, [], 2) else none))
  else ((fun pc => bif Nat.ble pc 942 then (bif Nat.beq pc 942 then some (.iadd, 1, 943, [], 0) else none)
  else (bif Nat.ble pc 943 then (bif Nat.beq pc 943 then some (.iaload, 1, 944, [], 0) else none)
  else (bif Nat.beq pc 944 then some (.aload_n 0, 1, 945, [], 0) else none))) : nk_F) pc) : nk_F) pc
  else ((fun pc => bif Nat.ble pc 947 then ((fun pc => bif Nat.ble pc 945 then (bif Nat.beq pc 945 then some (.iload_n 3, 1, 946, [], 0) else none)
  else (bif Nat.ble pc 946 then (bif Nat.beq pc 946 then some (.iconst 3, 1, 947, [], 3) else none)
  else (bif Nat.beq pc 947 then some (.iadd, 1, 948, [], 0) else none))) : nk_F) pc
  else ((fun pc => bif Nat.ble pc 948 then (bif Nat.beq pc 948 then some (.iaload, 1, 949, [], 0) else none)
  else (bif Nat.ble pc 949 then (bif Nat.beq pc 949 then some (.invokevirtual 95, 3, 952, [], 0) else none)
  else (bif Nat.beq pc 952 then some (.pop, 1, 953, [], 0) else none))) : nk_F) pc) : nk_F) pc) : nk_F) pc) : nk_F) pc) : nk_F) pc
  else ((fun pc => bif Nat.ble pc 977 then ((fun pc => bif Nat.ble pc 962 then ((fun pc => bif Nat.ble pc 957 then ((fun pc => bif Nat.ble pc 954 then (bif Nat.ble pc 953 then (bif Nat.beq pc 953 then some (.aload_n 2, 1, 954, [], 0) else none)
  else (bif Nat.beq pc 954 then some (.aload_n 0, 1, 955, [], 0) else none))
  else ((fun pc => bif Nat.ble pc 955 then (bif Nat.beq pc 955 then some (.iload_n 3, 1, 956, [], 0) else none)
  else (bif Nat.ble pc 956 then (bif Nat.beq pc 956 then some (.iconst 1, 1, 957, [], 1) else none)
  else (bif Nat.beq pc 957 then some (.iadd, 1, 958, [], 0) else none))) : nk_F) pc) : nk_F) pc
  else ((fun pc => bif Nat.ble pc 959 then (bif Nat.ble pc 958 then (bif Nat.beq pc 958 then some (.iaload, 1, 959, [], 0) else none)
  else (bif Nat.beq pc 959 then some (.aload_n 0, 1, 960, [], 0) else none))
  else ((fun pc => bif Nat.ble pc 960 then (bif Nat.beq pc 960 then some (.iload_n 3, 1, 961, [], 0) else none)
  else (bif Nat.ble pc 961 then (bif Nat.beq pc 961 then some (.iconst 2, 1, 962, [], 2) else none)
  else (bif Nat.beq pc 962 then some (.iadd, 1, 963, [], 0) else none))) : nk_F) pc) : nk_F) pc) : nk_F) pc
  else ((fun pc => bif Nat.ble pc 967 then ((fun pc => bif Nat.ble pc 964 then (bif Nat.ble pc 963 then (bif Nat.beq pc 963 then some (.iaload, 1, 964, [], 0) else none)
  else (bif Nat.beq pc 964 then some (.aload_n 0, 1, 965, [], 0) else none))
  else ((fun pc => bif Nat.ble pc 965 then (bif Nat.beq pc 965 then some (.iload_n 3, 1, 966, [], 0) else none)
  else (bif Nat.ble pc 966 then (bif Nat.beq pc 966 then some (.iconst 3, 1, 967, [], 3) else none)
  else (bif Nat.beq pc 967 then some (.iadd, 1, 968, [], 0) else none))) : nk_F) pc) : nk_F) pc
  else ((fun pc => bif Nat.ble pc 972 then ((fun pc => bif Nat.ble pc 968 then (bif Nat.beq pc 968 then some (.iaload, 1, 969, [], 0) else none)
  else (bif Nat.ble pc 969 then (bif Nat.beq pc 969 then some (.invokevirtual 98, 3, 972, [], 0) else none)
  else (bif Nat.beq pc 972 then some (.pop, 1, 973, [], 0) else none))) : nk_F) pc
  else ((fun pc => bif Nat.ble pc 973 then (bif Nat.beq pc 973 then some (.goto 829, 3, 976, [1802], 0) else none)
  else (bif Nat.ble pc 976 then (bif Nat.beq pc 976 then some (.aload_n 1, 1, 977, [], 0) else none)
  else (bif Nat.beq pc 977 then some (.aload_n 0, 1, 978, [], 0) else none))) : nk_F) pc) : nk_F) pc) : nk_F) pc) : nk_F) pc
  else ((fun pc => bif Nat.ble pc 988 then ((fun pc => bif Nat.ble pc 982 then ((fun pc => bif Nat.ble pc 979 then (bif Nat.ble pc 978 then (bif Nat.beq pc 978 then some (.iload_n 3, 1, 979, [], 0) else none)
  else (bif Nat.beq pc 979 then some (.iconst 1, 1, 980, [], 1) else none))
  else ((fun pc => bif Nat.ble pc 980 then (bif Nat.beq pc 980 then some (.iadd, 1, 981, [], 0) else none)
  else (bif Nat.ble pc 981 then (bif Nat.beq pc 981 then some (.iaload, 1, 982, [], 0) else none)
  else (bif Nat.beq pc 982 then some (.aload_n 0, 1, 983, [], 0) else none))) : nk_F) pc) : nk_F) pc
  else ((fun pc => bif Nat.ble pc 985 then ((fun pc => bif Nat.ble pc 983 then (bif Nat.beq pc 983 then some (.iload_n 3, 1, 984, [], 0) else none)
  else (bif Nat.ble pc 984 then (bif Nat.beq pc 984 then some (.iconst 2, 1, 985, [], 2) else none)
  else (bif Nat.beq pc 985 then some (.iadd, 1, 986, [], 0) else none))) : nk_F) pc
  else ((fun pc => bif Nat.ble pc 986 then (bif Nat.beq pc 986 then some (.iaload, 1, 987, [], 0) else none)
  else (bif Nat.ble pc 987 then (bif Nat.beq pc 987 then some (.aload_n 0, 1, 988, [], 0) else none)
  else (bif Nat.beq pc 988 then some (.iload_n 3, 1, 989, [], 0) else none))) : nk_F) pc) : nk_F) pc) : nk_F) pc
  else ((fun pc => bif Nat.ble pc 993 then ((fun pc => bif Nat.ble pc 990 then (bif Nat.ble pc 989 then (bif Nat.beq pc 989 then some (.iconst 3, 1, 990, [], 3) else none)
  else (bif Nat.beq pc 990 then some (.iadd, 1, 991, [], 0) else none))
  else ((fun pc => bif Nat.ble pc 991 then (bif Nat.beq pc 991 then some (.iaload, 1, 992, [], 0) else none)
  else (bif Nat.ble pc 992 then (bif Nat.beq pc 992 then some (.aload_n 0, 1, 993, [], 0) else none)
  else (bif Nat.beq pc 993 then some (.iload_n 3, 1, 994, [], 0) else none))) : nk_F) pc) : nk_F) pc
  else ((fun pc => bif Nat.ble pc 996 then ((fun pc => bif Nat.ble pc 994 then (bif Nat.beq pc 994 then some (.iconst 4, 1, 995, [], 4) else none)
  else (bif Nat.ble pc 995 then (bif Nat.beq pc 995 then some (.iadd, 1, 996, [], 0) else none)
  else (bif Nat.beq pc 996 then some (.iaload, 1, 997, [], 0) else none))) : nk_F) pc
  else ((fun pc => bif Nat.ble pc 997 then (bif Nat.beq pc 997 then some (.aload_n 0, 1, 998, [], 0) else none)
  else (bif Nat.ble pc 998 then (bif Nat.beq pc 998 then some (.iload_n 3, 1, 999, [], 0) else none)
  else (bif Nat.beq pc 999 then some (.iconst 5, 1, 1000, [], 5) else none))) : nk_F) pc) : nk_F) pc) : nk_F) pc) : nk_F) pc) : nk_F) pc) : nk_F) pc) : nk_F) pc) : nk_F) pc) : nk_F) pc
  else ((fun pc => bif Nat.ble pc 1384 then ((fun pc => bif Nat.ble pc 1187 then ((fun pc => bif Nat.ble pc 1095 then ((fun pc => bif Nat.ble pc 1047 then ((fun pc => bif Nat.ble pc 1022 then ((fun pc => bif Nat.ble pc 1011 then ((fun pc => bif Nat.ble pc 1006 then ((fun pc => bif Nat.ble pc 1001 then (bif Nat.ble pc 1000 then (bif Nat.beq pc 1000 then some (.iadd, 1, 1001, [], 0) else none)
  else (bif Nat.beq pc 1001 then some (.iaload, 1, 1002, [], 0) else none))
  else ((fun pc => bif Nat.ble pc 1002 then (bif Nat.beq pc 1002 then some (.invokevirtual 99, 3, 1005, [], 0) else none)
  else (bif Nat.ble pc 1005 then (bif Nat.beq pc 1005 then some (.pop, 1, 1006, [], 0) else none)
  else (bif Nat.beq pc 1006 then some (.aload_n 2, 1, 1007, [], 0) else none))) : nk_F) pc) : nk_F) pc
  else ((fun pc => bif Nat.ble pc 1008 then (bif Nat.ble pc 1007 then (bif Nat.beq pc 1007 then some (.aload_n 0, 1, 1008, [], 0) else none)
  else (bif Nat.beq pc 1008 then some (.iload_n 3, 1, 1009, [], 0) else none))
  else ((fun pc => bif Nat.ble pc 1009 then (bif Nat.beq pc 1009 then some (.iconst 1, 1, 1010, [], 1) else none)
  else (bif Nat.ble pc 1010 then (bif Nat.beq pc 1010 then some (.iadd, 1, 1011, [], 0) else none)
  else (bif Nat.beq pc 1011 then some (.iaload, 1, 1012, [], 0) else none))) : nk_F) pc) : nk_F) pc) : nk_F) pc
  else ((fun pc => bif Nat.ble pc 1016 then ((fun pc => bif Nat.ble pc 1013 then (bif Nat.ble pc 1012 then (bif Nat.beq pc 1012 then some (.aload_n 0, 1, 1013, [], 0) else none)
  else (bif Nat.beq pc 1013 then some (.iload_n 3, 1, 1014, [], 0) else none))
  else ((fun pc => bif Nat.ble pc 1014 then (bif Nat.beq pc 1014 then some (.iconst 2, 1, 1015, [], 2) else none)
  else (bif Nat.ble pc 1015 then (bif Nat.beq pc 1015 then some (.iadd, 1, 1016, [], 0) else none)
  else (bif Nat.beq pc 1016 then some (.iaload, 1, 1017, [], 0) else none))) : nk_F) pc) : nk_F) pc
  else ((fun pc => bif Nat.ble pc 1019 then ((fun pc => bif Nat.ble pc 1017 then (bif Nat.beq pc 1017 then some (.aload_n 0, 1, 1018, [], 0) else none)
  else (bif Nat.ble pc 1018 then (bif Nat.beq pc 1018 then some (.iload_n 3, 1, 1019, [], 0) else none)
  else (bif Nat.beq pc 1019 then some (.iconst 3, 1, 1020, [], 3) else none))) : nk_F) pc
  else ((fun pc => bif Nat.ble pc 1020 then (bif Nat.beq pc 1020 then some (.iadd, 1, 1021, [], 0) else none)
  else (bif Nat.ble pc 1021 then (bif Nat.beq pc 1021 then some (.iaload, 1, 1022, [], 0) else none)
  else (bif Nat.beq pc 1022 then some (.aload_n 0, 1, 1023, [], 0) else none))) : nk_F) pc) : nk_F) pc) : nk_F) pc) : nk_F) pc
  else ((fun pc => bif Nat.ble pc 1032 then ((fun pc => bif Nat.ble pc 1027 then ((fun pc => bif Nat.ble pc 1024 then (bif Nat.ble pc 1023 then (bif Nat.beq pc 1023 then some (.iload_n 3, 1, 1024, [], 0) else none)
  else (bif Nat.beq pc 1024 then some (.iconst 4, 1, 1025, [], 4) else none))
  else ((fun pc => bif Nat.ble pc 1025 then (bif Nat.beq pc 1025 then some (.iadd, 1, 1026, [], 0) else none)
  else (bif Nat.ble pc 1026 then (bif Nat.beq pc 1026 then some (.iaload, 1, 1027, [], 0) else none)
  else (bif Nat.beq pc 1027 then some (.aload_n 0, 1, 1028, [], 0) else none))) : nk_F) pc) : nk_F) pc
  else ((fun pc => bif Nat.ble pc 1029 then (bif Nat.ble pc 1028 then (bif Nat.beq pc 1028 then some (.iload_n 3, 1, 1029, [], 0) else none)
  else (bif Nat.beq pc 1029 then some (.iconst 5, 1, 1030, [], 5) else none))
  else ((fun pc => bif Nat.ble pc 1030 then (bif Nat.beq pc 1030 then some (.iadd, 1, 1031, [], 0) else none)
  else (bif Nat.ble pc 1031 then (bif Nat.beq pc 1031 then some (.iaload, 1, 1032, [], 0) else none)
  else (bif Nat.beq pc 1032 then some (.invokevirtual 102, 3, 1035, [], 0) else none))) : nk_F) pc) : nk_F) pc) : nk_F) pc
  else ((fun pc => bif Nat.ble pc 1041 then ((fun pc => bif Nat.ble pc 1036 then (bif Nat.ble pc 1035 then (bif Nat.beq pc 1035 then some (.pop, 1, 1036, [], 0) else none)
  else (bif Nat.beq pc 1036 then some (.goto 766, 3, 1039, [1802], 0) else none))
  else ((fun pc => bif Nat.ble pc 1039 then (bif Nat.beq pc 1039 then some (.aload_n 1, 1, 1040, [], 0) else none)
  else (bif Nat.ble pc 1040 then (bif Nat.beq pc 1040 then some (.aload_n 0, 1, 1041, [], 0) else none)
  else (bif Nat.beq pc 1041 then some (.iload_n 3, 1, 1042, [], 0) else none))) : nk_F) pc) : nk_F) pc
  else ((fun pc => bif Nat.ble pc 1044 then ((fun pc => bif Nat.ble pc 1042 then (bif Nat.beq pc 1042 then some (.iconst 1, 1, 1043, [], 1) else none)
  else (bif Nat.ble pc 1043 then (bif Nat.beq pc 1043 then some (.iadd, 1, 1044, [], 0) else none)
  else (bif Nat.beq pc 1044 then some (.iaload, 1, 1045, [], 0) else none))) : nk_F) pc
  else ((fun pc => bif Nat.ble pc 1045 then (bif Nat.beq pc 1045 then some (.aload_n 0, 1, 1046, [], 0) else none)
  else (bif Nat.ble pc 1046 then (bif Nat.beq pc 1046 then some (.iload_n 3, 1, 1047, [], 0) else none)
  else (bif Nat.beq pc 1047 then some (.iconst 2, 1, 1048, [], 2) else none))) : nk_F) pc) : nk_F) pc) : nk_F) pc) : nk_F) pc) : nk_F) pc
  else ((fun pc => bif Nat.ble pc 1070 then ((fun pc => bif Nat.ble pc 1057 then ((fun pc => bif Nat.ble pc 1052 then ((fun pc => bif Nat.ble pc 1049 then (bif Nat.ble pc 1048 then (bif Nat.beq pc 1048 then some (.iadd, 1, 1049, [], 0) else none)
  else (bif Nat.beq pc 1049 then some (.iaload, 1, 1050, [], 0) else none))
  else ((fun pc => bif Nat.ble pc 1050 then (bif Nat.beq pc 1050 then some (.aload_n 0, 1, 1051, [], 0) else none)
  else (bif Nat.ble pc 1051 then (bif Nat.beq pc 1051 then some (.iload_n 3, 1, 1052, [], 0) else none)
  else (bif Nat.beq pc 1052 then some (.iconst 3, 1, 1053, [], 3) else none))) : nk_F) pc) : nk_F) pc
  else ((fun pc => bif Nat.ble pc 1054 then (bif Nat.ble pc 1053 then (bif Nat.beq pc 1053 then some (.iadd, 1, 1054, [], 0) else none)
  else (bif Nat.beq pc 1054 then some (.iaload, 1, 1055, [], 0) else none))
  else ((fun pc => bif Nat.ble pc 1055 then (bif Nat.beq pc 1055 then some (.aload_n 0, 1, 1056, [], 0) else none)
  else (bif Nat.ble pc 1056 then (bif Nat.beq pc 1056 then some (.iload_n 3, 1, 1057, [], 0) else none)
  else (bif Nat.beq pc 1057 then some (.iconst 4, 1, 1058, [], 4) else none))) : nk_F) pc) : nk_F) pc) : nk_F) pc
  else ((fun pc => bif Nat.ble pc 1064 then ((fun pc => bif Nat.ble pc 1059 then (bif Nat.ble pc 1058 then (bif Nat.beq pc 1058 then some (.iadd, 1, 1059, [], 0) else none)
  else (bif Nat.beq pc 1059 then some (.iaload, 1, 1060, [], 0) else none))
  else ((fun pc => bif Nat.ble pc 1060 then (bif Nat.beq pc 1060 then some (.invokevirtual 103, 3, 1063, [], 0) else none)
  else (bif Nat.ble pc 1063 then (bif Nat.beq pc 1063 then some (.pop, 1, 1064, [], 0) else none)
  else (bif Nat.beq pc 1064 then some (.aload_n 2, 1, 1065, [], 0) else none))) : nk_F) pc) : nk_F) pc
  else ((fun pc => bif Nat.ble pc 1067 then ((fun pc => bif Nat.ble pc 1065 then (bif Nat.beq pc 1065 then some (.aload_n 0, 1, 1066, [], 0) else none)
  else (bif Nat.ble pc 1066 then (bif Nat.beq pc 1066 then some (.iload_n 3, 1, 1067, [], 0) else none)
  else (bif Nat.beq pc 1067 then some (.iconst 1, 1, 1068, [], 1) else none))) : nk_F) pc
  else ((fun pc => bif Nat.ble pc 1068 then (bif Nat.beq pc 1068 then some (.iadd, 1, 1069, [], 0) else none)
  else (bif Nat.ble pc 1069 then (bif Nat.beq pc 1069 then some (.iaload, 1, 1070, [], 0) else none)
  else (bif Nat.beq pc 1070 then some (.aload_n 0, 1, 1071, [], 0) else none))) : nk_F) pc) : nk_F) pc) : nk_F) pc) : nk_F) pc
  else ((fun pc => bif Nat.ble pc 1080 then ((fun pc => bif Nat.ble pc 1075 then ((fun pc => bif Nat.ble pc 1072 then (bif Nat.ble pc 1071 then (bif Nat.beq pc 1071 then some (.iload_n 3, 1, 1072, [], 0) else none)
  else (bif Nat.beq pc 1072 then some (.iconst 2, 1, 1073, [], 2) else none))
  else ((fun pc => bif Nat.ble pc 1073 then (bif Nat.beq pc 1073 then some (.iadd, 1, 1074, [], 0) else none)
  else (bif Nat.ble pc 1074 then (bif Nat.beq pc 1074 then some (.iaload, 1, 1075, [], 0) else none)
  else (bif Nat.beq pc 1075 then some (.aload_n 0, 1, 1076, [], 0) else none))) : nk_F) pc) : nk_F) pc
  else ((fun pc => bif Nat.ble pc 1077 then (bif Nat.ble pc 1076 then (bif Nat.beq pc 1076 then some (.iload_n 3, 1, 1077, [], 0) else none)
  else (bif Nat.beq pc 1077 then some (.iconst 3, 1, 1078, [], 3) else none))
  else ((fun pc => bif Nat.ble pc 1078 then (bif Nat.beq pc 1078 then some (.iadd, 1, 1079, [], 0) else none)
  else (bif Nat.ble pc 1079 then (bif Nat.beq pc 1079 then some (.iaload, 1, 1080, [], 0) else none)
  else (bif Nat.beq pc 1080 then some (.aload_n 0, 1, 1081, [], 0) else none))) : nk_F) pc) : nk_F) pc) : nk_F) pc
  else ((fun pc => bif Nat.ble pc 1085 then ((fun pc => bif Nat.ble pc 1082 then (bif Nat.ble pc 1081 then (bif Nat.beq pc 1081 then some (.iload_n 3, 1, 1082, [], 0) else none)
  else (bif Nat.beq pc 1082 then some (.iconst 4, 1, 1083, [], 4) else none))
  else ((fun pc => bif Nat.ble pc 1083 then (bif Nat.beq pc 1083 then some (.iadd, 1, 1084, [], 0) else none)
  else (bif Nat.ble pc 1084 then (bif Nat.beq pc 1084 then some (.iaload, 1, 1085, [], 0) else none)
  else (bif Nat.beq pc 1085 then some (.invokevirtual 106, 3, 1088, [], 0) else none))) : nk_F) pc) : nk_F) pc
  else ((fun pc => bif Nat.ble pc 1092 then ((fun pc => bif Nat.ble pc 1088 then (bif Nat.beq pc 1088 then some (.pop, 1, 1089, [], 0) else none)
  else (bif Nat.ble pc 1089 then (bif Nat.beq pc 1089 then some (.goto 713, 3, 1092, [1802], 0) else none)
  else (bif Nat.beq pc 1092 then some (.aload_n 1, 1, 1093, [], 0) else none))) : nk_F) pc
  else ((fun pc => bif Nat.ble pc 1093 then (bif Nat.beq pc 1093 then some (.aload_n 0, 1, 1094, [], 0) else none)
  else (bif Nat.ble pc 1094 then (bif Nat.beq pc 1094 then some (.iload_n 3, 1, 1095, [], 0) else none)
  else (bif Nat.beq pc 1095 then some (.iconst 1, 1, 1096, [], 1) else none))) : nk_F) pc) : nk_F) pc) : nk_F) pc) : nk_F) pc) : nk_F) pc) : nk_F) pc
  else ((fun pc => bif Nat.ble pc 1141 then ((fun pc => bif Nat.ble pc 1118 then ((fun pc => bif Nat.ble pc 1105 then ((fun pc => bif Nat.ble pc 1100 then ((fun pc => bif Nat.ble pc 1097 then (bif Nat.ble pc 1096 then (bif Nat.beq pc 1096 then some (.iadd, 1, 1097, [], 0) else none)
  else (bif Nat.beq pc 1097 then some (.iaload, 1, 1098, [], 0) else none))
  else ((fun pc => bif Nat.ble pc 1098 then (bif Nat.beq pc 1098 then some (.aload_n 0, 1, 1099, [], 0) else none)
  else (bif Nat.ble pc 1099 then (bif Nat.beq pc 1099 then some (.iload_n 3, 1, 1100, [], 0) else none)
  else (bif Nat.beq pc 1100 then some (.iconst 2, 1, 1101, [], 2) else none))) : nk_F) pc) : nk_F) pc
  else ((fun pc => bif Nat.ble pc 1102 then (bif Nat.ble pc 1101 then (bif Nat.beq pc 1101 then some (.iadd, 1, 1102, [], 0) else none)
  else (bif Nat.beq pc 1102 then some (.iaload, 1, 1103, [], 0) else none))
  else ((fun pc => bif Nat.ble pc 1103 then (bif Nat.beq pc 1103 then some (.aload_n 0, 1, 1104, [], 0) else none)
  else (bif Nat.ble pc 1104 then (bif Nat.beq pc 1104 then some (.iload_n 3, 1, 1105, [], 0) else none)
  else (bif Nat.beq pc 1105 then some (.iconst 3, 1, 1106, [], 3) else none))) : nk_F) pc) : nk_F) pc) : nk_F) pc
  else ((fun pc => bif Nat.ble pc 1110 then ((fun pc => bif Nat.ble pc 1107 then (bif Nat.ble pc 1106 then (bif Nat.beq pc 1106 then some (.iadd, 1, 1107, [], 0) else none)
  else (bif Nat.beq pc 1107 then some (.iaload, 1, 1108, [], 0) else none))
  else ((fun pc => bif Nat.ble pc 1108 then (bif Nat.beq pc 1108 then some (.aload_n 0, 1, 1109, [], 0) else none)
  else (bif Nat.ble pc 1109 then (bif Nat.beq pc 1109 then some (.iload_n 3, 1, 1110, [], 0) else none)
  else (bif Nat.beq pc 1110 then some (.iconst 4, 1, 1111, [], 4) else none))) : nk_F) pc) : nk_F) pc
  else ((fun pc => bif Nat.ble pc 1113 then ((fun pc => bif Nat.ble pc 1111 then (bif Nat.beq pc 1111 then some (.iadd, 1, 1112, [], 0) else none)
  else (bif Nat.ble pc 1112 then (bif Nat.beq pc 1112 then some (.iaload, 1, 1113, [], 0) else none)
  else (bif Nat.beq pc 1113 then some (.invokevirtual 107, 3, 1116, [], 0) else none))) : nk_F) pc
  else ((fun pc => bif Nat.ble pc 1116 then (bif Nat.beq pc 1116 then some (.pop, 1, 1117, [], 0) else none)
  else (bif Nat.ble pc 1117 then (bif Nat.beq pc 1117 then some (.aload_n 2, 1, 1118, [], 0) else none)
  else (bif Nat.beq pc 1118 then some (.aload_n 0, 1, 1119, [], 0) else none))) : nk_F) pc) : nk_F) pc) : nk_F) pc) : nk_F) pc
  else ((fun pc => bif Nat.ble pc 1128 then ((fun pc => bif Nat.ble pc 1123 then ((fun pc => bif Nat.ble pc 1120 then (bif Nat.ble pc 1119 then (bif Nat.beq pc 1119 then some (.iload_n 3, 1, 1120, [], 0) else none)
  else (bif Nat.beq pc 1120 then some (.iconst 1, 1, 1121, [], 1) else none))
  else ((fun pc => bif Nat.ble pc 1121 then (bif Nat.beq pc 1121 then some (.iadd, 1, 1122, [], 0) else none)
  else (bif Nat.ble pc 1122 then (bif Nat.beq pc 1122 then some (.iaload, 1, 1123, [], 0) else none)
  else (bif Nat.beq pc 1123 then some (.aload_n 0, 1, 1124, [], 0) else none))) : nk_F) pc) : nk_F) pc
  else ((fun pc => bif Nat.ble pc 1125 then (bif Nat.ble pc 1124 then (bif Nat.beq pc 1124 then some (.iload_n 3, 1, 1125, [], 0) else none)
  else (bif Nat.beq pc 1125 then some (.iconst 2, 1, 1126, [], 2) else none))
  else ((fun pc => bif Nat.ble pc 1126 then (bif Nat.beq pc 1126 then some (.iadd, 1, 1127, [], 0) else none)
  else (bif Nat.ble pc 1127 then (bif Nat.beq pc 1127 then some (.iaload, 1, 1128, [], 0) else none)
  else (bif Nat.beq pc 1128 then some (.aload_n 0, 1, 1129, [], 0) else none))) : nk_F) pc) : nk_F) pc) : nk_F) pc
  else ((fun pc => bif Nat.ble pc 1133 then ((fun pc => bif Nat.ble pc 1130 then (bif Nat.ble pc 1129 then (bif Nat.beq pc 1129 then some (.iload_n 3, 1, 1130, [], 0) else none)
  else (bif Nat.beq pc 1130 then some (.iconst 3, 1, 1131, [], 3) else none))
  else ((fun pc => bif Nat.ble pc 1131 then (bif Nat.beq pc 1131 then some (.iadd, 1, 1132, [], 0) else none)
  else (bif Nat.ble pc 1132 then (bif Nat.beq pc 1132 then some (.iaload, 1, 1133, [], 0) else none)
  else (bif Nat.beq pc 1133 then some (.aload_n 0, 1, 1134, [], 0) else none))) : nk_F) pc) : nk_F) pc
  else ((fun pc => bif Nat.ble pc 1136 then ((fun pc => bif Nat.ble pc 1134 then (bif Nat.beq pc 1134 then some (.iload_n 3, 1, 1135, [], 0) else none)
  else (bif Nat.ble pc 1135 then (bif Nat.beq pc 1135 then some (.iconst 4, 1, 1136, [], 4) else none)
  else (bif Nat.beq pc 1136 then some (.iadd, 1, 1137, [], 0) else none))) : nk_F) pc
  else ((fun pc => bif Nat.ble pc 1137 then (bif Nat.beq pc 1137 then some (.iaload, 1, 1138, [], 0) else none)
  else (bif Nat.ble pc 1138 then (bif Nat.beq pc 1138 then some (.invokevirtual 110, 3, 1141, [], 0) else none)
  else (bif Nat.beq pc 1141 then some (.pop, 1, 1142, [], 0) else none))) : nk_F) pc) : nk_F) pc) : nk_F) pc) : nk_F) pc) : nk_F) pc
  else ((fun pc => bif Nat.ble pc 1164 then ((fun pc => bif Nat.ble pc 1153 then ((fun pc => bif Nat.ble pc 1148 then ((fun pc => bif Nat.ble pc 1145 then (bif Nat.ble pc 1142 then (bif Nat.beq pc 1142 then some (.goto 660, 3, 1145, [1802], 0) else none)
  else (bif Nat.beq pc 1145 then some (.aload_n 1, 1, 1146, [], 0) else none))
  else ((fun pc => bif Nat.ble pc 1146 then (bif Nat.beq pc 1146 then some (.aload_n 0, 1, 1147, [], 0) else none)
  else (bif Nat.ble pc 1147 then (bif Nat.beq pc 1147 then some (.iload_n 3, 1, 1148, [], 0) else none)
  else (bif Nat.beq pc 1148 then some (.iconst 1, 1, 1149, [], 1) else none))) : nk_F) pc) : nk_F) pc
  else ((fun pc => bif Nat.ble pc 1150 then (bif Nat.ble pc 1149 then (bif Nat.beq pc 1149 then some (.iadd, 1, 1150, [], 0) else none)
  else (bif Nat.beq pc 1150 then some (.iaload, 1, 1151, [], 0) else none))
  else ((fun pc => bif Nat.ble pc 1151 then (bif Nat.beq pc 1151 then some (.aload_n 0, 1, 1152, [], 0) else none)
  else (bif Nat.ble pc 1152 then (bif Nat.beq pc 1152 then some (.iload_n 3, 1, 1153, [], 0) else none)
  else (bif Nat.beq pc 1153 then some (.iconst 2, 1, 1154, [], 2) else none))) : nk_F) pc) : nk_F) pc) : nk_F) pc
  else ((fun pc => bif Nat.ble pc 1158 then ((fun pc => bif Nat.ble pc 1155 then (bif Nat.ble pc 1154 then (bif Nat.beq pc 1154 then some (.iadd, 1, 1155, [], 0) else none)
  else (bif Nat.beq pc 1155 then some (.iaload, 1, 1156, [], 0) else none))
  else ((fun pc => bif Nat.ble pc 1156 then (bif Nat.beq pc 1156 then some (.aload_n 0, 1, 1157, [], 0) else none)
  else (bif Nat.ble pc 1157 then (bif Nat.beq pc 1157 then some (.iload_n 3, 1, 1158, [], 0) else none)
  else (bif Nat.beq pc 1158 then some (.iconst 3, 1, 1159, [], 3) else none))) : nk_F) pc) : nk_F) pc
  else ((fun pc => bif Nat.ble pc 1161 then ((fun pc => bif Nat.ble pc 1159 then (bif Nat.beq pc 1159 then some (.iadd, 1, 1160, [], 0) else none)
  else (bif Nat.ble pc 1160 then (bif Nat.beq pc 1160 then some (.iaload, 1, 1161, [], 0) else none)
  else (bif Nat.beq pc 1161 then some (.aload_n 0, 1, 1162, [], 0) else none))) : nk_F) pc
  else ((fun pc => bif Nat.ble pc 1162 then (bif Nat.beq pc 1162 then some (.iload_n 3, 1, 1163, [], 0) else none)
  else (bif Nat.ble pc 1163 then (bif Nat.beq pc 1163 then some (.iconst 4, 1, 1164, [], 4) else none)
  else (bif Nat.beq pc 1164 then some (.iadd, 1, 1165, [], 0) else none))) : nk_F) pc) : nk_F) pc) : nk_F) pc) : nk_F) pc
  else ((fun pc => bif Nat.ble pc 1176 then ((fun pc => bif Nat.ble pc 1171 then ((fun pc => bif Nat.ble pc 1166 then (bif Nat.ble pc 1165 then (bif Nat.beq pc 1165 then some (.iaload, 1, 1166, [], 0) else none)
  else (bif Nat.beq pc 1166 then some (.invokevirtual 111, 3, 1169, [], 0) else none))
  else ((fun pc => bif Nat.ble pc 1169 then (bif Nat.beq pc 1169 then some (.pop, 1, 1170, [], 0) else none)
  else (bif Nat.ble pc 1170 then (bif Nat.beq pc 1170 then some (.aload_n 2, 1, 1171, [], 0) else none)
  else (bif Nat.beq pc 1171 then some (.aload_n 0, 1, 1172, [], 0) else none))) : nk_F) pc) : nk_F) pc
  else ((fun pc => bif Nat.ble pc 1173 then (bif Nat.ble pc 1172 then (bif Nat.beq pc 1172 then some (.iload_n 3, 1, 1173, [], 0) else none)
  else (bif Nat.beq pc 1173 then some (.iconst 1, 1, 1174, [], 1) else none))
  else ((fun pc => bif Nat.ble pc 1174 then (bif Nat.beq pc 1174 then some (.iadd, 1, 1175, [], 0) else none)
  else (bif Nat.ble pc 1175 then (bif Nat.beq pc 1175 then some (.iaload, 1, 1176, [], 0) else none)
  else (bif Nat.beq pc 1176 then some (.aload_n 0, 1, 1177, [], 0) else none))) : nk_F) pc) : nk_F) pc) : nk_F) pc
  else ((fun pc => bif Nat.ble pc 1181 then ((fun pc => bif Nat.ble pc 1178 then (bif Nat.ble pc 1177 then (bif Nat.beq pc 1177 then some (.iload_n 3, 1, 1178, [], 0) else none)
  else (bif Nat.beq pc 1178 then some (.iconst 2, 1, 1179, [], 2) else none))
  else ((fun pc => bif Nat.ble pc 1179 then (bif Nat.beq pc 1179 then some (.iadd, 1, 1180, [], 0) else none)
  else (bif Nat.ble pc 1180 then (bif Nat.beq pc 1180 then some (.iaload, 1, 1181, [], 0) else none)
  else (bif Nat.beq pc 1181 then some (.aload_n 0, 1, 1182, [], 0) else none))) : nk_F) pc) : nk_F) pc
  else ((fun pc => bif Nat.ble pc 1184 then ((fun pc => bif Nat.ble pc 1182 then (bif Nat.beq pc 1182 then some (.iload_n 3, 1, 1183, [], 0) else none)
  else (bif Nat.ble pc 1183 then (bif Nat.beq pc 1183 then some (.iconst 3, 1, 1184, [], 3) else none)
  else (bif Nat.beq pc 1184 then some (.iadd, 1, 1185, [], 0) else none))) : nk_F) pc
  else ((fun pc => bif Nat.ble pc 1185 then (bif Nat.beq pc 1185 then some (.iaload, 1, 1186, [], 0) else none)
  else (bif Nat.ble pc 1186 then (bif Nat.beq pc 1186 then some (.aload_n 0, 1, 1187, [], 0) else none)
  else (bif Nat.beq pc 1187 then some (.iload_n 3, 1, 1188, [], 0) else none))) : nk_F) pc) : nk_F) pc) : nk_F) pc) : nk_F) pc) : nk_F) pc) : nk_F) pc) : nk_F) pc
  else ((fun pc => bif Nat.ble pc 1287 then ((fun pc => bif Nat.ble pc 1237 then ((fun pc => bif Nat.ble pc 1212 then ((fun pc => bif Nat.ble pc 1201 then ((fun pc => bif Nat.ble pc 1194 then ((fun pc => bif Nat.ble pc 1189 then (bif Nat.ble pc 1188 then (bif Nat.beq pc 1188 then some (.iconst 4, 1, 1189, [], 4) else none)
  else (bif Nat.beq pc 1189 then some (.iadd, 1, 1190, [], 0) else none))
  else ((fun pc => bif Nat.ble pc 1190 then (bif Nat.beq pc 1190 then some (.iaload, 1, 1191, [], 0) else none)
  else (bif Nat.ble pc 1191 then (bif Nat.beq pc 1191 then some (.invokevirtual 114, 3, 1194, [], 0) else none)
  else (bif Nat.beq pc 1194 then some (.pop, 1, 1195, [], 0) else none))) : nk_F) pc) : nk_F) pc
  else ((fun pc => bif Nat.ble pc 1198 then (bif Nat.ble pc 1195 then (bif Nat.beq pc 1195 then some (.goto 607, 3, 1198, [1802], 0) else none)
  else (bif Nat.beq pc 1198 then some (.aload_n 1, 1, 1199, [], 0) else none))
  else ((fun pc => bif Nat.ble pc 1199 then (bif Nat.beq pc 1199 then some (.aload_n 0, 1, 1200, [], 0) else none)
  else (bif Nat.ble pc 1200 then (bif Nat.beq pc 1200 then some (.iload_n 3, 1, 1201, [], 0) else none)
  else (bif Nat.beq pc 1201 then some (.iconst 1, 1, 1202, [], 1) else none))) : nk_F) pc) : nk_F) pc) : nk_F) pc
  else ((fun pc => bif Nat.ble pc 1206 then ((fun pc => bif Nat.ble pc 1203 then (bif Nat.ble pc 1202 then (bif Nat.beq pc 1202 then some (.iadd, 1, 1203, [], 0) else none)
  else (bif Nat.beq pc 1203 then some (.iaload, 1, 1204, [], 0) else none))
  else ((fun pc => bif Nat.ble pc 1204 then (bif Nat.beq pc 1204 then some (.aload_n 0, 1, 1205, [], 0) else none)
  else (bif Nat.ble pc 1205 then (bif Nat.beq pc 1205 then some (.iload_n 3, 1, 1206, [], 0) else none)
  else (bif Nat.beq pc 1206 then some (.iconst 2, 1, 1207, [], 2) else none))) : nk_F) pc) : nk_F) pc
  else ((fun pc => bif Nat.ble pc 1209 then ((fun pc => bif Nat.ble pc 1207 then (bif Nat.beq pc 1207 then some (.iadd, 1, 1208, [], 0) else none)
  else (bif Nat.ble pc 1208 then (bif Nat.beq pc 1208 then some (.iaload, 1, 1209, [], 0) else none)
  else (bif Nat.beq pc 1209 then some (.aload_n 0, 1, 1210, [], 0) else none))) : nk_F) pc
  else ((fun pc => bif Nat.ble pc 1210 then (bif Nat.beq pc 1210 then some (.iload_n 3, 1, 1211, [], 0) else none)
  else (bif Nat.ble pc 1211 then (bif Nat.beq pc 1211 then some (.iconst 3, 1, 1212, [], 3) else none)
  else (bif Nat.beq pc 1212 then some (.iadd, 1, 1213, [], 0) else none))) : nk_F) pc) : nk_F) pc) : nk_F) pc) : nk_F) pc
  else ((fun pc => bif Nat.ble pc 1224 then ((fun pc => bif Nat.ble pc 1219 then ((fun pc => bif Nat.ble pc 1214 then (bif Nat.ble pc 1213 then (bif Nat.beq pc 1213 then some (.iaload, 1, 1214, [], 0) else none)
  else (bif Nat.beq pc 1214 then some (.invokevirtual 115, 3, 1217, [], 0) else none))
  else ((fun pc => bif Nat.ble pc 1217 then (bif Nat.beq pc 1217 then some (.pop, 1, 1218, [], 0) else none)
  else (bif Nat.ble pc 1218 then (bif Nat.beq pc 1218 then some (.aload_n 2, 1, 1219, [], 0) else none)
  else (bif Nat.beq pc 1219 then some (.aload_n 0, 1, 1220, [], 0) else none))) : nk_F) pc) : nk_F) pc
  else ((fun pc => bif Nat.ble pc 1221 then (bif Nat.ble pc 1220 then (bif Nat.beq pc 1220 then some (.iload_n 3, 1, 1221, [], 0) else none)
  else (bif Nat.beq pc 1221 then some (.iconst 1, 1, 1222, [], 1) else none))
  else ((fun pc => bif Nat.ble pc 1222 then (bif Nat.beq pc 1222 then some (.iadd, 1, 1223, [], 0) else none)
  else (bif Nat.ble pc 1223 then (bif Nat.beq pc 1223 then some (.iaload, 1, 1224, [], 0) else none)
  else (bif Nat.beq pc 1224 then some (.aload_n 0, 1, 1225, [], 0) else none))) : nk_F) pc) : nk_F) pc) : nk_F) pc
  else ((fun pc => bif Nat.ble pc 1229 then ((fun pc => bif Nat.ble pc 1226 then (bif Nat.ble pc 1225 then (bif Nat.beq pc 1225 then some (.iload_n 3, 1, 1226, [], 0) else none)
  else (bif Nat.beq pc 1226 then some (.iconst 2, 1, 1227, [], 2) else none))
  else ((fun pc => bif Nat.ble pc 1227 then (bif Nat.beq pc 1227 then some (.iadd, 1, 1228, [], 0) else none)
  else (bif Nat.ble pc 1228 then (bif Nat.beq pc 1228 then some (.iaload, 1, 1229, [], 0) else none)
  else (bif Nat.beq pc 1229 then some (.aload_n 0, 1, 1230, [], 0) else none))) : nk_F) pc) : nk_F) pc
  else ((fun pc => bif Nat.ble pc 1232 then ((fun pc => bif Nat.ble pc 1230 then (bif Nat.beq pc 1230 then some (.iload_n 3, 1, 1231, [], 0) else none)
  else (bif Nat.ble pc 1231 then (bif Nat.beq pc 1231 then some (.iconst 3, 1, 1232, [], 3) else none)
  else (bif Nat.beq pc 1232 then some (.iadd, 1, 1233, [], 0) else none))) : nk_F) pc
  else ((fun pc => bif Nat.ble pc 1233 then (bif Nat.beq pc 1233 then some (.iaload, 1, 1234, [], 0) else none)
  else (bif Nat.ble pc 1234 then (bif Nat.beq pc 1234 then some (.invokevirtual 118, 3, 1237, [], 0) else none)
  else (bif Nat.beq pc 1237 then some (.pop, 1, 1238, [], 0) else none))) : nk_F) pc) : nk_F) pc) : nk_F) pc) : nk_F) pc) : nk_F) pc
  else ((fun pc => bif Nat.ble pc 1262 then ((fun pc => bif Nat.ble pc 1249 then ((fun pc => bif Nat.ble pc 1244 then ((fun pc => bif Nat.ble pc 1241 then (bif Nat.ble pc 1238 then (bif Nat.beq pc 1238 then some (.goto 564, 3, 1241, [1802], 0) else none)
  else (bif Nat.beq pc 1241 then some (.aload_n 1, 1, 1242, [], 0) else none))
  else ((fun pc => bif Nat.ble pc 1242 then (bif Nat.beq pc 1242 then some (.aload_n 0, 1, 1243, [], 0) else none)
  else (bif Nat.ble pc 1243 then (bif Nat.beq pc 1243 then some (.iload_n 3, 1, 1244, [], 0) else none)
  else (bif Nat.beq pc 1244 then some (.iconst 1, 1, 1245, [], 1) else none))) : nk_F) pc) : nk_F) pc
  else ((fun pc => bif Nat.ble pc 1246 then (bif Nat.ble pc 1245 then (bif Nat.beq pc 1245 then some (.iadd, 1, 1246, [], 0) else none)
  else (bif Nat.beq pc 1246 then some (.iaload, 1, 1247, [], 0) else none))
  else ((fun pc => bif Nat.ble pc 1247 then (bif Nat.beq pc 1247 then some (.aload_n 0, 1, 1248, [], 0) else none)
  else (bif Nat.ble pc 1248 then (bif Nat.beq pc 1248 then some (.iload_n 3, 1, 1249, [], 0) else none)
  else (bif Nat.beq pc 1249 then some (.iconst 2, 1, 1250, [], 2) else none))) : nk_F) pc) : nk_F) pc) : nk_F) pc
  else ((fun pc => bif Nat.ble pc 1256 then ((fun pc => bif Nat.ble pc 1251 then (bif Nat.ble pc 1250 then (bif Nat.beq pc 1250 then some (.iadd, 1, 1251, [], 0) else none)
  else (bif Nat.beq pc 1251 then some (.iaload, 1, 1252, [], 0) else none))
  else ((fun pc => bif Nat.ble pc 1252 then (bif Nat.beq pc 1252 then some (.invokevirtual 119, 3, 1255, [], 0) else none)
  else (bif Nat.ble pc 1255 then (bif Nat.beq pc 1255 then some (.pop, 1, 1256, [], 0) else none)
  else (bif Nat.beq pc 1256 then some (.aload_n 2, 1, 1257, [], 0) else none))) : nk_F) pc) : nk_F) pc
  else ((fun pc => bif Nat.ble pc 1259 then ((fun pc => bif Nat.ble pc 1257 then (bif Nat.beq pc 1257 then some (.aload_n 0, 1, 1258, [], 0) else none)
  else (bif Nat.ble pc 1258 then (bif Nat.beq pc 1258 then some (.iload_n 3, 1, 1259, [], 0) else none)
  else (bif Nat.beq pc 1259 then some (.iconst 1, 1, 1260, [], 1) else none))) : nk_F) pc
  else ((fun pc => bif Nat.ble pc 1260 then (bif Nat.beq pc 1260 then some (.iadd, 1, 1261, [], 0) else none)
  else (bif Nat.ble pc 1261 then (bif Nat.beq pc 1261 then some (.iaload, 1, 1262, [], 0) else none)
  else (bif Nat.beq pc 1262 then some (.aload_n 0, 1, 1263, [], 0) else none))) : nk_F) pc) : nk_F) pc) : nk_F) pc) : nk_F) pc
  else ((fun pc => bif Nat.ble pc 1276 then ((fun pc => bif Nat.ble pc 1267 then ((fun pc => bif Nat.ble pc 1264 then (bif Nat.ble pc 1263 then (bif Nat.beq pc 1263 then some (.iload_n 3, 1, 1264, [], 0) else none)
  else (bif Nat.beq pc 1264 then some (.iconst 2, 1, 1265, [], 2) else none))
  else ((fun pc => bif Nat.ble pc 1265 then (bif Nat.beq pc 1265 then some (.iadd, 1, 1266, [], 0) else none)
  else (bif Nat.ble pc 1266 then (bif Nat.beq pc 1266 then some (.iaload, 1, 1267, [], 0) else none)
  else (bif Nat.beq pc 1267 then some (.invokevirtual 122, 3, 1270, [], 0) else none))) : nk_F) pc) : nk_F) pc
  else ((fun pc => bif Nat.ble pc 1271 then (bif Nat.ble pc 1270 then (bif Nat.beq pc 1270 then some (.pop, 1, 1271, [], 0) else none)
  else (bif Nat.beq pc 1271 then some (.goto 531, 3, 1274, [1802], 0) else none))
  else ((fun pc => bif Nat.ble pc 1274 then (bif Nat.beq pc 1274 then some (.aload_n 1, 1, 1275, [], 0) else none)
  else (bif Nat.ble pc 1275 then (bif Nat.beq pc 1275 then some (.aload_n 0, 1, 1276, [], 0) else none)
  else (bif Nat.beq pc 1276 then some (.iload_n 3, 1, 1277, [], 0) else none))) : nk_F) pc) : nk_F) pc) : nk_F) pc
  else ((fun pc => bif Nat.ble pc 1281 then ((fun pc => bif Nat.ble pc 1278 then (bif Nat.ble pc 1277 then (bif Nat.beq pc 1277 then some (.iconst 1, 1, 1278, [], 1) else none)
  else (bif Nat.beq pc 1278 then some (.iadd, 1, 1279, [], 0) else none))
  else ((fun pc => bif Nat.ble pc 1279 then (bif Nat.beq pc 1279 then some (.iaload, 1, 1280, [], 0) else none)
  else (bif Nat.ble pc 1280 then (bif Nat.beq pc 1280 then some (.aload_n 0, 1, 1281, [], 0) else none)
  else (bif Nat.beq pc 1281 then some (.iload_n 3, 1, 1282, [], 0) else none))) : nk_F) pc) : nk_F) pc
  else ((fun pc => bif Nat.ble pc 1284 then ((fun pc => bif Nat.ble pc 1282 then (bif Nat.beq pc 1282 then some (.iconst 2, 1, 1283, [], 2) else none)
  else (bif Nat.ble pc 1283 then (bif Nat.beq pc 1283 then some (.iadd, 1, 1284, [], 0) else none)
  else (bif Nat.beq pc 1284 then some (.iaload, 1, 1285, [], 0) else none))) : nk_F) pc
  else ((fun pc => bif Nat.ble pc 1285 then (bif Nat.beq pc 1285 then some (.aload_n 0, 1, 1286, [], 0) else none)
  else (bif Nat.ble pc 1286 then (bif Nat.beq pc 1286 then some (.iload_n 3, 1, 1287, [], 0) else none)
  else (bif Nat.beq pc 1287 then some (.iconst 3, 1, 1288, [], 3) else none))) : nk_F) pc) : nk_F) pc) : nk_F) pc) : nk_F) pc) : nk_F) pc) : nk_F) pc
  else ((fun pc => bif Nat.ble pc 1335 then ((fun pc => bif Nat.ble pc 1310 then ((fun pc => bif Nat.ble pc 1299 then ((fun pc => bif Nat.ble pc 1292 then ((fun pc => bif Nat.ble pc 1289 then (bif Nat.ble pc 1288 then (bif Nat.beq pc 1288 then some (.iadd, 1, 1289, [], 0) else none)
  else (bif Nat.beq pc 1289 then some (.iaload, 1, 1290, [], 0) else none))
  else ((fun pc => bif Nat.ble pc 1290 then (bif Nat.beq pc 1290 then some (.aload_n 0, 1, 1291, [], 0) else none)
  else (bif Nat.ble pc 1291 then (bif Nat.beq pc 1291 then some (.iload_n 3, 1, 1292, [], 0) else none)
  else (bif Nat.beq pc 1292 then some (.iconst 4, 1, 1293, [], 4) else none))) : nk_F) pc) : nk_F) pc
  else ((fun pc => bif Nat.ble pc 1294 then (bif Nat.ble pc 1293 then (bif Nat.beq pc 1293 then some (.iadd, 1, 1294, [], 0) else none)
  else (bif Nat.beq pc 1294 then some (.iaload, 1, 1295, [], 0) else none))
  else ((fun pc => bif Nat.ble pc 1295 then (bif Nat.beq pc 1295 then some (.invokevirtual 123, 3, 1298, [], 0) else none)
  else (bif Nat.ble pc 1298 then (bif Nat.beq pc 1298 then some (.pop, 1, 1299, [], 0) else none)
  else (bif Nat.beq pc 1299 then some (.aload_n 2, 1, 1300, [], 0) else none))) : nk_F) pc) : nk_F) pc) : nk_F) pc
  else ((fun pc => bif Nat.ble pc 1304 then ((fun pc => bif Nat.ble pc 1301 then (bif Nat.ble pc 1300 then (bif Nat.beq pc 1300 then some (.aload_n 0, 1, 1301, [], 0) else none)
  else (bif Nat.beq pc 1301 then some (.iload_n 3, 1, 1302, [], 0) else none))
  else ((fun pc => bif Nat.ble pc 1302 then (bif Nat.beq pc 1302 then some (.iconst 1, 1, 1303, [], 1) else none)
  else (bif Nat.ble pc 1303 then (bif Nat.beq pc 1303 then some (.iadd, 1, 1304, [], 0) else none)
  else (bif Nat.beq pc 1304 then some (.iaload, 1, 1305, [], 0) else none))) : nk_F) pc) : nk_F) pc
  else ((fun pc => bif Nat.ble pc 1307 then ((fun pc => bif Nat.ble pc 1305 then (bif Nat.beq pc 1305 then some (.aload_n 0, 1, 1306, [], 0) else none)
  else (bif Nat.ble pc 1306 then (bif Nat.beq pc 1306 then some (.iload_n 3, 1, 1307, [], 0) else none)
  else (bif Nat.beq pc 1307 then some (.iconst 2, 1, 1308, [], 2) else none))) : nk_F) pc
  else ((fun pc => bif Nat.ble pc 1308 then (bif Nat.beq pc 1308 then some (.iadd, 1, 1309, [], 0) else none)
  else (bif Nat.ble pc 1309 then (bif Nat.beq pc 1309 then some (.iaload, 1, 1310, [], 0) else none)
  else (bif Nat.beq pc 1310 then some (.aload_n 0, 1, 1311, [], 0) else none))) : nk_F) pc) : nk_F) pc) : nk_F) pc) : nk_F) pc
  else ((fun pc => bif Nat.ble pc 1320 then ((fun pc => bif Nat.ble pc 1315 then ((fun pc => bif Nat.ble pc 1312 then (bif Nat.ble pc 1311 then (bif Nat.beq pc 1311 then some (.iload_n 3, 1, 1312, [], 0) else none)
  else (bif Nat.beq pc 1312 then some (.iconst 3, 1, 1313, [], 3) else none))
  else ((fun pc => bif Nat.ble pc 1313 then (bif Nat.beq pc 1313 then some (.iadd, 1, 1314, [], 0) else none)
  else (bif Nat.ble pc 1314 then (bif Nat.beq pc 1314 then some (.iaload, 1, 1315, [], 0) else none)
  else (bif Nat.beq pc 1315 then some (.aload_n 0, 1, 1316, [], 0) else none))) : nk_F) pc) : nk_F) pc
  else ((fun pc => bif Nat.ble pc 1317 then (bif Nat.ble pc 1316 then (bif Nat.beq pc 1316 then some (.iload_n 3, 1, 1317, [], 0) else none)
  else (bif Nat.beq pc 1317 then some (.iconst 4, 1, 1318, [], 4) else none))
  else ((fun pc => bif Nat.ble pc 1318 then (bif Nat.beq pc 1318 then some (.iadd, 1, 1319, [], 0) else none)
  else (bif Nat.ble pc 1319 then (bif Nat.beq pc 1319 then some (.iaload, 1, 1320, [], 0) else none)
  else (bif Nat.beq pc 1320 then some (.invokevirtual 126, 3, 1323, [], 0) else none))) : nk_F) pc) : nk_F) pc) : nk_F) pc
  else ((fun pc => bif Nat.ble pc 1329 then ((fun pc => bif Nat.ble pc 1324 then (bif Nat.ble pc 1323 then (bif Nat.beq pc 1323 then some (.pop, 1, 1324, [], 0) else none)
  else (bif Nat.beq pc 1324 then some (.goto 478, 3, 1327, [1802], 0) else none))
  else ((fun pc => bif Nat.ble pc 1327 then (bif Nat.beq pc 1327 then some (.aload_n 1, 1, 1328, [], 0) else none)
  else (bif Nat.ble pc 1328 then (bif Nat.beq pc 1328 then some (.aload_n 0, 1, 1329, [], 0) else none)
  else (bif Nat.beq pc 1329 then some (.iload_n 3, 1, 1330, [], 0) else none))) : nk_F) pc) : nk_F) pc
  else ((fun pc => bif Nat.ble pc 1332 then ((fun pc => bif Nat.ble pc 1330 then (bif Nat.beq pc 1330 then some (.iconst 1, 1, 1331, [], 1) else none)
  else (bif Nat.ble pc 1331 then (bif Nat.beq pc 1331 then some (.iadd, 1, 1332, [], 0) else none)
  else (bif Nat.beq pc 1332 then some (.iaload, 1, 1333, [], 0) else none))) : nk_F) pc
  else ((fun pc => bif Nat.ble pc 1333 then (bif Nat.beq pc 1333 then some (.aload_n 0, 1, 1334, [], 0) else none)
  else (bif Nat.ble pc 1334 then (bif Nat.beq pc 1334 then some (.iload_n 3, 1, 1335, [], 0) else none)
  else (bif Nat.beq pc 1335 then some (.iconst 2, 1, 1336, [], 2) else none))) : nk_F) pc) : nk_F) pc) : nk_F) pc) : nk_F) pc) : nk_F) pc
  else ((fun pc => bif Nat.ble pc 1358 then ((fun pc => bif Nat.ble pc 1345 then ((fun pc => bif Nat.ble pc 1340 then ((fun pc => bif Nat.ble pc 1337 then (bif Nat.ble pc 1336 then (bif Nat.beq pc 1336 then some (.iadd, 1, 1337, [], 0) else none)
  else (bif Nat.beq pc 1337 then some (.iaload, 1, 1338, [], 0) else none))
  else ((fun pc => bif Nat.ble pc 1338 then (bif Nat.beq pc 1338 then some (.aload_n 0, 1, 1339, [], 0) else none)
  else (bif Nat.ble pc 1339 then (bif Nat.beq pc 1339 then some (.iload_n 3, 1, 1340, [], 0) else none)
  else (bif Nat.beq pc 1340 then some (.iconst 3, 1, 1341, [], 3) else none))) : nk_F) pc) : nk_F) pc
  else ((fun pc => bif Nat.ble pc 1342 then (bif Nat.ble pc 1341 then (bif Nat.beq pc 1341 then some (.iadd, 1, 1342, [], 0) else none)
  else (bif Nat.beq pc 1342 then some (.iaload, 1, 1343, [], 0) else none))
  else ((fun pc => bif Nat.ble pc 1343 then (bif Nat.beq pc 1343 then some (.aload_n 0, 1, 1344, [], 0) else none)
  else (bif Nat.ble pc 1344 then (bif Nat.beq pc 1344 then some (.iload_n 3, 1, 1345, [], 0) else none)
  else (bif Nat.beq pc 1345 then some (.iconst 4, 1, 1346, [], 4) else none))) : nk_F) pc) : nk_F) pc) : nk_F) pc
  else ((fun pc => bif Nat.ble pc 1352 then ((fun pc => bif Nat.ble pc 1347 then (bif Nat.ble pc 1346 then (bif Nat.beq pc 1346 then some (.iadd, 1, 1347, [], 0) else none)
  else (bif Nat.beq pc 1347 then some (.iaload, 1, 1348, [], 0) else none))
  else ((fun pc => bif Nat.ble pc 1348 then (bif Nat.beq pc 1348 then some (.invokevirtual 127, 3, 1351, [], 0) else none)
  else (bif Nat.ble pc 1351 then (bif Nat.beq pc 1351 then some (.pop, 1, 1352, [], 0) else none)
  else (bif Nat.beq pc 1352 then some (.aload_n 2, 1, 1353, [], 0) else none))) : nk_F) pc) : nk_F) pc
  else ((fun pc => bif Nat.ble pc 1355 then ((fun pc => bif Nat.ble pc 1353 then (bif Nat.beq pc 1353 then some (.aload_n 0, 1, 1354, [], 0) else none)
  else (bif Nat.ble pc 1354 then (bif Nat.beq pc 1354 then some (.iload_n 3, 1, 1355, [], 0) else none)
  else (bif Nat.beq pc 1355 then some (.iconst 1, 1, 1356, [], 1) else none))) : nk_F) pc
  else ((fun pc => bif Nat.ble pc 1356 then (bif Nat.beq pc 1356 then some (.iadd, 1, 1357, [], 0) else none)
  else (bif Nat.ble pc 1357 then (bif Nat.beq pc 1357 then some (.iaload, 1, 1358, [], 0) else none)
  else (bif Nat.beq pc 1358 then some (.aload_n 0, 1, 1359, [], 0) else none))) : nk_F) pc) : nk_F) pc) : nk_F) pc) : nk_F) pc
  else ((fun pc => bif Nat.ble pc 1369 then ((fun pc => bif Nat.ble pc 1363 then ((fun pc => bif Nat.ble pc 1360 then (bif Nat.ble pc 1359 then (bif Nat.beq pc 1359 then some (.iload_n 3, 1, 1360, [], 0) else none)
  else (bif Nat.beq pc 1360 then some (.iconst 2, 1, 1361, [], 2) else none))
  else ((fun pc => bif Nat.ble pc 1361 then (bif Nat.beq pc 1361 then some (.iadd, 1, 1362, [], 0) else none)
  else (bif Nat.ble pc 1362 then (bif Nat.beq pc 1362 then some (.iaload, 1, 1363, [], 0) else none)
  else (bif Nat.beq pc 1363 then some (.aload_n 0, 1, 1364, [], 0) else none))) : nk_F) pc) : nk_F) pc
  else ((fun pc => bif Nat.ble pc 1366 then ((fun pc => bif Nat.ble pc 1364 then (bif Nat.beq pc 1364 then some (.iload_n 3, 1, 1365, [], 0) else none)
  else (bif Nat.ble pc 1365 then (bif Nat.beq pc 1365 then some (.iconst 3, 1, 1366, [], 3) else none)
  else (bif Nat.beq pc 1366 then some (.iadd, 1, 1367, [], 0) else none))) : nk_F) pc
  else ((fun pc => bif Nat.ble pc 1367 then (bif Nat.beq pc 1367 then some (.iaload, 1, 1368, [], 0) else none)
  else (bif Nat.ble pc 1368 then (bif Nat.beq pc 1368 then some (.aload_n 0, 1, 1369, [], 0) else none)
  else (bif Nat.beq pc 1369 then some (.iload_n 3, 1, 1370, [], 0) else none))) : nk_F) pc) : nk_F) pc) : nk_F) pc
  else ((fun pc => bif Nat.ble pc 1376 then ((fun pc => bif Nat.ble pc 1371 then (bif Nat.ble pc 1370 then (bif Nat.beq pc 1370 then some (.iconst 4, 1, 1371, [], 4) else none)
  else (bif Nat.beq pc 1371 then some (.iadd, 1, 1372, [], 0) else none))
  else ((fun pc => bif Nat.ble pc 1372 then (bif Nat.beq pc 1372 then some (.iaload, 1, 1373, [], 0) else none)
  else (bif Nat.ble pc 1373 then (bif Nat.beq pc 1373 then some (.invokevirtual 130, 3, 1376, [], 0) else none)
  else (bif Nat.beq pc 1376 then some (.pop, 1, 1377, [], 0) else none))) : nk_F) pc) : nk_F) pc
  else ((fun pc => bif Nat.ble pc 1381 then ((fun pc => bif Nat.ble pc 1377 then (bif Nat.beq pc 1377 then some (.goto 425, 3, 1380, [1802], 0) else none)
  else (bif Nat.ble pc 1380 then (bif Nat.beq pc 1380 then some (.aload_n 1, 1, 1381, [], 0) else none)
  else (bif Nat.beq pc 1381 then some (.aload_n 0, 1, 1382, [], 0) else none))) : nk_F) pc
  else ((fun pc => bif Nat.ble pc 1382 then (bif Nat.beq pc 1382 then some (.iload_n 3, 1, 1383, [], 0) else none)
  else (bif Nat.ble pc 1383 then (bif Nat.beq pc 1383 then some (.iconst 1, 1, 1384, [], 1) else none)
  else (bif Nat.beq pc 1384 then some (.iadd, 1, 1385, [], 0) else none))) : nk_F) pc) : nk_F) pc) : nk_F) pc) : nk_F) pc) : nk_F) pc) : nk_F) pc) : nk_F) pc) : nk_F) pc
  else ((fun pc => bif Nat.ble pc 1576 then ((fun pc => bif Nat.ble pc 1476 then ((fun pc => bif Nat.ble pc 1430 then ((fun pc => bif Nat.ble pc 1407 then ((fun pc => bif Nat.ble pc 1394 then ((fun pc => bif Nat.ble pc 1389 then ((fun pc => bif Nat.ble pc 1386 then (bif Nat.ble pc 1385 then (bif Nat.beq pc 1385 then some (.iaload, 1, 1386, [], 0) else none)
  else (bif Nat.beq pc 1386 then some (.aload_n 0, 1, 1387, [], 0) else none))
  else ((fun pc => bif Nat.ble pc 1387 then (bif Nat.beq pc 1387 then some (.iload_n 3, 1, 1388, [], 0) else none)
  else (bif Nat.ble pc 1388 then (bif Nat.beq pc 1388 then some (.iconst 2, 1, 1389, [], 2) else none)
  else (bif Nat.beq pc 1389 then some (.iadd, 1, 1390, [], 0) else none))) : nk_F) pc) : nk_F) pc
  else ((fun pc => bif Nat.ble pc 1391 then (bif Nat.ble pc 1390 then (bif Nat.beq pc 1390 then some (.iaload, 1, 1391, [], 0) else none)
  else (bif Nat.beq pc 1391 then some (.aload_n 0, 1, 1392, [], 0) else none))
  else ((fun pc => bif Nat.ble pc 1392 then (bif Nat.beq pc 1392 then some (.iload_n 3, 1, 1393, [], 0) else none)
  else (bif Nat.ble pc 1393 then (bif Nat.beq pc 1393 then some (.iconst 3, 1, 1394, [], 3) else none)
  else (bif Nat.beq pc 1394 then some (.iadd, 1, 1395, [], 0) else none))) : nk_F) pc) : nk_F) pc) : nk_F) pc
  else ((fun pc => bif Nat.ble pc 1399 then ((fun pc => bif Nat.ble pc 1396 then (bif Nat.ble pc 1395 then (bif Nat.beq pc 1395 then some (.iaload, 1, 1396, [], 0) else none)
  else (bif Nat.beq pc 1396 then some (.aload_n 0, 1, 1397, [], 0) else none))
  else ((fun pc => bif Nat.ble pc 1397 then (bif Nat.beq pc 1397 then some (.iload_n 3, 1, 1398, [], 0) else none)
  else (bif Nat.ble pc 1398 then (bif Nat.beq pc 1398 then some (.iconst 4, 1, 1399, [], 4) else none)
  else (bif Nat.beq pc 1399 then some (.iadd, 1, 1400, [], 0) else none))) : nk_F) pc) : nk_F) pc
  else ((fun pc => bif Nat.ble pc 1404 then ((fun pc => bif Nat.ble pc 1400 then (bif Nat.beq pc 1400 then some (.iaload, 1, 1401, [], 0) else none)
  else (bif Nat.ble pc 1401 then (bif Nat.beq pc 1401 then some (.invokevirtual 131, 3, 1404, [], 0) else none)
  else (bif Nat.beq pc 1404 then some (.pop, 1, 1405, [], 0) else none))) : nk_F) pc
  else ((fun pc => bif Nat.ble pc 1405 then (bif Nat.beq pc 1405 then some (.aload_n 2, 1, 1406, [], 0) else none)
  else (bif Nat.ble pc 1406 then (bif Nat.beq pc 1406 then some (.aload_n 0, 1, 1407, [], 0) else none)
  else (bif Nat.beq pc 1407 then some (.iload_n 3, 1, 1408, [], 0) else none))) : nk_F) pc) : nk_F) pc) : nk_F) pc) : nk_F) pc
  else ((fun pc => bif Nat.ble pc 1417 then ((fun pc => bif Nat.ble pc 1412 then ((fun pc => bif Nat.ble pc 1409 then (bif Nat.ble pc 1408 then (bif Nat.beq pc 1408 then some (.iconst 1, 1, 1409, [], 1) else none)
  else (bif Nat.beq pc 1409 then some (.iadd, 1, 1410, [], 0) else none))
  else ((fun pc => bif Nat.ble pc 1410 then (bif Nat.beq pc 1410 then some (.iaload, 1, 1411, [], 0) else none)
  else (bif Nat.ble pc 1411 then (bif Nat.beq pc 1411 then some (.aload_n 0, 1, 1412, [], 0) else none)
  else (bif Nat.beq pc 1412 then some (.iload_n 3, 1, 1413, [], 0) else none))) : nk_F) pc) : nk_F) pc
  else ((fun pc => bif Nat.ble pc 1414 then (bif Nat.ble pc 1413 then (bif Nat.beq pc 1413 then some (.iconst 2, 1, 1414, [], 2) else none)
  else (bif Nat.beq pc 1414 then some (.iadd, 1, 1415, [], 0) else none))
  else ((fun pc => bif Nat.ble pc 1415 then (bif Nat.beq pc 1415 then some (.iaload, 1, 1416, [], 0) else none)
  else (bif Nat.ble pc 1416 then (bif Nat.beq pc 1416 then some (.aload_n 0, 1, 1417, [], 0) else none)
  else (bif Nat.beq pc 1417 then some (.iload_n 3, 1, 1418, [], 0) else none))) : nk_F) pc) : nk_F) pc) : nk_F) pc
  else ((fun pc => bif Nat.ble pc 1422 then ((fun pc => bif Nat.ble pc 1419 then (bif Nat.ble pc 1418 then (bif Nat.beq pc 1418 then some (.iconst 3, 1, 1419, [], 3) else none)
  else (bif Nat.beq pc 1419 then some (.iadd, 1, 1420, [], 0) else none))
  else ((fun pc => bif Nat.ble pc 1420 then (bif Nat.beq pc 1420 then some (.iaload, 1, 1421, [], 0) else none)
  else (bif Nat.ble pc 1421 then (bif Nat.beq pc 1421 then some (.aload_n 0, 1, 1422, [], 0) else none)
  else (bif Nat.beq pc 1422 then some (.iload_n 3, 1, 1423, [], 0) else none))) : nk_F) pc) : nk_F) pc
  else ((fun pc => bif Nat.ble pc 1425 then ((fun pc => bif Nat.ble pc 1423 then (bif Nat.beq pc 1423 then some (.iconst 4, 1, 1424, [], 4) else none)
  else (bif Nat.ble pc 1424 then (bif Nat.beq pc 1424 then some (.iadd, 1, 1425, [], 0) else none)
  else (bif Nat.beq pc 1425 then some (.iaload, 1, 1426, [], 0) else none))) : nk_F) pc
  else ((fun pc => bif Nat.ble pc 1426 then (bif Nat.beq pc 1426 then some (.invokevirtual 134, 3, 1429, [], 0) else none)
  else (bif Nat.ble pc 1429 then (bif Nat.beq pc 1429 then some (.pop, 1, 1430, [], 0) else none)
  else (bif Nat.beq pc 1430 then some (.goto 372, 3, 1433, [1802], 0) else none))) : nk_F) pc) : nk_F) pc) : nk_F) pc) : nk_F) pc) : nk_F) pc
  else ((fun pc => bif Nat.ble pc 1453 then ((fun pc => bif Nat.ble pc 1442 then ((fun pc => bif Nat.ble pc 1437 then ((fun pc => bif Nat.ble pc 1434 then (bif Nat.ble pc 1433 then (bif Nat.beq pc 1433 then some (.aload_n 1, 1, 1434, [], 0) else none)
  else (bif Nat.beq pc 1434 then some (.aload_n 0, 1, 1435, [], 0) else none))
  else ((fun pc => bif Nat.ble pc 1435 then (bif Nat.beq pc 1435 then some (.iload_n 3, 1, 1436, [], 0) else none)
  else (bif Nat.ble pc 1436 then (bif Nat.beq pc 1436 then some (.iconst 1, 1, 1437, [], 1) else none)
  else (bif Nat.beq pc 1437 then some (.iadd, 1, 1438, [], 0) else none))) : nk_F) pc) : nk_F) pc
  else ((fun pc => bif Nat.ble pc 1439 then (bif Nat.ble pc 1438 then (bif Nat.beq pc 1438 then some (.iaload, 1, 1439, [], 0) else none)
  else (bif Nat.beq pc 1439 then some (.aload_n 0, 1, 1440, [], 0) else none))
  else ((fun pc => bif Nat.ble pc 1440 then (bif Nat.beq pc 1440 then some (.iload_n 3, 1, 1441, [], 0) else none)
  else (bif Nat.ble pc 1441 then (bif Nat.beq pc 1441 then some (.iconst 2, 1, 1442, [], 2) else none)
  else (bif Nat.beq pc 1442 then some (.iadd, 1, 1443, [], 0) else none))) : nk_F) pc) : nk_F) pc) : nk_F) pc
  else ((fun pc => bif Nat.ble pc 1447 then ((fun pc => bif Nat.ble pc 1444 then (bif Nat.ble pc 1443 then (bif Nat.beq pc 1443 then some (.iaload, 1, 1444, [], 0) else none)
  else (bif Nat.beq pc 1444 then some (.aload_n 0, 1, 1445, [], 0) else none))
  else ((fun pc => bif Nat.ble pc 1445 then (bif Nat.beq pc 1445 then some (.iload_n 3, 1, 1446, [], 0) else none)
  else (bif Nat.ble pc 1446 then (bif Nat.beq pc 1446 then some (.iconst 3, 1, 1447, [], 3) else none)
  else (bif Nat.beq pc 1447 then some (.iadd, 1, 1448, [], 0) else none))) : nk_F) pc) : nk_F) pc
  else ((fun pc => bif Nat.ble pc 1450 then ((fun pc => bif Nat.ble pc 1448 then (bif Nat.beq pc 1448 then some (.iaload, 1, 1449, [], 0) else none)
  else (bif Nat.ble pc 1449 then (bif Nat.beq pc 1449 then some (.aload_n 0, 1, 1450, [], 0) else none)
  else (bif Nat.beq pc 1450 then some (.iload_n 3, 1, 1451, [], 0) else none))) : nk_F) pc
  else ((fun pc => bif Nat.ble pc 1451 then (bif Nat.beq pc 1451 then some (.iconst 4, 1, 1452, [], 4) else none)
  else (bif Nat.ble pc 1452 then (bif Nat.beq pc 1452 then some (.iadd, 1, 1453, [], 0) else none)
  else (bif Nat.beq pc 1453 then some (.iaload, 1, 1454, [], 0) else none))) : nk_F) pc) : nk_F) pc) : nk_F) pc) : nk_F) pc
  else ((fun pc => bif Nat.ble pc 1465 then ((fun pc => bif Nat.ble pc 1460 then ((fun pc => bif Nat.ble pc 1457 then (bif Nat.ble pc 1454 then (bif Nat.beq pc 1454 then some (.invokevirtual 135, 3, 1457, [], 0) else none)
  else (bif Nat.beq pc 1457 then some (.pop, 1, 1458, [], 0) else none))
  else ((fun pc => bif Nat.ble pc 1458 then (bif Nat.beq pc 1458 then some (.aload_n 2, 1, 1459, [], 0) else none)
  else (bif Nat.ble pc 1459 then (bif Nat.beq pc 1459 then some (.aload_n 0, 1, 1460, [], 0) else none)
  else (bif Nat.beq pc 1460 then some (.iload_n 3, 1, 1461, [], 0) else none))) : nk_F) pc) : nk_F) pc
  else ((fun pc => bif Nat.ble pc 1462 then (bif Nat.ble pc 1461 then (bif Nat.beq pc 1461 then some (.iconst 1, 1, 1462, [], 1) else none)
  else (bif Nat.beq pc 1462 then some (.iadd, 1, 1463, [], 0) else none))
  else ((fun pc => bif Nat.ble pc 1463 then (bif Nat.beq pc 1463 then some (.iaload, 1, 1464, [], 0) else none)
  else (bif Nat.ble pc 1464 then (bif Nat.beq pc 1464 then some (.aload_n 0, 1, 1465, [], 0) else none)
  else (bif Nat.beq pc 1465 then some (.iload_n 3, 1, 1466, [], 0) else none))) : nk_F) pc) : nk_F) pc) : nk_F) pc
  else ((fun pc => bif Nat.ble pc 1470 then ((fun pc => bif Nat.ble pc 1467 then (bif Nat.ble pc 1466 then (bif Nat.beq pc 1466 then some (.iconst 2, 1, 1467, [], 2) else none)
  else (bif Nat.beq pc 1467 then some (.iadd, 1, 1468, [], 0) else none))
  else ((fun pc => bif Nat.ble pc 1468 then (bif Nat.beq pc 1468 then some (.iaload, 1, 1469, [], 0) else none)
  else (bif Nat.ble pc 1469 then (bif Nat.beq pc 1469 then some (.aload_n 0, 1, 1470, [], 0) else none)
  else (bif Nat.beq pc 1470 then some (.iload_n 3, 1, 1471, [], 0) else none))) : nk_F) pc) : nk_F) pc
  else ((fun pc => bif Nat.ble pc 1473 then ((fun pc => bif Nat.ble pc 1471 then (bif Nat.beq pc 1471 then some (.iconst 3, 1, 1472, [], 3) else none)
  else (bif Nat.ble pc 1472 then (bif Nat.beq pc 1472 then some (.iadd, 1, 1473, [], 0) else none)
  else (bif Nat.beq pc 1473 then some (.iaload, 1, 1474, [], 0) else none))) : nk_F) pc
  else ((fun pc => bif Nat.ble pc 1474 then (bif Nat.beq pc 1474 then some (.aload_n 0, 1, 1475, [], 0) else none)
  else (bif Nat.ble pc 1475 then (bif Nat.beq pc 1475 then some (.iload_n 3, 1, 1476, [], 0) else none)
  else (bif Nat.beq pc 1476 then some (.iconst 4, 1, 1477, [], 4) else none))) : nk_F) pc) : nk_F) pc) : nk_F) pc) : nk_F) pc) : nk_F) pc) : nk_F) pc
  else ((fun pc => bif Nat.ble pc 1526 then ((fun pc => bif Nat.ble pc 1501 then ((fun pc => bif Nat.ble pc 1490 then ((fun pc => bif Nat.ble pc 1483 then ((fun pc => bif Nat.ble pc 1478 then (bif Nat.ble pc 1477 then (bif Nat.beq pc 1477 then some (.iadd, 1, 1478, [], 0) else none)
  else (bif Nat.beq pc 1478 then some (.iaload, 1, 1479, [], 0) else none))
  else ((fun pc => bif Nat.ble pc 1479 then (bif Nat.beq pc 1479 then some (.invokevirtual 138, 3, 1482, [], 0) else none)
  else (bif Nat.ble pc 1482 then (bif Nat.beq pc 1482 then some (.pop, 1, 1483, [], 0) else none)
  else (bif Nat.beq pc 1483 then some (.goto 319, 3, 1486, [1802], 0) else none))) : nk_F) pc) : nk_F) pc
  else ((fun pc => bif Nat.ble pc 1487 then (bif Nat.ble pc 1486 then (bif Nat.beq pc 1486 then some (.aload_n 1, 1, 1487, [], 0) else none)
  else (bif Nat.beq pc 1487 then some (.aload_n 0, 1, 1488, [], 0) else none))
  else ((fun pc => bif Nat.ble pc 1488 then (bif Nat.beq pc 1488 then some (.iload_n 3, 1, 1489, [], 0) else none)
  else (bif Nat.ble pc 1489 then (bif Nat.beq pc 1489 then some (.iconst 1, 1, 1490, [], 1) else none)
  else (bif Nat.beq pc 1490 then some (.iadd, 1, 1491, [], 0) else none))) : nk_F) pc) : nk_F) pc) : nk_F) pc
  else ((fun pc => bif Nat.ble pc 1495 then ((fun pc => bif Nat.ble pc 1492 then (bif Nat.ble pc 1491 then (bif Nat.beq pc 1491 then some (.iaload, 1, 1492, [], 0) else none)
  else (bif Nat.beq pc 1492 then some (.aload_n 0, 1, 1493, [], 0) else none))
  else ((fun pc => bif Nat.ble pc 1493 then (bif Nat.beq pc 1493 then some (.iload_n 3, 1, 1494, [], 0) else none)
  else (bif Nat.ble pc 1494 then (bif Nat.beq pc 1494 then some (.iconst 2, 1, 1495, [], 2) else none)
  else (bif Nat.beq pc 1495 then some (.iadd, 1, 1496, [], 0) else none))) : nk_F) pc) : nk_F) pc
  else ((fun pc => bif Nat.ble pc 1498 then ((fun pc => bif Nat.ble pc 1496 then (bif Nat.beq pc 1496 then some (.iaload, 1, 1497, [], 0) else none)
  else (bif Nat.ble pc 1497 then (bif Nat.beq pc 1497 then some (.aload_n 0, 1, 1498, [], 0) else none)
  else (bif Nat.beq pc 1498 then some (.iload_n 3, 1, 1499, [], 0) else none))) : nk_F) pc
  else ((fun pc => bif Nat.ble pc 1499 then (bif Nat.beq pc 1499 then some (.iconst 3, 1, 1500, [], 3) else none)
  else (bif Nat.ble pc 1500 then (bif Nat.beq pc 1500 then some (.iadd, 1, 1501, [], 0) else none)
  else (bif Nat.beq pc 1501 then some (.iaload, 1, 1502, [], 0) else none))) : nk_F) pc) : nk_F) pc) : nk_F) pc) : nk_F) pc
  else ((fun pc => bif Nat.ble pc 1513 then ((fun pc => bif Nat.ble pc 1508 then ((fun pc => bif Nat.ble pc 1505 then (bif Nat.ble pc 1502 then (bif Nat.beq pc 1502 then some (.invokevirtual 139, 3, 1505, [], 0) else none)
  else (bif Nat.beq pc 1505 then some (.pop, 1, 1506, [], 0) else none))
  else ((fun pc => bif Nat.ble pc 1506 then (bif Nat.beq pc 1506 then some (.aload_n 2, 1, 1507, [], 0) else none)
  else (bif Nat.ble pc 1507 then (bif Nat.beq pc 1507 then some (.aload_n 0, 1, 1508, [], 0) else none)
  else (bif Nat.beq pc 1508 then some (.iload_n 3, 1, 1509, [], 0) else none))) : nk_F) pc) : nk_F) pc
  else ((fun pc => bif Nat.ble pc 1510 then (bif Nat.ble pc 1509 then (bif Nat.beq pc 1509 then some (.iconst 1, 1, 1510, [], 1) else none)
  else (bif Nat.beq pc 1510 then some (.iadd, 1, 1511, [], 0) else none))
  else ((fun pc => bif Nat.ble pc 1511 then (bif Nat.beq pc 1511 then some (.iaload, 1, 1512, [], 0) else none)
  else (bif Nat.ble pc 1512 then (bif Nat.beq pc 1512 then some (.aload_n 0, 1, 1513, [], 0) else none)
  else (bif Nat.beq pc 1513 then some (.iload_n 3, 1, 1514, [], 0) else none))) : nk_F) pc) : nk_F) pc) : nk_F) pc
  else ((fun pc => bif Nat.ble pc 1518 then ((fun pc => bif Nat.ble pc 1515 then (bif Nat.ble pc 1514 then (bif Nat.beq pc 1514 then some (.iconst 2, 1, 1515, [], 2) else none)
  else (bif Nat.beq pc 1515 then some (.iadd, 1, 1516, [], 0) else none))
  else ((fun pc => bif Nat.ble pc 1516 then (bif Nat.beq pc 1516 then some (.iaload, 1, 1517, [], 0) else none)
  else (bif Nat.ble pc 1517 then (bif Nat.beq pc 1517 then some (.aload_n 0, 1, 1518, [], 0) else none)
  else (bif Nat.beq pc 1518 then some (.iload_n 3, 1, 1519, [], 0) else none))) : nk_F) pc) : nk_F) pc
  else ((fun pc => bif Nat.ble pc 1521 then ((fun pc => bif Nat.ble pc 1519 then (bif Nat.beq pc 1519 then some (.iconst 3, 1, 1520, [], 3) else none)
  else (bif Nat.ble pc 1520 then (bif Nat.beq pc 1520 then some (.iadd, 1, 1521, [], 0) else none)
  else (bif Nat.beq pc 1521 then some (.iaload, 1, 1522, [], 0) else none))) : nk_F) pc
  else ((fun pc => bif Nat.ble pc 1522 then (bif Nat.beq pc 1522 then some (.invokevirtual 142, 3, 1525, [], 0) else none)
  else (bif Nat.ble pc 1525 then (bif Nat.beq pc 1525 then some (.pop, 1, 1526, [], 0) else none)
  else (bif Nat.beq pc 1526 then some (.goto 276, 3, 1529, [1802], 0) else none))) : nk_F) pc) : nk_F) pc) : nk_F) pc) : nk_F) pc) : nk_F) pc
  else ((fun pc => bif Nat.ble pc 1551 then ((fun pc => bif Nat.ble pc 1538 then ((fun pc => bif Nat.ble pc 1533 then ((fun pc => bif Nat.ble pc 1530 then (bif Nat.ble pc 1529 then (bif Nat.beq pc 1529 then some (.aload_n 1, 1, 1530, [], 0) else none)
  else (bif Nat.beq pc 1530 then some (.aload_n 0, 1, 1531, [], 0) else none))
  else ((fun pc => bif Nat.ble pc 1531 then (bif Nat.beq pc 1531 then some (.iload_n 3, 1, 1532, [], 0) else none)
  else (bif Nat.ble pc 1532 then (bif Nat.beq pc 1532 then some (.iconst 1, 1, 1533, [], 1) else none)
  else (bif Nat.beq pc 1533 then some (.iadd, 1, 1534, [], 0) else none))) : nk_F) pc) : nk_F) pc
  else ((fun pc => bif Nat.ble pc 1535 then (bif Nat.ble pc 1534 then (bif Nat.beq pc 1534 then some (.iaload, 1, 1535, [], 0) else none)
  else (bif Nat.beq pc 1535 then some (.aload_n 0, 1, 1536, [], 0) else none))
  else ((fun pc => bif Nat.ble pc 1536 then (bif Nat.beq pc 1536 then some (.iload_n 3, 1, 1537, [], 0) else none)
  else (bif Nat.ble pc 1537 then (bif Nat.beq pc 1537 then some (.iconst 2, 1, 1538, [], 2) else none)
  else (bif Nat.beq pc 1538 then some (.iadd, 1, 1539, [], 0) else none))) : nk_F) pc) : nk_F) pc) : nk_F) pc
  else ((fun pc => bif Nat.ble pc 1543 then ((fun pc => bif Nat.ble pc 1540 then (bif Nat.ble pc 1539 then (bif Nat.beq pc 1539 then some (.iaload, 1, 1540, [], 0) else none)
  else (bif Nat.beq pc 1540 then some (.aload_n 0, 1, 1541, [], 0) else none))
  else ((fun pc => bif Nat.ble pc 1541 then (bif Nat.beq pc 1541 then some (.iload_n 3, 1, 1542, [], 0) else none)
  else (bif Nat.ble pc 1542 then (bif Nat.beq pc 1542 then some (.iconst 3, 1, 1543, [], 3) else none)
  else (bif Nat.beq pc 1543 then some (.iadd, 1, 1544, [], 0) else none))) : nk_F) pc) : nk_F) pc
  else ((fun pc => bif Nat.ble pc 1548 then ((fun pc => bif Nat.ble pc 1544 then (bif Nat.beq pc 1544 then some (.iaload, 1, 1545, [], 0) else none)
  else (bif Nat.ble pc 1545 then (bif Nat.beq pc 1545 then some (.invokevirtual 143, 3, 1548, [], 0) else none)
  else (bif Nat.beq pc 1548 then some (.pop, 1, 1549, [], 0) else none))) : nk_F) pc
  else ((fun pc => bif Nat.ble pc 1549 then (bif Nat.beq pc 1549 then some (.aload_n 2, 1, 1550, [], 0) else none)
  else (bif Nat.ble pc 1550 then (bif Nat.beq pc 1550 then some (.aload_n 0, 1, 1551, [], 0) else none)
  else (bif Nat.beq pc 1551 then some (.iload_n 3, 1, 1552, [], 0) else none))) : nk_F) pc) : nk_F) pc) : nk_F) pc) : nk_F) pc
  else ((fun pc => bif Nat.ble pc 1561 then ((fun pc => bif Nat.ble pc 1556 then ((fun pc => bif Nat.ble pc 1553 then (bif Nat.ble pc 1552 then (bif Nat.beq pc 1552 then some (.iconst 1, 1, 1553, [], 1) else none)
  else (bif Nat.beq pc 1553 then some (.iadd, 1, 1554, [], 0) else none))
  else ((fun pc => bif Nat.ble pc 1554 then (bif Nat.beq pc 1554 then some (.iaload, 1, 1555, [], 0) else none)
  else (bif Nat.ble pc 1555 then (bif Nat.beq pc 1555 then some (.aload_n 0, 1, 1556, [], 0) else none)
  else (bif Nat.beq pc 1556 then some (.iload_n 3, 1, 1557, [], 0) else none))) : nk_F) pc) : nk_F) pc
  else ((fun pc => bif Nat.ble pc 1558 then (bif Nat.ble pc 1557 then (bif Nat.beq pc 1557 then some (.iconst 2, 1, 1558, [], 2) else none)
  else (bif Nat.beq pc 1558 then some (.iadd, 1, 1559, [], 0) else none))
  else ((fun pc => bif Nat.ble pc 1559 then (bif Nat.beq pc 1559 then some (.iaload, 1, 1560, [], 0) else none)
  else (bif Nat.ble pc 1560 then (bif Nat.beq pc 1560 then some (.aload_n 0, 1, 1561, [], 0) else none)
  else (bif Nat.beq pc 1561 then some (.iload_n 3, 1, 1562, [], 0) else none))) : nk_F) pc) : nk_F) pc) : nk_F) pc
  else ((fun pc => bif Nat.ble pc 1568 then ((fun pc => bif Nat.ble pc 1563 then (bif Nat.ble pc 1562 then (bif Nat.beq pc 1562 then some (.iconst 3, 1, 1563, [], 3) else none)
  else (bif Nat.beq pc 1563 then some (.iadd, 1, 1564, [], 0) else none))
  else ((fun pc => bif Nat.ble pc 1564 then (bif Nat.beq pc 1564 then some (.iaload, 1, 1565, [], 0) else none)
  else (bif Nat.ble pc 1565 then (bif Nat.beq pc 1565 then some (.invokevirtual 146, 3, 1568, [], 0) else none)
  else (bif Nat.beq pc 1568 then some (.pop, 1, 1569, [], 0) else none))) : nk_F) pc) : nk_F) pc
  else ((fun pc => bif Nat.ble pc 1573 then ((fun pc => bif Nat.ble pc 1569 then (bif Nat.beq pc 1569 then some (.goto 233, 3, 1572, [1802], 0) else none)
  else (bif Nat.ble pc 1572 then (bif Nat.beq pc 1572 then some (.aload_n 1, 1, 1573, [], 0) else none)
  else (bif Nat.beq pc 1573 then some (.aload_n 0, 1, 1574, [], 0) else none))) : nk_F) pc
  else ((fun pc => bif Nat.ble pc 1574 then (bif Nat.beq pc 1574 then some (.iload_n 3, 1, 1575, [], 0) else none)
  else (bif Nat.ble pc 1575 then (bif Nat.beq pc 1575 then some (.iconst 1, 1, 1576, [], 1) else none)
  else (bif Nat.beq pc 1576 then some (.iadd, 1, 1577, [], 0) else none))) : nk_F) pc) : nk_F) pc) : nk_F) pc) : nk_F) pc) : nk_F) pc) : nk_F) pc) : nk_F) pc
  else ((fun pc => bif Nat.ble pc 1674 then ((fun pc => bif Nat.ble pc 1622 then ((fun pc => bif Nat.ble pc 1599 then ((fun pc => bif Nat.ble pc 1586 then ((fun pc => bif Nat.ble pc 1581 then ((fun pc => bif Nat.ble pc 1578 then (bif Nat.ble pc 1577 then (bif Nat.beq pc 1577 then some (.iaload, 1, 1578, [], 0) else none)
  else (bif Nat.beq pc 1578 then some (.aload_n 0, 1, 1579, [], 0) else none))
  else ((fun pc => bif Nat.ble pc 1579 then (bif Nat.beq pc 1579 then some (.iload_n 3, 1, 1580, [], 0) else none)
  else (bif Nat.ble pc 1580 then (bif Nat.beq pc 1580 then some (.iconst 2, 1, 1581, [], 2) else none)
  else (bif Nat.beq pc 1581 then some (.iadd, 1, 1582, [], 0) else none))) : nk_F) pc) : nk_F) pc
  else ((fun pc => bif Nat.ble pc 1583 then (bif Nat.ble pc 1582 then (bif Nat.beq pc 1582 then some (.iaload, 1, 1583, [], 0) else none)
  else (bif Nat.beq pc 1583 then some (.aload_n 0, 1, 1584, [], 0) else none))
  else ((fun pc => bif Nat.ble pc 1584 then (bif Nat.beq pc 1584 then some (.iload_n 3, 1, 1585, [], 0) else none)
  else (bif Nat.ble pc 1585 then (bif Nat.beq pc 1585 then some (.iconst 3, 1, 1586, [], 3) else none)
  else (bif Nat.beq pc 1586 then some (.iadd, 1, 1587, [], 0) else none))) : nk_F) pc) : nk_F) pc) : nk_F) pc
  else ((fun pc => bif Nat.ble pc 1591 then ((fun pc => bif Nat.ble pc 1588 then (bif Nat.ble pc 1587 then (bif Nat.beq pc 1587 then some (.iaload, 1, 1588, [], 0) else none)
  else (bif Nat.beq pc 1588 then some (.aload_n 0, 1, 1589, [], 0) else none))
  else ((fun pc => bif Nat.ble pc 1589 then (bif Nat.beq pc 1589 then some (.iload_n 3, 1, 1590, [], 0) else none)
  else (bif Nat.ble pc 1590 then (bif Nat.beq pc 1590 then some (.iconst 4, 1, 1591, [], 4) else none)
  else (bif Nat.beq pc 1591 then some (.iadd, 1, 1592, [], 0) else none))) : nk_F) pc) : nk_F) pc
  else ((fun pc => bif Nat.ble pc 1596 then ((fun pc => bif Nat.ble pc 1592 then (bif Nat.beq pc 1592 then some (.iaload, 1, 1593, [], 0) else none)
  else (bif Nat.ble pc 1593 then (bif Nat.beq pc 1593 then some (.invokevirtual 147, 3, 1596, [], 0) else none)
  else (bif Nat.beq pc 1596 then some (.pop, 1, 1597, [], 0) else none))) : nk_F) pc
  else ((fun pc => bif Nat.ble pc 1597 then (bif Nat.beq pc 1597 then some (.aload_n 2, 1, 1598, [], 0) else none)
  else (bif Nat.ble pc 1598 then (bif Nat.beq pc 1598 then some (.aload_n 0, 1, 1599, [], 0) else none)
  else (bif Nat.beq pc 1599 then some (.iload_n 3, 1, 1600, [], 0) else none))) : nk_F) pc) : nk_F) pc) : nk_F) pc) : nk_F) pc
  else ((fun pc => bif Nat.ble pc 1609 then ((fun pc => bif Nat.ble pc 1604 then ((fun pc => bif Nat.ble pc 1601 then (bif Nat.ble pc 1600 then (bif Nat.beq pc 1600 then some (.iconst 1, 1, 1601, [], 1) else none)
  else (bif Nat.beq pc 1601 then some (.iadd, 1, 1602, [], 0) else none))
  else ((fun pc => bif Nat.ble pc 1602 then (bif Nat.beq pc 1602 then some (.iaload, 1, 1603, [], 0) else none)
  else (bif Nat.ble pc 1603 then (bif Nat.beq pc 1603 then some (.aload_n 0, 1, 1604, [], 0) else none)
  else (bif Nat.beq pc 1604 then some (.iload_n 3, 1, 1605, [], 0) else none))) : nk_F) pc) : nk_F) pc
  else ((fun pc => bif Nat.ble pc 1606 then (bif Nat.ble pc 1605 then (bif Nat.beq pc 1605 then some (.iconst 2, 1, 1606, [], 2) else none)
  else (bif Nat.beq pc 1606 then some (.iadd, 1, 1607, [], 0) else none))
  else ((fun pc => bif Nat.ble pc 1607 then (bif Nat.beq pc 1607 then some (.iaload, 1, 1608, [], 0) else none)
  else (bif Nat.ble pc 1608 then (bif Nat.beq pc 1608 then some (.aload_n 0, 1, 1609, [], 0) else none)
  else (bif Nat.beq pc 1609 then some (.iload_n 3, 1, 1610, [], 0) else none))) : nk_F) pc) : nk_F) pc) : nk_F) pc
  else ((fun pc => bif Nat.ble pc 1614 then ((fun pc => bif Nat.ble pc 1611 then (bif Nat.ble pc 1610 then (bif Nat.beq pc 1610 then some (.iconst 3, 1, 1611, [], 3) else none)
  else (bif Nat.beq pc 1611 then some (.iadd, 1, 1612, [], 0) else none))
  else ((fun pc => bif Nat.ble pc 1612 then (bif Nat.beq pc 1612 then some (.iaload, 1, 1613, [], 0) else none)
  else (bif Nat.ble pc 1613 then (bif Nat.beq pc 1613 then some (.aload_n 0, 1, 1614, [], 0) else none)
  else (bif Nat.beq pc 1614 then some (.iload_n 3, 1, 1615, [], 0) else none))) : nk_F) pc) : nk_F) pc
  else ((fun pc => bif Nat.ble pc 1617 then ((fun pc => bif Nat.ble pc 1615 then (bif Nat.beq pc 1615 then some (.iconst 4, 1, 1616, [], 4) else none)
  else (bif Nat.ble pc 1616 then (bif Nat.beq pc 1616 then some (.iadd, 1, 1617, [], 0) else none)
  else (bif Nat.beq pc 1617 then some (.iaload, 1, 1618, [], 0) else none))) : nk_F) pc
  else ((fun pc => bif Nat.ble pc 1618 then (bif Nat.beq pc 1618 then some (.invokevirtual 150, 3, 1621, [], 0) else none)
  else (bif Nat.ble pc 1621 then (bif Nat.beq pc 1621 then some (.pop, 1, 1622, [], 0) else none)
  else (bif Nat.beq pc 1622 then some (.goto 180, 3, 1625, [1802], 0) else none))) : nk_F) pc) : nk_F) pc) : nk_F) pc) : nk_F) pc) : nk_F) pc
  else ((fun pc => bif Nat.ble pc 1647 then ((fun pc => bif Nat.ble pc 1634 then ((fun pc => bif Nat.ble pc 1629 then ((fun pc => bif Nat.ble pc 1626 then (bif Nat.ble pc 1625 then (bif Nat.beq pc 1625 then some (.aload_n 1, 1, 1626, [], 0) else none)
  else (bif Nat.beq pc 1626 then some (.aload_n 0, 1, 1627, [], 0) else none))
  else ((fun pc => bif Nat.ble pc 1627 then (bif Nat.beq pc 1627 then some (.iload_n 3, 1, 1628, [], 0) else none)
  else (bif Nat.ble pc 1628 then (bif Nat.beq pc 1628 then some (.iconst 1, 1, 1629, [], 1) else none)
  else (bif Nat.beq pc 1629 then some (.iadd, 1, 1630, [], 0) else none))) : nk_F) pc) : nk_F) pc
  else ((fun pc => bif Nat.ble pc 1631 then (bif Nat.ble pc 1630 then (bif Nat.beq pc 1630 then some (.iaload, 1, 1631, [], 0) else none)
  else (bif Nat.beq pc 1631 then some (.aload_n 0, 1, 1632, [], 0) else none))
  else ((fun pc => bif Nat.ble pc 1632 then (bif Nat.beq pc 1632 then some (.iload_n 3, 1, 1633, [], 0) else none)
  else (bif Nat.ble pc 1633 then (bif Nat.beq pc 1633 then some (.iconst 2, 1, 1634, [], 2) else none)
  else (bif Nat.beq pc 1634 then some (.iadd, 1, 1635, [], 0) else none))) : nk_F) pc) : nk_F) pc) : nk_F) pc
  else ((fun pc => bif Nat.ble pc 1641 then ((fun pc => bif Nat.ble pc 1636 then (bif Nat.ble pc 1635 then (bif Nat.beq pc 1635 then some (.iaload, 1, 1636, [], 0) else none)
  else (bif Nat.beq pc 1636 then some (.invokevirtual 151, 3, 1639, [], 0) else none))
  else ((fun pc => bif Nat.ble pc 1639 then (bif Nat.beq pc 1639 then some (.pop, 1, 1640, [], 0) else none)
  else (bif Nat.ble pc 1640 then (bif Nat.beq pc 1640 then some (.aload_n 2, 1, 1641, [], 0) else none)
  else (bif Nat.beq pc 1641 then some (.aload_n 0, 1, 1642, [], 0) else none))) : nk_F) pc) : nk_F) pc
  else ((fun pc => bif Nat.ble pc 1644 then ((fun pc => bif Nat.ble pc 1642 then (bif Nat.beq pc 1642 then some (.iload_n 3, 1, 1643, [], 0) else none)
  else (bif Nat.ble pc 1643 then (bif Nat.beq pc 1643 then some (.iconst 1, 1, 1644, [], 1) else none)
  else (bif Nat.beq pc 1644 then some (.iadd, 1, 1645, [], 0) else none))) : nk_F) pc
  else ((fun pc => bif Nat.ble pc 1645 then (bif Nat.beq pc 1645 then some (.iaload, 1, 1646, [], 0) else none)
  else (bif Nat.ble pc 1646 then (bif Nat.beq pc 1646 then some (.aload_n 0, 1, 1647, [], 0) else none)
  else (bif Nat.beq pc 1647 then some (.iload_n 3, 1, 1648, [], 0) else none))) : nk_F) pc) : nk_F) pc) : nk_F) pc) : nk_F) pc
  else ((fun pc => bif Nat.ble pc 1661 then ((fun pc => bif Nat.ble pc 1654 then ((fun pc => bif Nat.ble pc 1649 then (bif Nat.ble pc 1648 then (bif Nat.beq pc 1648 then some (.iconst 2, 1, 1649, [], 2) else none)
  else (bif Nat.beq pc 1649 then some (.iadd, 1, 1650, [], 0) else none))
  else ((fun pc => bif Nat.ble pc 1650 then (bif Nat.beq pc 1650 then some (.iaload, 1, 1651, [], 0) else none)
  else (bif Nat.ble pc 1651 then (bif Nat.beq pc 1651 then some (.invokevirtual 154, 3, 1654, [], 0) else none)
  else (bif Nat.beq pc 1654 then some (.pop, 1, 1655, [], 0) else none))) : nk_F) pc) : nk_F) pc
  else ((fun pc => bif Nat.ble pc 1658 then (bif Nat.ble pc 1655 then (bif Nat.beq pc 1655 then some (.goto 147, 3, 1658, [1802], 0) else none)
  else (bif Nat.beq pc 1658 then some (.aload_n 1, 1, 1659, [], 0) else none))
  else ((fun pc => bif Nat.ble pc 1659 then (bif Nat.beq pc 1659 then some (.aload_n 0, 1, 1660, [], 0) else none)
  else (bif Nat.ble pc 1660 then (bif Nat.beq pc 1660 then some (.iload_n 3, 1, 1661, [], 0) else none)
  else (bif Nat.beq pc 1661 then some (.iconst 1, 1, 1662, [], 1) else none))) : nk_F) pc) : nk_F) pc) : nk_F) pc
  else ((fun pc => bif Nat.ble pc 1666 then ((fun pc => bif Nat.ble pc 1663 then (bif Nat.ble pc 1662 then (bif Nat.beq pc 1662 then some (.iadd, 1, 1663, [], 0) else none)
  else (bif Nat.beq pc 1663 then some (.iaload, 1, 1664, [], 0) else none))
  else ((fun pc => bif Nat.ble pc 1664 then (bif Nat.beq pc 1664 then some (.aload_n 0, 1, 1665, [], 0) else none)
  else (bif Nat.ble pc 1665 then (bif Nat.beq pc 1665 then some (.iload_n 3, 1, 1666, [], 0) else none)
  else (bif Nat.beq pc 1666 then some (.iconst 2, 1, 1667, [], 2) else none))) : nk_F) pc) : nk_F) pc
  else ((fun pc => bif Nat.ble pc 1669 then ((fun pc => bif Nat.ble pc 1667 then (bif Nat.beq pc 1667 then some (.iadd, 1, 1668, [], 0) else none)
  else (bif Nat.ble pc 1668 then (bif Nat.beq pc 1668 then some (.iaload, 1, 1669, [], 0) else none)
  else (bif Nat.beq pc 1669 then some (.invokevirtual 155, 3, 1672, [], 0) else none))) : nk_F) pc
  else ((fun pc => bif Nat.ble pc 1672 then (bif Nat.beq pc 1672 then some (.pop, 1, 1673, [], 0) else none)
  else (bif Nat.ble pc 1673 then (bif Nat.beq pc 1673 then some (.aload_n 2, 1, 1674, [], 0) else none)
  else (bif Nat.beq pc 1674 then some (.aload_n 0, 1, 1675, [], 0) else none))) : nk_F) pc) : nk_F) pc) : nk_F) pc) : nk_F) pc) : nk_F) pc) : nk_F) pc
  else ((fun pc => bif Nat.ble pc 1740 then ((fun pc => bif Nat.ble pc 1705 then ((fun pc => bif Nat.ble pc 1684 then ((fun pc => bif Nat.ble pc 1679 then ((fun pc => bif Nat.ble pc 1676 then (bif Nat.ble pc 1675 then (bif Nat.beq pc 1675 then some (.iload_n 3, 1, 1676, [], 0) else none)
  else (bif Nat.beq pc 1676 then some (.iconst 1, 1, 1677, [], 1) else none))
  else ((fun pc => bif Nat.ble pc 1677 then (bif Nat.beq pc 1677 then some (.iadd, 1, 1678, [], 0) else none)
  else (bif Nat.ble pc 1678 then (bif Nat.beq pc 1678 then some (.iaload, 1, 1679, [], 0) else none)
  else (bif Nat.beq pc 1679 then some (.aload_n 0, 1, 1680, [], 0) else none))) : nk_F) pc) : nk_F) pc
  else ((fun pc => bif Nat.ble pc 1681 then (bif Nat.ble pc 1680 then (bif Nat.beq pc 1680 then some (.iload_n 3, 1, 1681, [], 0) else none)
  else (bif Nat.beq pc 1681 then some (.iconst 2, 1, 1682, [], 2) else none))
  else ((fun pc => bif Nat.ble pc 1682 then (bif Nat.beq pc 1682 then some (.iadd, 1, 1683, [], 0) else none)
  else (bif Nat.ble pc 1683 then (bif Nat.beq pc 1683 then some (.iaload, 1, 1684, [], 0) else none)
  else (bif Nat.beq pc 1684 then some (.invokevirtual 158, 3, 1687, [], 0) else none))) : nk_F) pc) : nk_F) pc) : nk_F) pc
  else ((fun pc => bif Nat.ble pc 1695 then ((fun pc => bif Nat.ble pc 1688 then (bif Nat.ble pc 1687 then (bif Nat.beq pc 1687 then some (.pop, 1, 1688, [], 0) else none)
  else (bif Nat.beq pc 1688 then some (.goto 114, 3, 1691, [1802], 0) else none))
  else ((fun pc => bif Nat.ble pc 1691 then (bif Nat.beq pc 1691 then some (.aload_n 1, 1, 1692, [], 0) else none)
  else (bif Nat.ble pc 1692 then (bif Nat.beq pc 1692 then some (.invokevirtual 159, 3, 1695, [], 0) else none)
  else (bif Nat.beq pc 1695 then some (.pop, 1, 1696, [], 0) else none))) : nk_F) pc) : nk_F) pc
  else ((fun pc => bif Nat.ble pc 1700 then ((fun pc => bif Nat.ble pc 1696 then (bif Nat.beq pc 1696 then some (.aload_n 2, 1, 1697, [], 0) else none)
  else (bif Nat.ble pc 1697 then (bif Nat.beq pc 1697 then some (.invokevirtual 163, 3, 1700, [], 0) else none)
  else (bif Nat.beq pc 1700 then some (.pop, 1, 1701, [], 0) else none))) : nk_F) pc
  else ((fun pc => bif Nat.ble pc 1701 then (bif Nat.beq pc 1701 then some (.goto 101, 3, 1704, [1802], 0) else none)
  else (bif Nat.ble pc 1704 then (bif Nat.beq pc 1704 then some (.aload_n 1, 1, 1705, [], 0) else none)
  else (bif Nat.beq pc 1705 then some (.invokevirtual 164, 3, 1708, [], 0) else none))) : nk_F) pc) : nk_F) pc) : nk_F) pc) : nk_F) pc
  else ((fun pc => bif Nat.ble pc 1723 then ((fun pc => bif Nat.ble pc 1714 then ((fun pc => bif Nat.ble pc 1709 then (bif Nat.ble pc 1708 then (bif Nat.beq pc 1708 then some (.pop2, 1, 1709, [], 0) else none)
  else (bif Nat.beq pc 1709 then some (.aload_n 2, 1, 1710, [], 0) else none))
  else ((fun pc => bif Nat.ble pc 1710 then (bif Nat.beq pc 1710 then some (.invokevirtual 168, 3, 1713, [], 0) else none)
  else (bif Nat.ble pc 1713 then (bif Nat.beq pc 1713 then some (.pop2, 1, 1714, [], 0) else none)
  else (bif Nat.beq pc 1714 then some (.goto 88, 3, 1717, [1802], 0) else none))) : nk_F) pc) : nk_F) pc
  else ((fun pc => bif Nat.ble pc 1718 then (bif Nat.ble pc 1717 then (bif Nat.beq pc 1717 then some (.aload_n 1, 1, 1718, [], 0) else none)
  else (bif Nat.beq pc 1718 then some (.invokevirtual 169, 3, 1721, [], 0) else none))
  else ((fun pc => bif Nat.ble pc 1721 then (bif Nat.beq pc 1721 then some (.pop2, 1, 1722, [], 0) else none)
  else (bif Nat.ble pc 1722 then (bif Nat.beq pc 1722 then some (.aload_n 2, 1, 1723, [], 0) else none)
  else (bif Nat.beq pc 1723 then some (.invokevirtual 172, 3, 1726, [], 0) else none))) : nk_F) pc) : nk_F) pc) : nk_F) pc
  else ((fun pc => bif Nat.ble pc 1732 then ((fun pc => bif Nat.ble pc 1727 then (bif Nat.ble pc 1726 then (bif Nat.beq pc 1726 then some (.pop2, 1, 1727, [], 0) else none)
  else (bif Nat.beq pc 1727 then some (.goto 75, 3, 1730, [1802], 0) else none))
  else ((fun pc => bif Nat.ble pc 1730 then (bif Nat.beq pc 1730 then some (.aload_n 1, 1, 1731, [], 0) else none)
  else (bif Nat.ble pc 1731 then (bif Nat.beq pc 1731 then some (.aload_n 0, 1, 1732, [], 0) else none)
  else (bif Nat.beq pc 1732 then some (.iload_n 3, 1, 1733, [], 0) else none))) : nk_F) pc) : nk_F) pc
  else ((fun pc => bif Nat.ble pc 1735 then ((fun pc => bif Nat.ble pc 1733 then (bif Nat.beq pc 1733 then some (.iconst 1, 1, 1734, [], 1) else none)
  else (bif Nat.ble pc 1734 then (bif Nat.beq pc 1734 then some (.iadd, 1, 1735, [], 0) else none)
  else (bif Nat.beq pc 1735 then some (.iaload, 1, 1736, [], 0) else none))) : nk_F) pc
  else ((fun pc => bif Nat.ble pc 1736 then (bif Nat.beq pc 1736 then some (.invokevirtual 173, 3, 1739, [], 0) else none)
  else (bif Nat.ble pc 1739 then (bif Nat.beq pc 1739 then some (.pop, 1, 1740, [], 0) else none)
  else (bif Nat.beq pc 1740 then some (.aload_n 2, 1, 1741, [], 0) else none))) : nk_F) pc) : nk_F) pc) : nk_F) pc) : nk_F) pc) : nk_F) pc
  else ((fun pc => bif Nat.ble pc 1771 then ((fun pc => bif Nat.ble pc 1754 then ((fun pc => bif Nat.ble pc 1745 then ((fun pc => bif Nat.ble pc 1742 then (bif Nat.ble pc 1741 then (bif Nat.beq pc 1741 then some (.aload_n 0, 1, 1742, [], 0) else none)
  else (bif Nat.beq pc 1742 then some (.iload_n 3, 1, 1743, [], 0) else none))
  else ((fun pc => bif Nat.ble pc 1743 then (bif Nat.beq pc 1743 then some (.iconst 1, 1, 1744, [], 1) else none)
  else (bif Nat.ble pc 1744 then (bif Nat.beq pc 1744 then some (.iadd, 1, 1745, [], 0) else none)
  else (bif Nat.beq pc 1745 then some (.iaload, 1, 1746, [], 0) else none))) : nk_F) pc) : nk_F) pc
  else ((fun pc => bif Nat.ble pc 1749 then (bif Nat.ble pc 1746 then (bif Nat.beq pc 1746 then some (.invokevirtual 176, 3, 1749, [], 0) else none)
  else (bif Nat.beq pc 1749 then some (.pop, 1, 1750, [], 0) else none))
  else ((fun pc => bif Nat.ble pc 1750 then (bif Nat.beq pc 1750 then some (.goto 52, 3, 1753, [1802], 0) else none)
  else (bif Nat.ble pc 1753 then (bif Nat.beq pc 1753 then some (.aload_n 1, 1, 1754, [], 0) else none)
  else (bif Nat.beq pc 1754 then some (.invokevirtual 177, 3, 1757, [], 0) else none))) : nk_F) pc) : nk_F) pc) : nk_F) pc
  else ((fun pc => bif Nat.ble pc 1763 then ((fun pc => bif Nat.ble pc 1758 then (bif Nat.ble pc 1757 then (bif Nat.beq pc 1757 then some (.pop, 1, 1758, [], 0) else none)
  else (bif Nat.beq pc 1758 then some (.aload_n 2, 1, 1759, [], 0) else none))
  else ((fun pc => bif Nat.ble pc 1759 then (bif Nat.beq pc 1759 then some (.invokevirtual 180, 3, 1762, [], 0) else none)
  else (bif Nat.ble pc 1762 then (bif Nat.beq pc 1762 then some (.pop, 1, 1763, [], 0) else none)
  else (bif Nat.beq pc 1763 then some (.goto 39, 3, 1766, [1802], 0) else none))) : nk_F) pc) : nk_F) pc
  else ((fun pc => bif Nat.ble pc 1768 then ((fun pc => bif Nat.ble pc 1766 then (bif Nat.beq pc 1766 then some (.aload_n 1, 1, 1767, [], 0) else none)
  else (bif Nat.ble pc 1767 then (bif Nat.beq pc 1767 then some (.aload_n 0, 1, 1768, [], 0) else none)
  else (bif Nat.beq pc 1768 then some (.iload_n 3, 1, 1769, [], 0) else none))) : nk_F) pc
  else ((fun pc => bif Nat.ble pc 1769 then (bif Nat.beq pc 1769 then some (.iconst 1, 1, 1770, [], 1) else none)
  else (bif Nat.ble pc 1770 then (bif Nat.beq pc 1770 then some (.iadd, 1, 1771, [], 0) else none)
  else (bif Nat.beq pc 1771 then some (.iaload, 1, 1772, [], 0) else none))) : nk_F) pc) : nk_F) pc) : nk_F) pc) : nk_F) pc
  else ((fun pc => bif Nat.ble pc 1786 then ((fun pc => bif Nat.ble pc 1778 then ((fun pc => bif Nat.ble pc 1775 then (bif Nat.ble pc 1772 then (bif Nat.beq pc 1772 then some (.invokevirtual 181, 3, 1775, [], 0) else none)
  else (bif Nat.beq pc 1775 then some (.pop, 1, 1776, [], 0) else none))
  else ((fun pc => bif Nat.ble pc 1776 then (bif Nat.beq pc 1776 then some (.aload_n 2, 1, 1777, [], 0) else none)
  else (bif Nat.ble pc 1777 then (bif Nat.beq pc 1777 then some (.aload_n 0, 1, 1778, [], 0) else none)
  else (bif Nat.beq pc 1778 then some (.iload_n 3, 1, 1779, [], 0) else none))) : nk_F) pc) : nk_F) pc
  else ((fun pc => bif Nat.ble pc 1781 then ((fun pc => bif Nat.ble pc 1779 then (bif Nat.beq pc 1779 then some (.iconst 1, 1, 1780, [], 1) else none)
  else (bif Nat.ble pc 1780 then (bif Nat.beq pc 1780 then some (.iadd, 1, 1781, [], 0) else none)
  else (bif Nat.beq pc 1781 then some (.iaload, 1, 1782, [], 0) else none))) : nk_F) pc
  else ((fun pc => bif Nat.ble pc 1782 then (bif Nat.beq pc 1782 then some (.invokevirtual 184, 3, 1785, [], 0) else none)
  else (bif Nat.ble pc 1785 then (bif Nat.beq pc 1785 then some (.pop, 1, 1786, [], 0) else none)
  else (bif Nat.beq pc 1786 then some (.goto 16, 3, 1789, [1802], 0) else none))) : nk_F) pc) : nk_F) pc) : nk_F) pc
  else ((fun pc => bif Nat.ble pc 1795 then ((fun pc => bif Nat.ble pc 1790 then (bif Nat.ble pc 1789 then (bif Nat.beq pc 1789 then some (.aload_n 1, 1, 1790, [], 0) else none)
  else (bif Nat.beq pc 1790 then some (.invokevirtual 185, 3, 1793, [], 0) else none))
  else ((fun pc => bif Nat.ble pc 1793 then (bif Nat.beq pc 1793 then some (.pop2, 1, 1794, [], 0) else none)
  else (bif Nat.ble pc 1794 then (bif Nat.beq pc 1794 then some (.aload_n 2, 1, 1795, [], 0) else none)
  else (bif Nat.beq pc 1795 then some (.invokevirtual 188, 3, 1798, [], 0) else none))) : nk_F) pc) : nk_F) pc
  else ((fun pc => bif Nat.ble pc 1802 then ((fun pc => bif Nat.ble pc 1798 then (bif Nat.beq pc 1798 then some (.pop2, 1, 1799, [], 0) else none)
  else (bif Nat.ble pc 1799 then (bif Nat.beq pc 1799 then some (.goto 3, 3, 1802, [1802], 0) else none)
  else (bif Nat.beq pc 1802 then some (.iinc 3 8, 3, 1805, [], 8) else none))) : nk_F) pc
  else ((fun pc => bif Nat.ble pc 1805 then (bif Nat.beq pc 1805 then some (.goto (-1787), 3, 1808, [18], 0) else none)
  else (bif Nat.ble pc 1808 then (bif Nat.beq pc 1808 then some (.iconst 1, 1, 1809, [], 1) else none)
  else (bif Nat.beq pc 1809 then some (.ireturn, 1, 1810, [], 0) else none))) : nk_F) pc) : nk_F) pc) : nk_F) pc) : nk_F) pc) : nk_F) pc) : nk_F) pc) : nk_F) pc) : nk_F) pc) : nk_F) pc
noncomputable def kc_L : Nat → Option nk_I := nk_top 1810 kt_L
set_option maxRecDepth 1000000 in
theorem ck_L : nk_chk code kc_L 1810 = true := nd_chk (by decide +kernel) (by decide +kernel)
