theorem dL_law_1313 : decode cL_law 1313 = .ok (.aload_n 1, 1) := by decide +kernel
theorem dL_law_1314 : decode cL_law 1314 = .ok (.aload_n 0, 1) := by decide +kernel
theorem dL_law_1315 : decode cL_law 1315 = .ok (.iload 4, 2) := by decide +kernel
theorem dL_law_1317 : decode cL_law 1317 = .ok (.iconst 1, 1) := by decide +kernel
theorem dL_law_1318 : decode cL_law 1318 = .ok (.iadd, 1) := by decide +kernel
theorem dL_law_1319 : decode cL_law 1319 = .ok (.iaload, 1) := by decide +kernel
theorem dL_law_1320 : decode cL_law 1320 = .ok (.aload_n 3, 1) := by decide +kernel
set_option maxRecDepth 20000 in
theorem ggL_law_L_reach : GoodIn wsL_law wsL_reach := goodIn_ca (goodIn_r _ [654, 101, 655, 656, 657, 2, 658, 24, 194, 195, 196, 197, 110, 111, 16, 324, 325, 326, 23, 327, 43, 38, 39, 328, 329, 330, 331, 37, 36, 332, 333, 334, 42, 335, 49, 50, 51, 336, 337, 338, 339, 48, 154, 155, 340, 203, 204, 126, 205, 139, 341, 342, 343, 344, 140, 345, 346, 347, 348, 349, 350, 351, 352, 353, 354, 355, 356, 34, 357, 358, 359, 360, 33, 361, 362, 363, 364, 365, 366, 367, 368, 369, 370, 371, 372, 373, 374, 375, 376, 377, 378, 379, 380, 381, 382, 383, 384, 385, 386, 387, 388, 389, 390, 391, 392, 393, 394, 395, 396, 397, 52, 659, 660, 661, 662, 854, 855, 856, 857, 858, 859, 860, 915, 916, 917, 918, 919, 920, 899, 900, 901, 902, 903, 904, 905, 910, 911, 912, 913, 914, 921, 922, 923] (by decide +kernel) (by decide +kernel)) (goodIn_sub (fun _ h => List.mem_append_left _ (List.mem_append_left _ (List.mem_append_right _ h))) (by decide +kernel))
set_option maxRecDepth 20000 in
theorem gL_law_L_reach : GoodIn wsL_law (va_wsS RL 184 yL_reach wsL_reach) := goodIn_app (goodIn_of _ (by decide +kernel)) ggL_law_L_reach
theorem dL_law_1321 : decode cL_law 1321 = .ok (.invokestatic 184, 3) := by decide +kernel
theorem dL_law_1324 : decode cL_law 1324 = .ok (.istore 5, 2) := by decide +kernel
theorem dL_law_1326 : decode cL_law 1326 = .ok (.aload_n 2, 1) := by decide +kernel
theorem dL_law_1327 : decode cL_law 1327 = .ok (.aload_n 0, 1) := by decide +kernel
theorem dL_law_1328 : decode cL_law 1328 = .ok (.iload 4, 2) := by decide +kernel
theorem dL_law_1330 : decode cL_law 1330 = .ok (.iconst 1, 1) := by decide +kernel
theorem dL_law_1331 : decode cL_law 1331 = .ok (.iadd, 1) := by decide +kernel
theorem dL_law_1332 : decode cL_law 1332 = .ok (.iaload, 1) := by decide +kernel
set_option maxRecDepth 20000 in
theorem ggL_law_X8_reach : GoodIn wsL_law wsX8_reach := goodIn_r _ [666, 164, 70, 96, 234, 235, 236, 5, 237, 165, 169, 170, 171, 172, 173, 174, 175, 427, 428, 429, 430, 431, 92, 80, 69, 93, 432, 433, 434, 435, 95, 436, 94, 437, 438, 439, 440, 441, 442, 443, 444, 445, 446, 447, 448, 449, 450, 451, 452, 453, 454, 455, 67, 456, 457, 458, 459, 861, 862, 863, 864, 865, 866, 867, 868, 869, 870, 871, 872, 873, 874, 875, 876, 877, 878, 879, 880, 881, 882, 883, 884, 885, 886, 887, 888, 889, 890, 891, 892, 893, 894, 895, 896, 897, 898] (by decide +kernel) (by decide +kernel)
set_option maxRecDepth 20000 in
theorem gL_law_X8_reach : GoodIn wsL_law (wsV RL 186 RX8 yX8_reach wsX8_reach) := goodIn_app (goodIn_of _ (by decide +kernel)) ggL_law_X8_reach
theorem dL_law_1333 : decode cL_law 1333 = .ok (.invokevirtual 186, 3) := by decide +kernel
theorem dL_law_1336 : decode cL_law 1336 = .ok (.istore 6, 2) := by decide +kernel
theorem dL_law_1338 : decode cL_law 1338 = .ok (.aload_n 2, 1) := by decide +kernel
theorem dL_law_1339 : decode cL_law 1339 = .ok (.invokevirtual 125, 3) := by decide +kernel
theorem dL_law_1342 : decode cL_law 1342 = .ok (.iload 5, 2) := by decide +kernel
theorem dL_law_1344 : decode cL_law 1344 = .ok (.if_icmp .eq 5, 3) := by decide +kernel
theorem dL_law_1349 : decode cL_law 1349 = .ok (.iload 5, 2) := by decide +kernel
theorem dL_law_1351 : decode cL_law 1351 = .ok (.ifCond .ne 15, 3) := by decide +kernel
theorem dL_law_1366 : decode cL_law 1366 = .ok (.goto 800, 3) := by decide +kernel
theorem dL_law_1354 : decode cL_law 1354 = .ok (.aload_n 3, 1) := by decide +kernel
theorem dL_law_1355 : decode cL_law 1355 = .ok (.iconst 0, 1) := by decide +kernel
theorem dL_law_1356 : decode cL_law 1356 = .ok (.laload, 1) := by decide +kernel
theorem dL_law_1357 : decode cL_law 1357 = .ok (.iload 6, 2) := by decide +kernel
theorem dL_law_1359 : decode cL_law 1359 = .ok (.i2l, 1) := by decide +kernel
theorem dL_law_1360 : decode cL_law 1360 = .ok (.lcmp, 1) := by decide +kernel
theorem dL_law_1361 : decode cL_law 1361 = .ok (.ifCond .eq 5, 3) := by decide +kernel
theorem dL_law_1369 : decode cL_law 1369 = .ok (.aload_n 1, 1) := by decide +kernel
theorem dL_law_1370 : decode cL_law 1370 = .ok (.aload_n 0, 1) := by decide +kernel
theorem dL_law_1371 : decode cL_law 1371 = .ok (.iload 4, 2) := by decide +kernel
theorem dL_law_1373 : decode cL_law 1373 = .ok (.iconst 1, 1) := by decide +kernel
theorem dL_law_1374 : decode cL_law 1374 = .ok (.iadd, 1) := by decide +kernel
theorem dL_law_1375 : decode cL_law 1375 = .ok (.iaload, 1) := by decide +kernel
theorem dL_law_1376 : decode cL_law 1376 = .ok (.aload_n 3, 1) := by decide +kernel
set_option maxRecDepth 20000 in
theorem ggL_law_L_farthest : GoodIn wsL_law wsL_farthest := goodIn_ca (goodIn_r _ [669, 101, 670, 671, 672, 2, 673, 24, 194, 195, 196, 197, 110, 111, 16, 324, 325, 326, 23, 327, 43, 38, 39, 328, 329, 330, 331, 37, 36, 332, 333, 334, 42, 335, 49, 50, 51, 336, 337, 338, 339, 48, 154, 155, 340, 203, 204, 126, 205, 139, 341, 342, 343, 344, 140, 345, 346, 347, 348, 349, 350, 351, 352, 353, 354, 355, 356, 34, 357, 358, 359, 360, 33, 361, 362, 363, 364, 365, 366, 367, 368, 369, 370, 371, 372, 373, 374, 375, 376, 377, 378, 379, 380, 381, 382, 383, 384, 385, 386, 387, 388, 389, 390, 391, 392, 393, 394, 395, 396, 397, 52, 674, 675, 676, 677, 854, 855, 856, 857, 858, 859, 860, 915, 916, 917, 918, 919, 920, 899, 900, 901, 902, 903, 904, 905, 910, 911, 912, 913, 914, 921, 922, 923] (by decide +kernel) (by decide +kernel)) (goodIn_sub (fun _ h => List.mem_append_left _ (List.mem_append_left _ (List.mem_append_right _ h))) (by decide +kernel))
set_option maxRecDepth 20000 in
theorem gL_law_L_farthest : GoodIn wsL_law (va_wsS RL 187 yL_farthest wsL_farthest) := goodIn_app (goodIn_of _ (by decide +kernel)) ggL_law_L_farthest
theorem dL_law_1377 : decode cL_law 1377 = .ok (.invokestatic 187, 3) := by decide +kernel
theorem dL_law_1380 : decode cL_law 1380 = .ok (.istore 5, 2) := by decide +kernel
theorem dL_law_1382 : decode cL_law 1382 = .ok (.aload_n 2, 1) := by decide +kernel
theorem dL_law_1383 : decode cL_law 1383 = .ok (.aload_n 0, 1) := by decide +kernel
theorem dL_law_1384 : decode cL_law 1384 = .ok (.iload 4, 2) := by decide +kernel
theorem dL_law_1386 : decode cL_law 1386 = .ok (.iconst 1, 1) := by decide +kernel
theorem dL_law_1387 : decode cL_law 1387 = .ok (.iadd, 1) := by decide +kernel
theorem dL_law_1388 : decode cL_law 1388 = .ok (.iaload, 1) := by decide +kernel
set_option maxRecDepth 20000 in
theorem ggL_law_X8_farthest : GoodIn wsL_law wsX8_farthest := goodIn_r _ [681, 164, 70, 96, 234, 235, 236, 5, 237, 165, 169, 170, 171, 172, 173, 174, 175, 427, 428, 429, 430, 431, 92, 80, 69, 93, 432, 433, 434, 435, 95, 436, 94, 437, 438, 439, 440, 441, 442, 443, 444, 445, 446, 447, 448, 449, 450, 451, 452, 453, 454, 455, 67, 456, 457, 458, 459, 861, 862, 863, 864, 865, 866, 867, 868, 869, 870, 871, 872, 873, 874, 875, 876, 877, 878, 879, 880, 881, 882, 883, 884, 885, 886, 887, 888, 889, 890, 891, 892, 893, 894, 895, 896, 897, 898] (by decide +kernel) (by decide +kernel)
set_option maxRecDepth 20000 in
theorem gL_law_X8_farthest : GoodIn wsL_law (wsV RL 189 RX8 yX8_farthest wsX8_farthest) := goodIn_app (goodIn_of _ (by decide +kernel)) ggL_law_X8_farthest
theorem dL_law_1389 : decode cL_law 1389 = .ok (.invokevirtual 189, 3) := by decide +kernel
theorem dL_law_1392 : decode cL_law 1392 = .ok (.istore 6, 2) := by decide +kernel
theorem dL_law_1394 : decode cL_law 1394 = .ok (.aload_n 2, 1) := by decide +kernel
theorem dL_law_1395 : decode cL_law 1395 = .ok (.invokevirtual 125, 3) := by decide +kernel
theorem dL_law_1398 : decode cL_law 1398 = .ok (.iload 5, 2) := by decide +kernel
theorem dL_law_1400 : decode cL_law 1400 = .ok (.if_icmp .eq 5, 3) := by decide +kernel
theorem dL_law_1405 : decode cL_law 1405 = .ok (.iload 5, 2) := by decide +kernel
theorem dL_law_1407 : decode cL_law 1407 = .ok (.ifCond .ne 15, 3) := by decide +kernel
theorem dL_law_1422 : decode cL_law 1422 = .ok (.goto 744, 3) := by decide +kernel
theorem dL_law_1410 : decode cL_law 1410 = .ok (.aload_n 3, 1) := by decide +kernel
theorem dL_law_1411 : decode cL_law 1411 = .ok (.iconst 0, 1) := by decide +kernel
theorem dL_law_1412 : decode cL_law 1412 = .ok (.laload, 1) := by decide +kernel
theorem dL_law_1413 : decode cL_law 1413 = .ok (.iload 6, 2) := by decide +kernel
theorem dL_law_1415 : decode cL_law 1415 = .ok (.i2l, 1) := by decide +kernel
theorem dL_law_1416 : decode cL_law 1416 = .ok (.lcmp, 1) := by decide +kernel
theorem dL_law_1417 : decode cL_law 1417 = .ok (.ifCond .eq 5, 3) := by decide +kernel
theorem dL_law_1425 : decode cL_law 1425 = .ok (.aload_n 1, 1) := by decide +kernel
theorem dL_law_1426 : decode cL_law 1426 = .ok (.aload_n 0, 1) := by decide +kernel
theorem dL_law_1427 : decode cL_law 1427 = .ok (.iload 4, 2) := by decide +kernel
theorem dL_law_1429 : decode cL_law 1429 = .ok (.iconst 1, 1) := by decide +kernel
theorem dL_law_1430 : decode cL_law 1430 = .ok (.iadd, 1) := by decide +kernel
theorem dL_law_1431 : decode cL_law 1431 = .ok (.iaload, 1) := by decide +kernel
theorem dL_law_1432 : decode cL_law 1432 = .ok (.aload_n 3, 1) := by decide +kernel
set_option maxRecDepth 20000 in
theorem ggL_law_L_strength : GoodIn wsL_law wsL_strength := goodIn_ca (goodIn_r _ [684, 101, 685, 686, 687, 2, 688, 14, 313, 314, 315, 110, 111, 854, 855, 856, 857, 858, 859, 860] (by decide +kernel) (by decide +kernel)) (goodIn_sub (fun _ h => List.mem_append_left _ (List.mem_append_left _ (List.mem_append_right _ h))) (by decide +kernel))
set_option maxRecDepth 20000 in
theorem gL_law_L_strength : GoodIn wsL_law (va_wsS RL 190 yL_strength wsL_strength) := goodIn_app (goodIn_of _ (by decide +kernel)) ggL_law_L_strength
theorem dL_law_1433 : decode cL_law 1433 = .ok (.invokestatic 190, 3) := by decide +kernel
theorem dL_law_1436 : decode cL_law 1436 = .ok (.istore 5, 2) := by decide +kernel
theorem dL_law_1438 : decode cL_law 1438 = .ok (.aload_n 2, 1) := by decide +kernel
theorem dL_law_1439 : decode cL_law 1439 = .ok (.aload_n 0, 1) := by decide +kernel
theorem dL_law_1440 : decode cL_law 1440 = .ok (.iload 4, 2) := by decide +kernel
theorem dL_law_1442 : decode cL_law 1442 = .ok (.iconst 1, 1) := by decide +kernel
theorem dL_law_1443 : decode cL_law 1443 = .ok (.iadd, 1) := by decide +kernel
theorem dL_law_1444 : decode cL_law 1444 = .ok (.iaload, 1) := by decide +kernel
set_option maxRecDepth 20000 in
theorem ggL_law_X8_strength : GoodIn wsL_law wsX8_strength := goodIn_r _ [692, 164, 67, 169, 170, 5, 171, 172, 173, 174, 175, 861, 862, 863, 864, 865, 866, 867, 868, 869, 870, 871, 872, 873, 874, 875, 876, 877, 878, 879, 880, 881, 882, 883, 884, 885, 886, 887, 888, 889, 890, 891, 892, 893, 894, 895, 896, 897, 898] (by decide +kernel) (by decide +kernel)
set_option maxRecDepth 20000 in
theorem gL_law_X8_strength : GoodIn wsL_law (wsV RL 192 RX8 yX8_strength wsX8_strength) := goodIn_app (goodIn_of _ (by decide +kernel)) ggL_law_X8_strength
theorem dL_law_1445 : decode cL_law 1445 = .ok (.invokevirtual 192, 3) := by decide +kernel
theorem dL_law_1448 : decode cL_law 1448 = .ok (.istore 6, 2) := by decide +kernel
theorem dL_law_1450 : decode cL_law 1450 = .ok (.aload_n 2, 1) := by decide +kernel
theorem dL_law_1451 : decode cL_law 1451 = .ok (.invokevirtual 125, 3) := by decide +kernel
theorem dL_law_1454 : decode cL_law 1454 = .ok (.iload 5, 2) := by decide +kernel
theorem dL_law_1456 : decode cL_law 1456 = .ok (.if_icmp .eq 5, 3) := by decide +kernel
theorem dL_law_1461 : decode cL_law 1461 = .ok (.iload 5, 2) := by decide +kernel
theorem dL_law_1463 : decode cL_law 1463 = .ok (.ifCond .ne 15, 3) := by decide +kernel
theorem dL_law_1478 : decode cL_law 1478 = .ok (.goto 688, 3) := by decide +kernel
theorem dL_law_1466 : decode cL_law 1466 = .ok (.aload_n 3, 1) := by decide +kernel
theorem dL_law_1467 : decode cL_law 1467 = .ok (.iconst 0, 1) := by decide +kernel
theorem dL_law_1468 : decode cL_law 1468 = .ok (.laload, 1) := by decide +kernel
theorem dL_law_1469 : decode cL_law 1469 = .ok (.iload 6, 2) := by decide +kernel
theorem dL_law_1471 : decode cL_law 1471 = .ok (.i2l, 1) := by decide +kernel
theorem dL_law_1472 : decode cL_law 1472 = .ok (.lcmp, 1) := by decide +kernel
theorem dL_law_1473 : decode cL_law 1473 = .ok (.ifCond .eq 5, 3) := by decide +kernel
theorem dL_law_1481 : decode cL_law 1481 = .ok (.aload_n 1, 1) := by decide +kernel
set_option maxRecDepth 20000 in
theorem ggL_law_X7_works : GoodIn wsL_law wsX7_works := goodIn_r _ [696, 26, 854, 855, 856, 857, 858, 859, 860] (by decide +kernel) (by decide +kernel)
set_option maxRecDepth 20000 in
theorem gL_law_X7_works : GoodIn wsL_law (wsV RL 193 RX7 yX7_works wsX7_works) := goodIn_app (goodIn_of _ (by decide +kernel)) ggL_law_X7_works
theorem dL_law_1482 : decode cL_law 1482 = .ok (.invokevirtual 193, 3) := by decide +kernel
theorem dL_law_1485 : decode cL_law 1485 = .ok (.aload_n 2, 1) := by decide +kernel
set_option maxRecDepth 20000 in
theorem ggL_law_X8_works : GoodIn wsL_law wsX8_works := goodIn_r _ [700, 164, 414, 861, 862, 863, 864, 865, 866, 867, 868, 869, 870, 871, 872, 873, 874, 875, 876, 877, 878, 879, 880, 881, 882, 883, 884, 885, 886, 887, 888, 889, 890, 891, 892, 893, 894, 895, 896, 897, 898] (by decide +kernel) (by decide +kernel)
set_option maxRecDepth 20000 in
theorem gL_law_X8_works : GoodIn wsL_law (wsV RL 196 RX8 yX8_works wsX8_works) := goodIn_app (goodIn_of _ (by decide +kernel)) ggL_law_X8_works
theorem dL_law_1486 : decode cL_law 1486 = .ok (.invokevirtual 196, 3) := by decide +kernel
theorem dL_law_1489 : decode cL_law 1489 = .ok (.if_icmp .eq 677, 3) := by decide +kernel
theorem dL_law_1494 : decode cL_law 1494 = .ok (.aload_n 1, 1) := by decide +kernel
theorem dL_law_1495 : decode cL_law 1495 = .ok (.aload_n 0, 1) := by decide +kernel
theorem dL_law_1496 : decode cL_law 1496 = .ok (.iload 4, 2) := by decide +kernel
theorem dL_law_1498 : decode cL_law 1498 = .ok (.iconst 1, 1) := by decide +kernel
theorem dL_law_1499 : decode cL_law 1499 = .ok (.iadd, 1) := by decide +kernel
theorem dL_law_1500 : decode cL_law 1500 = .ok (.iaload, 1) := by decide +kernel
theorem dL_law_1501 : decode cL_law 1501 = .ok (.aload_n 3, 1) := by decide +kernel
set_option maxRecDepth 20000 in
theorem ggL_law_L_author : GoodIn wsL_law wsL_author := goodIn_ca (goodIn_r _ [703, 101, 704, 705, 706, 2, 707, 316, 317, 318, 319, 110, 111, 18, 929, 930, 931, 932, 933, 934, 935, 936, 854, 855, 856, 857, 858, 859, 860] (by decide +kernel) (by decide +kernel)) (goodIn_sub (fun _ h => List.mem_append_left _ (List.mem_append_left _ (List.mem_append_right _ h))) (by decide +kernel))
set_option maxRecDepth 20000 in
theorem gL_law_L_author : GoodIn wsL_law (va_wsS RL 197 yL_author wsL_author) := goodIn_app (goodIn_of _ (by decide +kernel)) ggL_law_L_author
theorem dL_law_1502 : decode cL_law 1502 = .ok (.invokestatic 197, 3) := by decide +kernel
theorem dL_law_1505 : decode cL_law 1505 = .ok (.istore 5, 2) := by decide +kernel
theorem dL_law_1507 : decode cL_law 1507 = .ok (.aload_n 2, 1) := by decide +kernel
theorem dL_law_1508 : decode cL_law 1508 = .ok (.aload_n 0, 1) := by decide +kernel
theorem dL_law_1509 : decode cL_law 1509 = .ok (.iload 4, 2) := by decide +kernel
theorem dL_law_1511 : decode cL_law 1511 = .ok (.iconst 1, 1) := by decide +kernel
theorem dL_law_1512 : decode cL_law 1512 = .ok (.iadd, 1) := by decide +kernel
theorem dL_law_1513 : decode cL_law 1513 = .ok (.iaload, 1) := by decide +kernel
set_option maxRecDepth 20000 in
theorem ggL_law_X8_author : GoodIn wsL_law wsX8_author := goodIn_r _ [711, 164, 79, 518, 519, 520, 5, 521, 414, 169, 170, 171, 172, 173, 174, 175, 861, 862, 863, 864, 865, 866, 867, 868, 869, 870, 871, 872, 873, 874, 875, 876, 877, 878, 879, 880, 881, 882, 883, 884, 885, 886, 887, 888, 889, 890, 891, 892, 893, 894, 895, 896, 897, 898] (by decide +kernel) (by decide +kernel)
set_option maxRecDepth 20000 in
theorem gL_law_X8_author : GoodIn wsL_law (wsV RL 199 RX8 yX8_author wsX8_author) := goodIn_app (goodIn_of _ (by decide +kernel)) ggL_law_X8_author
theorem dL_law_1514 : decode cL_law 1514 = .ok (.invokevirtual 199, 3) := by decide +kernel
theorem dL_law_1517 : decode cL_law 1517 = .ok (.istore 6, 2) := by decide +kernel
theorem dL_law_1519 : decode cL_law 1519 = .ok (.aload_n 2, 1) := by decide +kernel
theorem dL_law_1520 : decode cL_law 1520 = .ok (.invokevirtual 125, 3) := by decide +kernel
theorem dL_law_1523 : decode cL_law 1523 = .ok (.iload 5, 2) := by decide +kernel
theorem dL_law_1525 : decode cL_law 1525 = .ok (.if_icmp .eq 5, 3) := by decide +kernel
theorem dL_law_1530 : decode cL_law 1530 = .ok (.iload 5, 2) := by decide +kernel
theorem dL_law_1532 : decode cL_law 1532 = .ok (.ifCond .ne 15, 3) := by decide +kernel
theorem dL_law_1547 : decode cL_law 1547 = .ok (.goto 619, 3) := by decide +kernel
theorem dL_law_1535 : decode cL_law 1535 = .ok (.aload_n 3, 1) := by decide +kernel
theorem dL_law_1536 : decode cL_law 1536 = .ok (.iconst 0, 1) := by decide +kernel
theorem dL_law_1537 : decode cL_law 1537 = .ok (.laload, 1) := by decide +kernel
theorem dL_law_1538 : decode cL_law 1538 = .ok (.iload 6, 2) := by decide +kernel
theorem dL_law_1540 : decode cL_law 1540 = .ok (.i2l, 1) := by decide +kernel
theorem dL_law_1541 : decode cL_law 1541 = .ok (.lcmp, 1) := by decide +kernel
theorem dL_law_1542 : decode cL_law 1542 = .ok (.ifCond .eq 5, 3) := by decide +kernel
theorem dL_law_1550 : decode cL_law 1550 = .ok (.aload_n 1, 1) := by decide +kernel
theorem dL_law_1551 : decode cL_law 1551 = .ok (.aload_n 0, 1) := by decide +kernel
theorem dL_law_1552 : decode cL_law 1552 = .ok (.iload 4, 2) := by decide +kernel
theorem dL_law_1554 : decode cL_law 1554 = .ok (.iconst 1, 1) := by decide +kernel
theorem dL_law_1555 : decode cL_law 1555 = .ok (.iadd, 1) := by decide +kernel
theorem dL_law_1556 : decode cL_law 1556 = .ok (.iaload, 1) := by decide +kernel
theorem dL_law_1557 : decode cL_law 1557 = .ok (.aload_n 3, 1) := by decide +kernel
set_option maxRecDepth 20000 in
theorem ggL_law_L_best : GoodIn wsL_law wsL_best := goodIn_ca (goodIn_r _ [714, 101, 715, 716, 717, 2, 718, 316, 317, 318, 319, 110, 111, 18, 929, 930, 931, 932, 933, 934, 935, 936, 854, 855, 856, 857, 858, 859, 860] (by decide +kernel) (by decide +kernel)) (goodIn_sub (fun _ h => List.mem_append_left _ (List.mem_append_left _ (List.mem_append_right _ h))) (by decide +kernel))
set_option maxRecDepth 20000 in
theorem gL_law_L_best : GoodIn wsL_law (va_wsS RL 200 yL_best wsL_best) := goodIn_app (goodIn_of _ (by decide +kernel)) ggL_law_L_best
theorem dL_law_1558 : decode cL_law 1558 = .ok (.invokestatic 200, 3) := by decide +kernel
theorem dL_law_1561 : decode cL_law 1561 = .ok (.istore 5, 2) := by decide +kernel
theorem dL_law_1563 : decode cL_law 1563 = .ok (.aload_n 2, 1) := by decide +kernel
theorem dL_law_1564 : decode cL_law 1564 = .ok (.aload_n 0, 1) := by decide +kernel
theorem dL_law_1565 : decode cL_law 1565 = .ok (.iload 4, 2) := by decide +kernel
theorem dL_law_1567 : decode cL_law 1567 = .ok (.iconst 1, 1) := by decide +kernel
theorem dL_law_1568 : decode cL_law 1568 = .ok (.iadd, 1) := by decide +kernel
theorem dL_law_1569 : decode cL_law 1569 = .ok (.iaload, 1) := by decide +kernel
set_option maxRecDepth 20000 in
theorem ggL_law_X8_best : GoodIn wsL_law wsX8_best := goodIn_r _ [722, 164, 82, 518, 519, 520, 5, 521, 414, 169, 170, 171, 172, 173, 174, 175, 861, 862, 863, 864, 865, 866, 867, 868, 869, 870, 871, 872, 873, 874, 875, 876, 877, 878, 879, 880, 881, 882, 883, 884, 885, 886, 887, 888, 889, 890, 891, 892, 893, 894, 895, 896, 897, 898] (by decide +kernel) (by decide +kernel)
set_option maxRecDepth 20000 in
theorem gL_law_X8_best : GoodIn wsL_law (wsV RL 202 RX8 yX8_best wsX8_best) := goodIn_app (goodIn_of _ (by decide +kernel)) ggL_law_X8_best
theorem dL_law_1570 : decode cL_law 1570 = .ok (.invokevirtual 202, 3) := by decide +kernel
theorem dL_law_1573 : decode cL_law 1573 = .ok (.istore 6, 2) := by decide +kernel
theorem dL_law_1575 : decode cL_law 1575 = .ok (.aload_n 2, 1) := by decide +kernel
theorem dL_law_1576 : decode cL_law 1576 = .ok (.invokevirtual 125, 3) := by decide +kernel
theorem dL_law_1579 : decode cL_law 1579 = .ok (.iload 5, 2) := by decide +kernel
theorem dL_law_1581 : decode cL_law 1581 = .ok (.if_icmp .eq 5, 3) := by decide +kernel
theorem dL_law_1586 : decode cL_law 1586 = .ok (.iload 5, 2) := by decide +kernel
theorem dL_law_1588 : decode cL_law 1588 = .ok (.ifCond .ne 15, 3) := by decide +kernel
theorem dL_law_1603 : decode cL_law 1603 = .ok (.goto 563, 3) := by decide +kernel
theorem dL_law_1591 : decode cL_law 1591 = .ok (.aload_n 3, 1) := by decide +kernel
theorem dL_law_1592 : decode cL_law 1592 = .ok (.iconst 0, 1) := by decide +kernel
theorem dL_law_1593 : decode cL_law 1593 = .ok (.laload, 1) := by decide +kernel
theorem dL_law_1594 : decode cL_law 1594 = .ok (.iload 6, 2) := by decide +kernel
theorem dL_law_1596 : decode cL_law 1596 = .ok (.i2l, 1) := by decide +kernel
theorem dL_law_1597 : decode cL_law 1597 = .ok (.lcmp, 1) := by decide +kernel
theorem dL_law_1598 : decode cL_law 1598 = .ok (.ifCond .eq 5, 3) := by decide +kernel

set_option maxRecDepth 100000 in
set_option maxHeartbeats 4000000 in
theorem lc_reach {κ : KX} {D : va_G} {A : Nat → Prop} {nm : String} (C : CX κ "LedgeLevelsLaw" nm cL_law wsL_law { frames := 12, cells := 601024, slots := 7293034, locals := 438 } D A 7) (kn : KN κ) {b x mm ao nS : Nat} {sc : Nat → Int} (xs0 : XS κ b nS sc) {h : vh} {t i n1 n2 : Nat} (hS : Sy D x mm ao h t) (ht : t < 512) (hi : i + 3 < nS) (hnS : nS ≤ 2048) (hsc : ∀ j, -2147483648 ≤ sc j ∧ sc j ≤ 2147483647) (hn : n1 + 500 ≤ 601024 ∧ n2 + 3000 ≤ 7293034) (K : ∀ h9, Sy D x mm ao h9 (t + 1) → X κ (n1 + 500) (n2 + 3000) h9 [(0, .ref b), (1, .ref x), (2, .ref mm), (3, .ref ao), (4, vI ((i : Nat) : Int))] 2166 []) : X κ n1 n2 h [(0, .ref b), (1, .ref x), (2, .ref mm), (3, .ref ao), (4, vI ((i : Nat) : Int))] 1313 [] := by
  obtain ⟨ad, c, L, W, am, m, fo, hR, hO, rfl, rfl, hC, hSi, hB⟩ := hS
  obtain ⟨p1, hp1⟩ : ∃ p9, p9 = sc (Int.toNat (((i : Nat) : Int) + 1)) := ⟨_, rfl⟩
  have hr1 : -2147483648 ≤ p1 ∧ p1 ≤ 2147483647 := by rw [hp1]; exact hsc _
  have hb3 := hB.2.2
  refine x_aload_n C dL_law_1313 1 rfl ?_
  refine x_aload_n C dL_law_1314 0 rfl ?_
  refine x_iload C dL_law_1315 4 rfl ?_
  refine x_iconst C dL_law_1317 1 (by decide) ?_
  refine x_iadd C dL_law_1318 ?_
  refine x_sld C xs0 ⟨by omega, by omega⟩ (by omega) dL_law_1319 ?_
  refine x_topv (show sc (Int.toNat (((i : Nat) : Int) + 1)) = p1 from hp1.symm) ?_
  refine x_aload_n C dL_law_1320 3 rfl ?_
  refine x_callSh C (n := 3) (As := [.ref (ad 0 0), vI p1, .ref ao]) (rest := []) (c_L_reach (ao := ao) (fo := fo) (c_X7_reach hR hC (hB.oks (by omega)) (by omega)) (hR.1 0 0 (lv0 (by decide))) (fun rv h9 hp => by obtain ⟨y0, rfl, hcp, _⟩ := hp; exact ⟨_, rfl, (hO.fr hcp.2).2.1⟩) (fun E h9 hx => by obtain ⟨_, hx⟩ := hx; rcases hx with ⟨rfl, q⟩ | ⟨rfl, q⟩ | ⟨rfl, q⟩ <;> first | exact q.elim | exact rfl | exact Or.inl rfl | exact Or.inr rfl | exact Or.inr (Or.inl rfl) | exact Or.inr (Or.inr rfl))) kn gL_law_L_reach (by decide +kernel) rfl rfl rfl (Nat.le_of_ble_eq_true rfl) ⟨by decide, by decide⟩ ⟨by dsimp only; omega, by dsimp only; omega⟩ dL_law_1321 (fun rv h1 hp => ?_)
  obtain ⟨k, ad1, c1, L1, W1, fo1, rfl, hk, hR1, hO1, hx1, hB1, hA⟩ := hr_reach hO rfl hR hC hSi hB rv h1 hp
  refine x_istore C (ls' := [(0, .ref b), (1, .ref (ad 0 0)), (2, .ref (am 0 0)), (3, .ref ao), (4, vI ((i : Nat) : Int))] ++ [(5, vI k)]) dL_law_1324 (by decide) rfl ?_
  refine x_aload_n C dL_law_1326 2 rfl ?_
  refine x_aload_n C dL_law_1327 0 rfl ?_
  refine x_iload C dL_law_1328 4 rfl ?_
  refine x_iconst C dL_law_1330 1 (by decide) ?_
  refine x_iadd C dL_law_1331 ?_
  refine x_sld C xs0 ⟨by omega, by omega⟩ (by omega) dL_law_1332 ?_
  refine x_topv (show sc (Int.toNat (((i : Nat) : Int) + 1)) = p1 from hp1.symm) ?_
  refine x_callV C (n := 1) (qc := (RX8, TX8, 38)) (As := [vI p1]) (rest := []) (c_X8_reach hO1.1 (hSi.mk1 hC) (by omega) (hSi.g4 hC) hSi.ke hSi.gk (hSi.ss hC) (hSi.bg hC)) gL_law_X8_reach (by decide +kernel) (hO1.1.1 0 0 (lm0 (by decide))) rfl rfl rfl rfl (Nat.le_of_ble_eq_true rfl) ⟨by decide, by decide⟩ ⟨by dsimp only; omega, by dsimp only; omega⟩ dL_law_1333 (fun rv2 h2 hp2 => ?_)
  obtain ⟨r, m1, rfl, hM, hPR⟩ := hp2
  obtain ⟨a1, a2, a3, a4⟩ := hA r m1 hPR
  obtain ⟨hR2, hO2⟩ := hO1.mp hR1 hM
  refine x_istore C (ls' := [(0, .ref b), (1, .ref (ad 0 0)), (2, .ref (am 0 0)), (3, .ref ao), (4, vI ((i : Nat) : Int))] ++ [(5, vI k), (6, vI r)]) dL_law_1336 (by decide) rfl ?_
  refine x_aload_n C dL_law_1338 2 rfl ?_
  refine x_callV C (n := 0) (qc := (RX8, TX8, 38)) (As := []) (rest := []) (c_X8_thrown hO2.1) gL_law_X8_thrown (by decide +kernel) (hO2.1.1 0 0 (lm0 (by decide))) rfl rfl rfl rfl (Nat.le_of_ble_eq_true rfl) ⟨by decide, by decide⟩ ⟨by dsimp only; omega, by dsimp only; omega⟩ dL_law_1339 (fun rv3 h3 hp3 => ?_)
  obtain ⟨rfl, rfl⟩ := hp3
  refine x_topv (show m1 0 0 0 = k from a1) ?_
  refine x_iload C dL_law_1342 5 rfl ?_
  refine x_icmp_eq (tgt := 1349) C dL_law_1344 (by decide) (by omega) (by omega) (fun _ => ?_) (fun z1 => absurd rfl z1)
  refine x_iload C dL_law_1349 5 rfl ?_
  refine x_if_ne (tgt := 1366) C dL_law_1351 (by decide) (by omega) (fun z1 => ?_) (fun z1 => ?_)
  · refine x_goto (tgt := 2166) C dL_law_1366 (by decide) ?_
    refine x_sub [0, 1, 2, 3, 4] (ls' := [(0, .ref b), (1, .ref (ad 0 0)), (2, .ref (am 0 0)), (3, .ref ao), (4, vI ((i : Nat) : Int))]) rfl ?_
    refine x_widen (m1 := n1 + 500) (m2 := n2 + 3000) (by dsimp only; omega) (by dsimp only; omega) ?_
    exact K _ ⟨ad1, c1, L1, W1, am, m1, fo1, hR2, hO2, hx1, rfl, a4, a2, hB1⟩
  · refine x_aload_n C dL_law_1354 3 rfl ?_
    refine x_iconst C dL_law_1355 0 (by decide) ?_
    refine x_lald C hO2.2.1 ⟨by decide, by decide⟩ (by decide) dL_law_1356 ?_
    refine x_iload C dL_law_1357 6 rfl ?_
    refine x_i2l C dL_law_1359 ?_
    refine x_lcmp C dL_law_1360 (a3 (by omega)) ?_
    refine x_if_eq (tgt := 1366) C dL_law_1361 (by decide) (by omega) (fun _ => ?_) (fun z2 => absurd rfl z2)
    refine x_goto (tgt := 2166) C dL_law_1366 (by decide) ?_
    refine x_sub [0, 1, 2, 3, 4] (ls' := [(0, .ref b), (1, .ref (ad 0 0)), (2, .ref (am 0 0)), (3, .ref ao), (4, vI ((i : Nat) : Int))]) rfl ?_
    refine x_widen (m1 := n1 + 500) (m2 := n2 + 3000) (by dsimp only; omega) (by dsimp only; omega) ?_
    exact K _ ⟨ad1, c1, L1, W1, am, m1, fo1, hR2, hO2, hx1, rfl, a4, a2, hB1⟩

set_option maxRecDepth 100000 in
set_option maxHeartbeats 4000000 in
theorem lc_farthest {κ : KX} {D : va_G} {A : Nat → Prop} {nm : String} (C : CX κ "LedgeLevelsLaw" nm cL_law wsL_law { frames := 12, cells := 601024, slots := 7293034, locals := 438 } D A 7) (kn : KN κ) {b x mm ao nS : Nat} {sc : Nat → Int} (xs0 : XS κ b nS sc) {h : vh} {t i n1 n2 : Nat} (hS : Sy D x mm ao h t) (ht : t < 512) (hi : i + 3 < nS) (hnS : nS ≤ 2048) (hsc : ∀ j, -2147483648 ≤ sc j ∧ sc j ≤ 2147483647) (hn : n1 + 500 ≤ 601024 ∧ n2 + 3000 ≤ 7293034) (K : ∀ h9, Sy D x mm ao h9 (t + 1) → X κ (n1 + 500) (n2 + 3000) h9 [(0, .ref b), (1, .ref x), (2, .ref mm), (3, .ref ao), (4, vI ((i : Nat) : Int))] 2166 []) : X κ n1 n2 h [(0, .ref b), (1, .ref x), (2, .ref mm), (3, .ref ao), (4, vI ((i : Nat) : Int))] 1369 [] := by
  obtain ⟨ad, c, L, W, am, m, fo, hR, hO, rfl, rfl, hC, hSi, hB⟩ := hS
  obtain ⟨p1, hp1⟩ : ∃ p9, p9 = sc (Int.toNat (((i : Nat) : Int) + 1)) := ⟨_, rfl⟩
  have hr1 : -2147483648 ≤ p1 ∧ p1 ≤ 2147483647 := by rw [hp1]; exact hsc _
  have hb3 := hB.2.2
  refine x_aload_n C dL_law_1369 1 rfl ?_
  refine x_aload_n C dL_law_1370 0 rfl ?_
  refine x_iload C dL_law_1371 4 rfl ?_
  refine x_iconst C dL_law_1373 1 (by decide) ?_
  refine x_iadd C dL_law_1374 ?_
  refine x_sld C xs0 ⟨by omega, by omega⟩ (by omega) dL_law_1375 ?_
  refine x_topv (show sc (Int.toNat (((i : Nat) : Int) + 1)) = p1 from hp1.symm) ?_
  refine x_aload_n C dL_law_1376 3 rfl ?_
  refine x_callSh C (n := 3) (As := [.ref (ad 0 0), vI p1, .ref ao]) (rest := []) (c_L_farthest (ao := ao) (fo := fo) (c_X7_farthest hR hC (hB.oks (by omega)) (by omega)) (hR.1 0 0 (lv0 (by decide))) (fun rv h9 hp => by obtain ⟨y0, y1, rfl, hcp, _⟩ := hp; exact ⟨_, rfl, (hO.fr hcp.2).2.1⟩) (fun E h9 hx => by obtain ⟨_, hx⟩ := hx; rcases hx with ⟨rfl, q⟩ | ⟨rfl, q⟩ | ⟨rfl, q⟩ <;> first | exact q.elim | exact rfl | exact Or.inl rfl | exact Or.inr rfl | exact Or.inr (Or.inl rfl) | exact Or.inr (Or.inr rfl))) kn gL_law_L_farthest (by decide +kernel) rfl rfl rfl (Nat.le_of_ble_eq_true rfl) ⟨by decide, by decide⟩ ⟨by dsimp only; omega, by dsimp only; omega⟩ dL_law_1377 (fun rv h1 hp => ?_)
  obtain ⟨k, ad1, c1, L1, W1, fo1, rfl, hk, hR1, hO1, hx1, hB1, hA⟩ := hr_farthest hO rfl hR hC hSi hB rv h1 hp
  refine x_istore C (ls' := [(0, .ref b), (1, .ref (ad 0 0)), (2, .ref (am 0 0)), (3, .ref ao), (4, vI ((i : Nat) : Int))] ++ [(5, vI k)]) dL_law_1380 (by decide) rfl ?_
  refine x_aload_n C dL_law_1382 2 rfl ?_
  refine x_aload_n C dL_law_1383 0 rfl ?_
  refine x_iload C dL_law_1384 4 rfl ?_
  refine x_iconst C dL_law_1386 1 (by decide) ?_
  refine x_iadd C dL_law_1387 ?_
  refine x_sld C xs0 ⟨by omega, by omega⟩ (by omega) dL_law_1388 ?_
  refine x_topv (show sc (Int.toNat (((i : Nat) : Int) + 1)) = p1 from hp1.symm) ?_
  refine x_callV C (n := 1) (qc := (RX8, TX8, 38)) (As := [vI p1]) (rest := []) (c_X8_farthest hO1.1 (hSi.mk1 hC) (by omega) (hSi.g4 hC) hSi.ke hSi.gk (hSi.ss hC) (hSi.bg hC)) gL_law_X8_farthest (by decide +kernel) (hO1.1.1 0 0 (lm0 (by decide))) rfl rfl rfl rfl (Nat.le_of_ble_eq_true rfl) ⟨by decide, by decide⟩ ⟨by dsimp only; omega, by dsimp only; omega⟩ dL_law_1389 (fun rv2 h2 hp2 => ?_)
  obtain ⟨r, m1, rfl, hM, hPR⟩ := hp2
  obtain ⟨a1, a2, a3, a4⟩ := hA r m1 hPR
  obtain ⟨hR2, hO2⟩ := hO1.mp hR1 hM
  refine x_istore C (ls' := [(0, .ref b), (1, .ref (ad 0 0)), (2, .ref (am 0 0)), (3, .ref ao), (4, vI ((i : Nat) : Int))] ++ [(5, vI k), (6, vI r)]) dL_law_1392 (by decide) rfl ?_
  refine x_aload_n C dL_law_1394 2 rfl ?_
  refine x_callV C (n := 0) (qc := (RX8, TX8, 38)) (As := []) (rest := []) (c_X8_thrown hO2.1) gL_law_X8_thrown (by decide +kernel) (hO2.1.1 0 0 (lm0 (by decide))) rfl rfl rfl rfl (Nat.le_of_ble_eq_true rfl) ⟨by decide, by decide⟩ ⟨by dsimp only; omega, by dsimp only; omega⟩ dL_law_1395 (fun rv3 h3 hp3 => ?_)
  obtain ⟨rfl, rfl⟩ := hp3
  refine x_topv (show m1 0 0 0 = k from a1) ?_
  refine x_iload C dL_law_1398 5 rfl ?_
  refine x_icmp_eq (tgt := 1405) C dL_law_1400 (by decide) (by omega) (by omega) (fun _ => ?_) (fun z1 => absurd rfl z1)
  refine x_iload C dL_law_1405 5 rfl ?_
  refine x_if_ne (tgt := 1422) C dL_law_1407 (by decide) (by omega) (fun z1 => ?_) (fun z1 => ?_)
  · refine x_goto (tgt := 2166) C dL_law_1422 (by decide) ?_
    refine x_sub [0, 1, 2, 3, 4] (ls' := [(0, .ref b), (1, .ref (ad 0 0)), (2, .ref (am 0 0)), (3, .ref ao), (4, vI ((i : Nat) : Int))]) rfl ?_
    refine x_widen (m1 := n1 + 500) (m2 := n2 + 3000) (by dsimp only; omega) (by dsimp only; omega) ?_
    exact K _ ⟨ad1, c1, L1, W1, am, m1, fo1, hR2, hO2, hx1, rfl, a4, a2, hB1⟩
  · refine x_aload_n C dL_law_1410 3 rfl ?_
    refine x_iconst C dL_law_1411 0 (by decide) ?_
    refine x_lald C hO2.2.1 ⟨by decide, by decide⟩ (by decide) dL_law_1412 ?_
    refine x_iload C dL_law_1413 6 rfl ?_
    refine x_i2l C dL_law_1415 ?_
    refine x_lcmp C dL_law_1416 (a3 (by omega)) ?_
    refine x_if_eq (tgt := 1422) C dL_law_1417 (by decide) (by omega) (fun _ => ?_) (fun z2 => absurd rfl z2)
    refine x_goto (tgt := 2166) C dL_law_1422 (by decide) ?_
    refine x_sub [0, 1, 2, 3, 4] (ls' := [(0, .ref b), (1, .ref (ad 0 0)), (2, .ref (am 0 0)), (3, .ref ao), (4, vI ((i : Nat) : Int))]) rfl ?_
    refine x_widen (m1 := n1 + 500) (m2 := n2 + 3000) (by dsimp only; omega) (by dsimp only; omega) ?_
    exact K _ ⟨ad1, c1, L1, W1, am, m1, fo1, hR2, hO2, hx1, rfl, a4, a2, hB1⟩

set_option maxRecDepth 100000 in
set_option maxHeartbeats 4000000 in
theorem lc_strength {κ : KX} {D : va_G} {A : Nat → Prop} {nm : String} (C : CX κ "LedgeLevelsLaw" nm cL_law wsL_law { frames := 12, cells := 601024, slots := 7293034, locals := 438 } D A 7) (kn : KN κ) {b x mm ao nS : Nat} {sc : Nat → Int} (xs0 : XS κ b nS sc) {h : vh} {t i n1 n2 : Nat} (hS : Sy D x mm ao h t) (ht : t < 512) (hi : i + 3 < nS) (hnS : nS ≤ 2048) (hsc : ∀ j, -2147483648 ≤ sc j ∧ sc j ≤ 2147483647) (hn : n1 + 500 ≤ 601024 ∧ n2 + 3000 ≤ 7293034) (K : ∀ h9, Sy D x mm ao h9 (t + 1) → X κ (n1 + 500) (n2 + 3000) h9 [(0, .ref b), (1, .ref x), (2, .ref mm), (3, .ref ao), (4, vI ((i : Nat) : Int))] 2166 []) : X κ n1 n2 h [(0, .ref b), (1, .ref x), (2, .ref mm), (3, .ref ao), (4, vI ((i : Nat) : Int))] 1425 [] := by
  obtain ⟨ad, c, L, W, am, m, fo, hR, hO, rfl, rfl, hC, hSi, hB⟩ := hS
  obtain ⟨p1, hp1⟩ : ∃ p9, p9 = sc (Int.toNat (((i : Nat) : Int) + 1)) := ⟨_, rfl⟩
  have hr1 : -2147483648 ≤ p1 ∧ p1 ≤ 2147483647 := by rw [hp1]; exact hsc _
  have hb3 := hB.2.2
  refine x_aload_n C dL_law_1425 1 rfl ?_
  refine x_aload_n C dL_law_1426 0 rfl ?_
  refine x_iload C dL_law_1427 4 rfl ?_
  refine x_iconst C dL_law_1429 1 (by decide) ?_
  refine x_iadd C dL_law_1430 ?_
  refine x_sld C xs0 ⟨by omega, by omega⟩ (by omega) dL_law_1431 ?_
  refine x_topv (show sc (Int.toNat (((i : Nat) : Int) + 1)) = p1 from hp1.symm) ?_
  refine x_aload_n C dL_law_1432 3 rfl ?_
  refine x_callSh C (n := 3) (As := [.ref (ad 0 0), vI p1, .ref ao]) (rest := []) (c_L_strength (ao := ao) (fo := fo) (c_X7_strength hR hC (by omega)) (hR.1 0 0 (lv0 (by decide))) (fun rv h9 hp => by obtain ⟨rfl, rfl, _⟩ := hp; exact ⟨_, rfl, hO.2.1⟩) (fun E h9 hx => by obtain ⟨_, hx⟩ := hx; rcases hx with ⟨rfl, q⟩ | ⟨rfl, q⟩ | ⟨rfl, q⟩ <;> first | exact q.elim | exact rfl | exact Or.inl rfl | exact Or.inr rfl | exact Or.inr (Or.inl rfl) | exact Or.inr (Or.inr rfl))) kn gL_law_L_strength (by decide +kernel) rfl rfl rfl (Nat.le_of_ble_eq_true rfl) ⟨by decide, by decide⟩ ⟨by dsimp only; omega, by dsimp only; omega⟩ dL_law_1433 (fun rv h1 hp => ?_)
  obtain ⟨k, ad1, c1, L1, W1, fo1, rfl, hk, hR1, hO1, hx1, hB1, hA⟩ := hr_strength hO rfl hR hC hSi hB rv h1 hp
  refine x_istore C (ls' := [(0, .ref b), (1, .ref (ad 0 0)), (2, .ref (am 0 0)), (3, .ref ao), (4, vI ((i : Nat) : Int))] ++ [(5, vI k)]) dL_law_1436 (by decide) rfl ?_
  refine x_aload_n C dL_law_1438 2 rfl ?_
  refine x_aload_n C dL_law_1439 0 rfl ?_
  refine x_iload C dL_law_1440 4 rfl ?_
  refine x_iconst C dL_law_1442 1 (by decide) ?_
  refine x_iadd C dL_law_1443 ?_
  refine x_sld C xs0 ⟨by omega, by omega⟩ (by omega) dL_law_1444 ?_
  refine x_topv (show sc (Int.toNat (((i : Nat) : Int) + 1)) = p1 from hp1.symm) ?_
  refine x_callV C (n := 1) (qc := (RX8, TX8, 38)) (As := [vI p1]) (rest := []) (c_X8_strength hO1.1 (hSi.mk1 hC) (by omega)) gL_law_X8_strength (by decide +kernel) (hO1.1.1 0 0 (lm0 (by decide))) rfl rfl rfl rfl (Nat.le_of_ble_eq_true rfl) ⟨by decide, by decide⟩ ⟨by dsimp only; omega, by dsimp only; omega⟩ dL_law_1445 (fun rv2 h2 hp2 => ?_)
  obtain ⟨r, m1, rfl, hM, hPR⟩ := hp2
  obtain ⟨a1, a2, a3, a4⟩ := hA r m1 hPR
  obtain ⟨hR2, hO2⟩ := hO1.mp hR1 hM
  refine x_istore C (ls' := [(0, .ref b), (1, .ref (ad 0 0)), (2, .ref (am 0 0)), (3, .ref ao), (4, vI ((i : Nat) : Int))] ++ [(5, vI k), (6, vI r)]) dL_law_1448 (by decide) rfl ?_
  refine x_aload_n C dL_law_1450 2 rfl ?_
  refine x_callV C (n := 0) (qc := (RX8, TX8, 38)) (As := []) (rest := []) (c_X8_thrown hO2.1) gL_law_X8_thrown (by decide +kernel) (hO2.1.1 0 0 (lm0 (by decide))) rfl rfl rfl rfl (Nat.le_of_ble_eq_true rfl) ⟨by decide, by decide⟩ ⟨by dsimp only; omega, by dsimp only; omega⟩ dL_law_1451 (fun rv3 h3 hp3 => ?_)
  obtain ⟨rfl, rfl⟩ := hp3
  refine x_topv (show m1 0 0 0 = k from a1) ?_
  refine x_iload C dL_law_1454 5 rfl ?_
  refine x_icmp_eq (tgt := 1461) C dL_law_1456 (by decide) (by omega) (by omega) (fun _ => ?_) (fun z1 => absurd rfl z1)
  refine x_iload C dL_law_1461 5 rfl ?_
  refine x_if_ne (tgt := 1478) C dL_law_1463 (by decide) (by omega) (fun z1 => ?_) (fun z1 => ?_)
  · refine x_goto (tgt := 2166) C dL_law_1478 (by decide) ?_
    refine x_sub [0, 1, 2, 3, 4] (ls' := [(0, .ref b), (1, .ref (ad 0 0)), (2, .ref (am 0 0)), (3, .ref ao), (4, vI ((i : Nat) : Int))]) rfl ?_
    refine x_widen (m1 := n1 + 500) (m2 := n2 + 3000) (by dsimp only; omega) (by dsimp only; omega) ?_
    exact K _ ⟨ad1, c1, L1, W1, am, m1, fo1, hR2, hO2, hx1, rfl, a4, a2, hB1⟩
  · refine x_aload_n C dL_law_1466 3 rfl ?_
    refine x_iconst C dL_law_1467 0 (by decide) ?_
    refine x_lald C hO2.2.1 ⟨by decide, by decide⟩ (by decide) dL_law_1468 ?_
    refine x_iload C dL_law_1469 6 rfl ?_
    refine x_i2l C dL_law_1471 ?_
    refine x_lcmp C dL_law_1472 (a3 (by omega)) ?_
    refine x_if_eq (tgt := 1478) C dL_law_1473 (by decide) (by omega) (fun _ => ?_) (fun z2 => absurd rfl z2)
    refine x_goto (tgt := 2166) C dL_law_1478 (by decide) ?_
    refine x_sub [0, 1, 2, 3, 4] (ls' := [(0, .ref b), (1, .ref (ad 0 0)), (2, .ref (am 0 0)), (3, .ref ao), (4, vI ((i : Nat) : Int))]) rfl ?_
    refine x_widen (m1 := n1 + 500) (m2 := n2 + 3000) (by dsimp only; omega) (by dsimp only; omega) ?_
    exact K _ ⟨ad1, c1, L1, W1, am, m1, fo1, hR2, hO2, hx1, rfl, a4, a2, hB1⟩

set_option maxRecDepth 100000 in
set_option maxHeartbeats 4000000 in
theorem lc_works {κ : KX} {D : va_G} {A : Nat → Prop} {nm : String} (C : CX κ "LedgeLevelsLaw" nm cL_law wsL_law { frames := 12, cells := 601024, slots := 7293034, locals := 438 } D A 7) (kn : KN κ) {b x mm ao nS : Nat} {sc : Nat → Int} (xs0 : XS κ b nS sc) {h : vh} {t i n1 n2 : Nat} (hS : Sy D x mm ao h t) (ht : t < 512) (hi : i + 3 < nS) (hnS : nS ≤ 2048) (hsc : ∀ j, -2147483648 ≤ sc j ∧ sc j ≤ 2147483647) (hn : n1 + 500 ≤ 601024 ∧ n2 + 3000 ≤ 7293034) (K : ∀ h9, Sy D x mm ao h9 (t + 1) → X κ (n1 + 500) (n2 + 3000) h9 [(0, .ref b), (1, .ref x), (2, .ref mm), (3, .ref ao), (4, vI ((i : Nat) : Int))] 2166 []) : X κ n1 n2 h [(0, .ref b), (1, .ref x), (2, .ref mm), (3, .ref ao), (4, vI ((i : Nat) : Int))] 1481 [] := by
  obtain ⟨ad, c, L, W, am, m, fo, hR, hO, rfl, rfl, hC, hSi, hB⟩ := hS
  obtain ⟨o1, o2, o3, o4, o5, o6, o7⟩ := id hC.1
  obtain ⟨⟨a1, a2⟩, _⟩ := id hSi
  refine x_aload_n C dL_law_1481 1 rfl ?_
  refine x_callV C (n := 0) (qc := (RX7, TX7, 7)) (As := []) (rest := []) (c_X7_works hR) gL_law_X7_works (by decide +kernel) (hR.1 0 0 (lv0 (by decide))) rfl rfl rfl rfl (Nat.le_of_ble_eq_true rfl) ⟨by decide, by decide⟩ ⟨by dsimp only; omega, by dsimp only; omega⟩ dL_law_1482 (fun rv h1 hp => ?_)
  obtain ⟨rfl, rfl⟩ := hp
  refine x_aload_n C dL_law_1485 2 rfl ?_
  refine x_callV C (n := 0) (qc := (RX8, TX8, 38)) (As := []) (rest := [vI (c 0 0 6)]) (c_X8_works hO.1) gL_law_X8_works (by decide +kernel) (hO.1.1 0 0 (lm0 (by decide))) rfl rfl rfl rfl (Nat.le_of_ble_eq_true rfl) ⟨by decide, by decide⟩ ⟨by dsimp only; omega, by dsimp only; omega⟩ dL_law_1486 (fun rv2 h2 hp2 => ?_)
  obtain ⟨rfl, hM⟩ := hp2
  obtain ⟨hR2, hO2⟩ := hO.mp hR hM
  refine x_icmp_eq (tgt := 2166) C dL_law_1489 (by decide) (by omega) (by omega) (fun _ => ?_) (fun z1 => by exfalso; omega)
  refine x_widen (m1 := n1 + 500) (m2 := n2 + 3000) (by dsimp only; omega) (by dsimp only; omega) ?_
  exact K _ ⟨ad, c, L, W, am, _, fo, hR2, hO2, rfl, rfl, hC, hSi.sm (SM.th SM.rf), hB.le (by omega)⟩

set_option maxRecDepth 100000 in
set_option maxHeartbeats 4000000 in
theorem lc_author {κ : KX} {D : va_G} {A : Nat → Prop} {nm : String} (C : CX κ "LedgeLevelsLaw" nm cL_law wsL_law { frames := 12, cells := 601024, slots := 7293034, locals := 438 } D A 7) (kn : KN κ) {b x mm ao nS : Nat} {sc : Nat → Int} (xs0 : XS κ b nS sc) {h : vh} {t i n1 n2 : Nat} (hS : Sy D x mm ao h t) (ht : t < 512) (hi : i + 3 < nS) (hnS : nS ≤ 2048) (hsc : ∀ j, -2147483648 ≤ sc j ∧ sc j ≤ 2147483647) (hn : n1 + 500 ≤ 601024 ∧ n2 + 3000 ≤ 7293034) (K : ∀ h9, Sy D x mm ao h9 (t + 1) → X κ (n1 + 500) (n2 + 3000) h9 [(0, .ref b), (1, .ref x), (2, .ref mm), (3, .ref ao), (4, vI ((i : Nat) : Int))] 2166 []) : X κ n1 n2 h [(0, .ref b), (1, .ref x), (2, .ref mm), (3, .ref ao), (4, vI ((i : Nat) : Int))] 1494 [] := by
  obtain ⟨ad, c, L, W, am, m, fo, hR, hO, rfl, rfl, hC, hSi, hB⟩ := hS
  obtain ⟨p1, hp1⟩ : ∃ p9, p9 = sc (Int.toNat (((i : Nat) : Int) + 1)) := ⟨_, rfl⟩
  have hr1 : -2147483648 ≤ p1 ∧ p1 ≤ 2147483647 := by rw [hp1]; exact hsc _
  have hb3 := hB.2.2
  refine x_aload_n C dL_law_1494 1 rfl ?_
  refine x_aload_n C dL_law_1495 0 rfl ?_
  refine x_iload C dL_law_1496 4 rfl ?_
  refine x_iconst C dL_law_1498 1 (by decide) ?_
  refine x_iadd C dL_law_1499 ?_
  refine x_sld C xs0 ⟨by omega, by omega⟩ (by omega) dL_law_1500 ?_
  refine x_topv (show sc (Int.toNat (((i : Nat) : Int) + 1)) = p1 from hp1.symm) ?_
  refine x_aload_n C dL_law_1501 3 rfl ?_
  refine x_callSh C (n := 3) (As := [.ref (ad 0 0), vI p1, .ref ao]) (rest := []) (c_L_author (ao := ao) (fo := fo) (c_X7_author hR hC (by omega)) (hR.1 0 0 (lv0 (by decide))) (fun rv h9 hp => by obtain ⟨rfl, rfl, _⟩ := hp; exact ⟨_, rfl, hO.2.1⟩) (fun E h9 hx => by obtain ⟨_, hx⟩ := hx; rcases hx with ⟨rfl, q⟩ | ⟨rfl, q⟩ | ⟨rfl, q⟩ <;> first | exact q.elim | exact rfl | exact Or.inl rfl | exact Or.inr rfl | exact Or.inr (Or.inl rfl) | exact Or.inr (Or.inr rfl))) kn gL_law_L_author (by decide +kernel) rfl rfl rfl (Nat.le_of_ble_eq_true rfl) ⟨by decide, by decide⟩ ⟨by dsimp only; omega, by dsimp only; omega⟩ dL_law_1502 (fun rv h1 hp => ?_)
  obtain ⟨k, ad1, c1, L1, W1, fo1, rfl, hk, hR1, hO1, hx1, hB1, hA⟩ := hr_author hO rfl hR hC hSi hB rv h1 hp
  refine x_istore C (ls' := [(0, .ref b), (1, .ref (ad 0 0)), (2, .ref (am 0 0)), (3, .ref ao), (4, vI ((i : Nat) : Int))] ++ [(5, vI k)]) dL_law_1505 (by decide) rfl ?_
  refine x_aload_n C dL_law_1507 2 rfl ?_
  refine x_aload_n C dL_law_1508 0 rfl ?_
  refine x_iload C dL_law_1509 4 rfl ?_
  refine x_iconst C dL_law_1511 1 (by decide) ?_
  refine x_iadd C dL_law_1512 ?_
  refine x_sld C xs0 ⟨by omega, by omega⟩ (by omega) dL_law_1513 ?_
  refine x_topv (show sc (Int.toNat (((i : Nat) : Int) + 1)) = p1 from hp1.symm) ?_
  refine x_callV C (n := 1) (qc := (RX8, TX8, 38)) (As := [vI p1]) (rest := []) (c_X8_author hO1.1 (hSi.mk1 hC) (by omega)) gL_law_X8_author (by decide +kernel) (hO1.1.1 0 0 (lm0 (by decide))) rfl rfl rfl rfl (Nat.le_of_ble_eq_true rfl) ⟨by decide, by decide⟩ ⟨by dsimp only; omega, by dsimp only; omega⟩ dL_law_1514 (fun rv2 h2 hp2 => ?_)
  obtain ⟨r, m1, rfl, hM, hPR⟩ := hp2
  obtain ⟨a1, a2, a3, a4⟩ := hA r m1 hPR
  obtain ⟨hR2, hO2⟩ := hO1.mp hR1 hM
  refine x_istore C (ls' := [(0, .ref b), (1, .ref (ad 0 0)), (2, .ref (am 0 0)), (3, .ref ao), (4, vI ((i : Nat) : Int))] ++ [(5, vI k), (6, vI r)]) dL_law_1517 (by decide) rfl ?_
  refine x_aload_n C dL_law_1519 2 rfl ?_
  refine x_callV C (n := 0) (qc := (RX8, TX8, 38)) (As := []) (rest := []) (c_X8_thrown hO2.1) gL_law_X8_thrown (by decide +kernel) (hO2.1.1 0 0 (lm0 (by decide))) rfl rfl rfl rfl (Nat.le_of_ble_eq_true rfl) ⟨by decide, by decide⟩ ⟨by dsimp only; omega, by dsimp only; omega⟩ dL_law_1520 (fun rv3 h3 hp3 => ?_)
  obtain ⟨rfl, rfl⟩ := hp3
  refine x_topv (show m1 0 0 0 = k from a1) ?_
  refine x_iload C dL_law_1523 5 rfl ?_
  refine x_icmp_eq (tgt := 1530) C dL_law_1525 (by decide) (by omega) (by omega) (fun _ => ?_) (fun z1 => absurd rfl z1)
  refine x_iload C dL_law_1530 5 rfl ?_
  refine x_if_ne (tgt := 1547) C dL_law_1532 (by decide) (by omega) (fun z1 => ?_) (fun z1 => ?_)
  · refine x_goto (tgt := 2166) C dL_law_1547 (by decide) ?_
    refine x_sub [0, 1, 2, 3, 4] (ls' := [(0, .ref b), (1, .ref (ad 0 0)), (2, .ref (am 0 0)), (3, .ref ao), (4, vI ((i : Nat) : Int))]) rfl ?_
    refine x_widen (m1 := n1 + 500) (m2 := n2 + 3000) (by dsimp only; omega) (by dsimp only; omega) ?_
    exact K _ ⟨ad1, c1, L1, W1, am, m1, fo1, hR2, hO2, hx1, rfl, a4, a2, hB1⟩
  · refine x_aload_n C dL_law_1535 3 rfl ?_
    refine x_iconst C dL_law_1536 0 (by decide) ?_
    refine x_lald C hO2.2.1 ⟨by decide, by decide⟩ (by decide) dL_law_1537 ?_
    refine x_iload C dL_law_1538 6 rfl ?_
    refine x_i2l C dL_law_1540 ?_
    refine x_lcmp C dL_law_1541 (a3 (by omega)) ?_
    refine x_if_eq (tgt := 1547) C dL_law_1542 (by decide) (by omega) (fun _ => ?_) (fun z2 => absurd rfl z2)
    refine x_goto (tgt := 2166) C dL_law_1547 (by decide) ?_
    refine x_sub [0, 1, 2, 3, 4] (ls' := [(0, .ref b), (1, .ref (ad 0 0)), (2, .ref (am 0 0)), (3, .ref ao), (4, vI ((i : Nat) : Int))]) rfl ?_
    refine x_widen (m1 := n1 + 500) (m2 := n2 + 3000) (by dsimp only; omega) (by dsimp only; omega) ?_
    exact K _ ⟨ad1, c1, L1, W1, am, m1, fo1, hR2, hO2, hx1, rfl, a4, a2, hB1⟩

set_option maxRecDepth 100000 in
set_option maxHeartbeats 4000000 in
theorem lc_best {κ : KX} {D : va_G} {A : Nat → Prop} {nm : String} (C : CX κ "LedgeLevelsLaw" nm cL_law wsL_law { frames := 12, cells := 601024, slots := 7293034, locals := 438 } D A 7) (kn : KN κ) {b x mm ao nS : Nat} {sc : Nat → Int} (xs0 : XS κ b nS sc) {h : vh} {t i n1 n2 : Nat} (hS : Sy D x mm ao h t) (ht : t < 512) (hi : i + 3 < nS) (hnS : nS ≤ 2048) (hsc : ∀ j, -2147483648 ≤ sc j ∧ sc j ≤ 2147483647) (hn : n1 + 500 ≤ 601024 ∧ n2 + 3000 ≤ 7293034) (K : ∀ h9, Sy D x mm ao h9 (t + 1) → X κ (n1 + 500) (n2 + 3000) h9 [(0, .ref b), (1, .ref x), (2, .ref mm), (3, .ref ao), (4, vI ((i : Nat) : Int))] 2166 []) : X κ n1 n2 h [(0, .ref b), (1, .ref x), (2, .ref mm), (3, .ref ao), (4, vI ((i : Nat) : Int))] 1550 [] := by
  obtain ⟨ad, c, L, W, am, m, fo, hR, hO, rfl, rfl, hC, hSi, hB⟩ := hS
  obtain ⟨p1, hp1⟩ : ∃ p9, p9 = sc (Int.toNat (((i : Nat) : Int) + 1)) := ⟨_, rfl⟩
  have hr1 : -2147483648 ≤ p1 ∧ p1 ≤ 2147483647 := by rw [hp1]; exact hsc _
  have hb3 := hB.2.2
  refine x_aload_n C dL_law_1550 1 rfl ?_
  refine x_aload_n C dL_law_1551 0 rfl ?_
  refine x_iload C dL_law_1552 4 rfl ?_
  refine x_iconst C dL_law_1554 1 (by decide) ?_
  refine x_iadd C dL_law_1555 ?_
  refine x_sld C xs0 ⟨by omega, by omega⟩ (by omega) dL_law_1556 ?_
  refine x_topv (show sc (Int.toNat (((i : Nat) : Int) + 1)) = p1 from hp1.symm) ?_
  refine x_aload_n C dL_law_1557 3 rfl ?_
  refine x_callSh C (n := 3) (As := [.ref (ad 0 0), vI p1, .ref ao]) (rest := []) (c_L_best (ao := ao) (fo := fo) (c_X7_best hR hC (by omega)) (hR.1 0 0 (lv0 (by decide))) (fun rv h9 hp => by obtain ⟨rfl, rfl, _⟩ := hp; exact ⟨_, rfl, hO.2.1⟩) (fun E h9 hx => by obtain ⟨_, hx⟩ := hx; rcases hx with ⟨rfl, q⟩ | ⟨rfl, q⟩ | ⟨rfl, q⟩ <;> first | exact q.elim | exact rfl | exact Or.inl rfl | exact Or.inr rfl | exact Or.inr (Or.inl rfl) | exact Or.inr (Or.inr rfl))) kn gL_law_L_best (by decide +kernel) rfl rfl rfl (Nat.le_of_ble_eq_true rfl) ⟨by decide, by decide⟩ ⟨by dsimp only; omega, by dsimp only; omega⟩ dL_law_1558 (fun rv h1 hp => ?_)
  obtain ⟨k, ad1, c1, L1, W1, fo1, rfl, hk, hR1, hO1, hx1, hB1, hA⟩ := hr_best hO rfl hR hC hSi hB rv h1 hp
  refine x_istore C (ls' := [(0, .ref b), (1, .ref (ad 0 0)), (2, .ref (am 0 0)), (3, .ref ao), (4, vI ((i : Nat) : Int))] ++ [(5, vI k)]) dL_law_1561 (by decide) rfl ?_
  refine x_aload_n C dL_law_1563 2 rfl ?_
  refine x_aload_n C dL_law_1564 0 rfl ?_
  refine x_iload C dL_law_1565 4 rfl ?_
  refine x_iconst C dL_law_1567 1 (by decide) ?_
  refine x_iadd C dL_law_1568 ?_
  refine x_sld C xs0 ⟨by omega, by omega⟩ (by omega) dL_law_1569 ?_
  refine x_topv (show sc (Int.toNat (((i : Nat) : Int) + 1)) = p1 from hp1.symm) ?_
  refine x_callV C (n := 1) (qc := (RX8, TX8, 38)) (As := [vI p1]) (rest := []) (c_X8_best hO1.1 (hSi.mk1 hC) (by omega)) gL_law_X8_best (by decide +kernel) (hO1.1.1 0 0 (lm0 (by decide))) rfl rfl rfl rfl (Nat.le_of_ble_eq_true rfl) ⟨by decide, by decide⟩ ⟨by dsimp only; omega, by dsimp only; omega⟩ dL_law_1570 (fun rv2 h2 hp2 => ?_)
  obtain ⟨r, m1, rfl, hM, hPR⟩ := hp2
  obtain ⟨a1, a2, a3, a4⟩ := hA r m1 hPR
  obtain ⟨hR2, hO2⟩ := hO1.mp hR1 hM
  refine x_istore C (ls' := [(0, .ref b), (1, .ref (ad 0 0)), (2, .ref (am 0 0)), (3, .ref ao), (4, vI ((i : Nat) : Int))] ++ [(5, vI k), (6, vI r)]) dL_law_1573 (by decide) rfl ?_
  refine x_aload_n C dL_law_1575 2 rfl ?_
  refine x_callV C (n := 0) (qc := (RX8, TX8, 38)) (As := []) (rest := []) (c_X8_thrown hO2.1) gL_law_X8_thrown (by decide +kernel) (hO2.1.1 0 0 (lm0 (by decide))) rfl rfl rfl rfl (Nat.le_of_ble_eq_true rfl) ⟨by decide, by decide⟩ ⟨by dsimp only; omega, by dsimp only; omega⟩ dL_law_1576 (fun rv3 h3 hp3 => ?_)
  obtain ⟨rfl, rfl⟩ := hp3
  refine x_topv (show m1 0 0 0 = k from a1) ?_
  refine x_iload C dL_law_1579 5 rfl ?_
  refine x_icmp_eq (tgt := 1586) C dL_law_1581 (by decide) (by omega) (by omega) (fun _ => ?_) (fun z1 => absurd rfl z1)
  refine x_iload C dL_law_1586 5 rfl ?_
  refine x_if_ne (tgt := 1603) C dL_law_1588 (by decide) (by omega) (fun z1 => ?_) (fun z1 => ?_)
  · refine x_goto (tgt := 2166) C dL_law_1603 (by decide) ?_
    refine x_sub [0, 1, 2, 3, 4] (ls' := [(0, .ref b), (1, .ref (ad 0 0)), (2, .ref (am 0 0)), (3, .ref ao), (4, vI ((i : Nat) : Int))]) rfl ?_
    refine x_widen (m1 := n1 + 500) (m2 := n2 + 3000) (by dsimp only; omega) (by dsimp only; omega) ?_
    exact K _ ⟨ad1, c1, L1, W1, am, m1, fo1, hR2, hO2, hx1, rfl, a4, a2, hB1⟩
  · refine x_aload_n C dL_law_1591 3 rfl ?_
    refine x_iconst C dL_law_1592 0 (by decide) ?_
    refine x_lald C hO2.2.1 ⟨by decide, by decide⟩ (by decide) dL_law_1593 ?_
    refine x_iload C dL_law_1594 6 rfl ?_
    refine x_i2l C dL_law_1596 ?_
    refine x_lcmp C dL_law_1597 (a3 (by omega)) ?_
    refine x_if_eq (tgt := 1603) C dL_law_1598 (by decide) (by omega) (fun _ => ?_) (fun z2 => absurd rfl z2)
    refine x_goto (tgt := 2166) C dL_law_1603 (by decide) ?_
    refine x_sub [0, 1, 2, 3, 4] (ls' := [(0, .ref b), (1, .ref (ad 0 0)), (2, .ref (am 0 0)), (3, .ref ao), (4, vI ((i : Nat) : Int))]) rfl ?_
    refine x_widen (m1 := n1 + 500) (m2 := n2 + 3000) (by dsimp only; omega) (by dsimp only; omega) ?_
    exact K _ ⟨ad1, c1, L1, W1, am, m1, fo1, hR2, hO2, hx1, rfl, a4, a2, hB1⟩

