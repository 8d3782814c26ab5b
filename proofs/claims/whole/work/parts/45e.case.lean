theorem dL_law_522 : decode cL_law 522 = .ok (.aload_n 1, 1) := by decide +kernel
theorem dL_law_523 : decode cL_law 523 = .ok (.aload_n 0, 1) := by decide +kernel
theorem dL_law_524 : decode cL_law 524 = .ok (.iload_n 3, 1) := by decide +kernel
theorem dL_law_525 : decode cL_law 525 = .ok (.iconst 1, 1) := by decide +kernel
theorem dL_law_526 : decode cL_law 526 = .ok (.iadd, 1) := by decide +kernel
theorem dL_law_527 : decode cL_law 527 = .ok (.iaload, 1) := by decide +kernel
theorem dL_law_528 : decode cL_law 528 = .ok (.aload_n 0, 1) := by decide +kernel
theorem dL_law_529 : decode cL_law 529 = .ok (.iload_n 3, 1) := by decide +kernel
theorem dL_law_530 : decode cL_law 530 = .ok (.iconst 2, 1) := by decide +kernel
theorem dL_law_531 : decode cL_law 531 = .ok (.iadd, 1) := by decide +kernel
theorem dL_law_532 : decode cL_law 532 = .ok (.iaload, 1) := by decide +kernel
set_option maxRecDepth 20000 in
theorem ggL_law_X4_pride : GoodIn wsL_law wsX4_pride := goodIn_r _ [466, 16, 377, 380, 381, 382, 15, 383, 55, 107, 2, 108, 354, 355, 356, 106, 1064, 1065, 1066, 1067, 1068, 1069, 1070, 1071, 1072, 1073, 1074, 1104, 1105, 1106, 1107, 1108, 1109, 1110, 1111, 1112, 1113, 1114] (by decide +kernel) (by decide +kernel)
set_option maxRecDepth 20000 in
theorem gL_law_X4_pride : GoodIn wsL_law (wsV RL 53 RX4 yX4_pride wsX4_pride) := goodIn_app (goodIn_of _ (by decide +kernel)) ggL_law_X4_pride
theorem dL_law_533 : decode cL_law 533 = .ok (.invokevirtual 53, 3) := by decide +kernel
theorem dL_law_536 : decode cL_law 536 = .ok (.aload_n 2, 1) := by decide +kernel
theorem dL_law_537 : decode cL_law 537 = .ok (.aload_n 0, 1) := by decide +kernel
theorem dL_law_538 : decode cL_law 538 = .ok (.iload_n 3, 1) := by decide +kernel
theorem dL_law_539 : decode cL_law 539 = .ok (.iconst 1, 1) := by decide +kernel
theorem dL_law_540 : decode cL_law 540 = .ok (.iadd, 1) := by decide +kernel
theorem dL_law_541 : decode cL_law 541 = .ok (.iaload, 1) := by decide +kernel
theorem dL_law_542 : decode cL_law 542 = .ok (.aload_n 0, 1) := by decide +kernel
theorem dL_law_543 : decode cL_law 543 = .ok (.iload_n 3, 1) := by decide +kernel
theorem dL_law_544 : decode cL_law 544 = .ok (.iconst 2, 1) := by decide +kernel
theorem dL_law_545 : decode cL_law 545 = .ok (.iadd, 1) := by decide +kernel
theorem dL_law_546 : decode cL_law 546 = .ok (.iaload, 1) := by decide +kernel
set_option maxRecDepth 20000 in
theorem ggL_law_X5_pride : GoodIn wsL_law wsX5_pride := goodIn_r _ [470, 333, 393, 394, 395, 5, 396, 80, 120, 121, 122, 335, 336, 337, 338, 1075, 1076, 1077, 1078, 1079, 1080, 1081, 1082, 1083, 1084, 1085, 1086, 1087, 1088, 1089, 1090, 1091, 1092, 1093, 1094, 1095, 1096, 1097, 1098, 1099, 1100, 1101, 1102, 1103] (by decide +kernel) (by decide +kernel)
set_option maxRecDepth 20000 in
theorem gL_law_X5_pride : GoodIn wsL_law (wsV RL 56 RX5 yX5_pride wsX5_pride) := goodIn_app (goodIn_of _ (by decide +kernel)) ggL_law_X5_pride
theorem dL_law_547 : decode cL_law 547 = .ok (.invokevirtual 56, 3) := by decide +kernel
theorem dL_law_550 : decode cL_law 550 = .ok (.if_icmp .eq 1075, 3) := by decide +kernel
theorem dL_law_555 : decode cL_law 555 = .ok (.aload_n 1, 1) := by decide +kernel
theorem dL_law_556 : decode cL_law 556 = .ok (.aload_n 0, 1) := by decide +kernel
theorem dL_law_557 : decode cL_law 557 = .ok (.iload_n 3, 1) := by decide +kernel
theorem dL_law_558 : decode cL_law 558 = .ok (.iconst 1, 1) := by decide +kernel
theorem dL_law_559 : decode cL_law 559 = .ok (.iadd, 1) := by decide +kernel
theorem dL_law_560 : decode cL_law 560 = .ok (.iaload, 1) := by decide +kernel
theorem dL_law_561 : decode cL_law 561 = .ok (.aload_n 0, 1) := by decide +kernel
theorem dL_law_562 : decode cL_law 562 = .ok (.iload_n 3, 1) := by decide +kernel
theorem dL_law_563 : decode cL_law 563 = .ok (.iconst 2, 1) := by decide +kernel
theorem dL_law_564 : decode cL_law 564 = .ok (.iadd, 1) := by decide +kernel
theorem dL_law_565 : decode cL_law 565 = .ok (.iaload, 1) := by decide +kernel
set_option maxRecDepth 20000 in
theorem ggL_law_X4_move : GoodIn wsL_law wsX4_move := goodIn_r _ [474, 16, 379, 380, 381, 382, 15, 383, 55, 107, 2, 108, 360, 361, 362, 106, 1064, 1065, 1066, 1067, 1068, 1069, 1070, 1071, 1072, 1073, 1074, 1104, 1105, 1106, 1107, 1108, 1109, 1110, 1111, 1112, 1113, 1114] (by decide +kernel) (by decide +kernel)
set_option maxRecDepth 20000 in
theorem gL_law_X4_move : GoodIn wsL_law (wsV RL 57 RX4 yX4_move wsX4_move) := goodIn_app (goodIn_of _ (by decide +kernel)) ggL_law_X4_move
theorem dL_law_566 : decode cL_law 566 = .ok (.invokevirtual 57, 3) := by decide +kernel
theorem dL_law_569 : decode cL_law 569 = .ok (.aload_n 2, 1) := by decide +kernel
theorem dL_law_570 : decode cL_law 570 = .ok (.aload_n 0, 1) := by decide +kernel
theorem dL_law_571 : decode cL_law 571 = .ok (.iload_n 3, 1) := by decide +kernel
theorem dL_law_572 : decode cL_law 572 = .ok (.iconst 1, 1) := by decide +kernel
theorem dL_law_573 : decode cL_law 573 = .ok (.iadd, 1) := by decide +kernel
theorem dL_law_574 : decode cL_law 574 = .ok (.iaload, 1) := by decide +kernel
theorem dL_law_575 : decode cL_law 575 = .ok (.aload_n 0, 1) := by decide +kernel
theorem dL_law_576 : decode cL_law 576 = .ok (.iload_n 3, 1) := by decide +kernel
theorem dL_law_577 : decode cL_law 577 = .ok (.iconst 2, 1) := by decide +kernel
theorem dL_law_578 : decode cL_law 578 = .ok (.iadd, 1) := by decide +kernel
theorem dL_law_579 : decode cL_law 579 = .ok (.iaload, 1) := by decide +kernel
set_option maxRecDepth 20000 in
theorem ggL_law_X5_move : GoodIn wsL_law wsX5_move := goodIn_r _ [478, 393, 394, 395, 5, 396, 80, 369, 370, 371, 335, 336, 337, 338, 1075, 1076, 1077, 1078, 1079, 1080, 1081, 1082, 1083, 1084, 1085, 1086, 1087, 1088, 1089, 1090, 1091, 1092, 1093, 1094, 1095, 1096, 1097, 1098, 1099, 1100, 1101, 1102, 1103] (by decide +kernel) (by decide +kernel)
set_option maxRecDepth 20000 in
theorem gL_law_X5_move : GoodIn wsL_law (wsV RL 60 RX5 yX5_move wsX5_move) := goodIn_app (goodIn_of _ (by decide +kernel)) ggL_law_X5_move
theorem dL_law_580 : decode cL_law 580 = .ok (.invokevirtual 60, 3) := by decide +kernel
theorem dL_law_583 : decode cL_law 583 = .ok (.if_icmp .eq 1042, 3) := by decide +kernel
theorem dL_law_588 : decode cL_law 588 = .ok (.aload_n 1, 1) := by decide +kernel
theorem dL_law_589 : decode cL_law 589 = .ok (.aload_n 0, 1) := by decide +kernel
theorem dL_law_590 : decode cL_law 590 = .ok (.iload_n 3, 1) := by decide +kernel
theorem dL_law_591 : decode cL_law 591 = .ok (.iconst 1, 1) := by decide +kernel
theorem dL_law_592 : decode cL_law 592 = .ok (.iadd, 1) := by decide +kernel
theorem dL_law_593 : decode cL_law 593 = .ok (.iaload, 1) := by decide +kernel
theorem dL_law_594 : decode cL_law 594 = .ok (.aload_n 0, 1) := by decide +kernel
theorem dL_law_595 : decode cL_law 595 = .ok (.iload_n 3, 1) := by decide +kernel
theorem dL_law_596 : decode cL_law 596 = .ok (.iconst 2, 1) := by decide +kernel
theorem dL_law_597 : decode cL_law 597 = .ok (.iadd, 1) := by decide +kernel
theorem dL_law_598 : decode cL_law 598 = .ok (.iaload, 1) := by decide +kernel
set_option maxRecDepth 20000 in
theorem ggL_law_X4_clap : GoodIn wsL_law wsX4_clap := goodIn_r _ [482, 16, 380, 381, 382, 15, 383, 55, 107, 2, 108, 106, 384, 385, 386, 387, 56, 483, 238, 239, 240, 1064, 1065, 1066, 1067, 1068, 1069, 1070, 1071, 1072, 1073, 1074, 1104, 1105, 1106, 1107, 1108, 1109, 1110, 1111, 1112, 1113, 1114] (by decide +kernel) (by decide +kernel)
set_option maxRecDepth 20000 in
theorem gL_law_X4_clap : GoodIn wsL_law (wsV RL 61 RX4 yX4_clap wsX4_clap) := goodIn_app (goodIn_of _ (by decide +kernel)) ggL_law_X4_clap
theorem dL_law_599 : decode cL_law 599 = .ok (.invokevirtual 61, 3) := by decide +kernel
theorem dL_law_602 : decode cL_law 602 = .ok (.aload_n 2, 1) := by decide +kernel
theorem dL_law_603 : decode cL_law 603 = .ok (.aload_n 0, 1) := by decide +kernel
theorem dL_law_604 : decode cL_law 604 = .ok (.iload_n 3, 1) := by decide +kernel
theorem dL_law_605 : decode cL_law 605 = .ok (.iconst 1, 1) := by decide +kernel
theorem dL_law_606 : decode cL_law 606 = .ok (.iadd, 1) := by decide +kernel
theorem dL_law_607 : decode cL_law 607 = .ok (.iaload, 1) := by decide +kernel
theorem dL_law_608 : decode cL_law 608 = .ok (.aload_n 0, 1) := by decide +kernel
theorem dL_law_609 : decode cL_law 609 = .ok (.iload_n 3, 1) := by decide +kernel
theorem dL_law_610 : decode cL_law 610 = .ok (.iconst 2, 1) := by decide +kernel
theorem dL_law_611 : decode cL_law 611 = .ok (.iadd, 1) := by decide +kernel
theorem dL_law_612 : decode cL_law 612 = .ok (.iaload, 1) := by decide +kernel
set_option maxRecDepth 20000 in
theorem ggL_law_X5_clap : GoodIn wsL_law wsX5_clap := goodIn_r _ [487, 393, 394, 395, 5, 396, 80, 120, 121, 122, 335, 336, 337, 338, 1075, 1076, 1077, 1078, 1079, 1080, 1081, 1082, 1083, 1084, 1085, 1086, 1087, 1088, 1089, 1090, 1091, 1092, 1093, 1094, 1095, 1096, 1097, 1098, 1099, 1100, 1101, 1102, 1103] (by decide +kernel) (by decide +kernel)
set_option maxRecDepth 20000 in
theorem gL_law_X5_clap : GoodIn wsL_law (wsV RL 64 RX5 yX5_clap wsX5_clap) := goodIn_app (goodIn_of _ (by decide +kernel)) ggL_law_X5_clap
theorem dL_law_613 : decode cL_law 613 = .ok (.invokevirtual 64, 3) := by decide +kernel
theorem dL_law_616 : decode cL_law 616 = .ok (.if_icmp .eq 1009, 3) := by decide +kernel
theorem dL_law_654 : decode cL_law 654 = .ok (.aload_n 1, 1) := by decide +kernel
theorem dL_law_655 : decode cL_law 655 = .ok (.aload_n 0, 1) := by decide +kernel
theorem dL_law_656 : decode cL_law 656 = .ok (.iload_n 3, 1) := by decide +kernel
theorem dL_law_657 : decode cL_law 657 = .ok (.iconst 1, 1) := by decide +kernel
theorem dL_law_658 : decode cL_law 658 = .ok (.iadd, 1) := by decide +kernel
theorem dL_law_659 : decode cL_law 659 = .ok (.iaload, 1) := by decide +kernel
set_option maxRecDepth 20000 in
theorem ggL_law_X4_minutes : GoodIn wsL_law wsX4_minutes := goodIn_r _ [512, 16, 492, 106, 107, 2, 108, 513, 514, 515, 15, 516, 517, 518, 519, 520, 55, 45, 41, 56, 57, 421, 422, 423, 424, 44, 43, 425, 385, 386, 387, 426, 427, 428, 429, 406, 407, 408, 42, 40, 39, 430, 431, 432, 433, 521, 410, 411, 412, 413, 414, 415, 416, 522, 523, 524, 525, 526, 527, 528, 529, 530, 531, 532, 533, 534, 535, 536, 537, 1064, 1065, 1066, 1067, 1068, 1069, 1070, 1071, 1072, 1073, 1074, 1104, 1105, 1106, 1107, 1108, 1109, 1110, 1111, 1112, 1113, 1114] (by decide +kernel) (by decide +kernel)
set_option maxRecDepth 20000 in
theorem gL_law_X4_minutes : GoodIn wsL_law (wsV RL 69 RX4 yX4_minutes wsX4_minutes) := goodIn_app (goodIn_of _ (by decide +kernel)) ggL_law_X4_minutes
theorem dL_law_660 : decode cL_law 660 = .ok (.invokevirtual 69, 3) := by decide +kernel
theorem dL_law_663 : decode cL_law 663 = .ok (.aload_n 2, 1) := by decide +kernel
theorem dL_law_664 : decode cL_law 664 = .ok (.aload_n 0, 1) := by decide +kernel
theorem dL_law_665 : decode cL_law 665 = .ok (.iload_n 3, 1) := by decide +kernel
theorem dL_law_666 : decode cL_law 666 = .ok (.iconst 1, 1) := by decide +kernel
theorem dL_law_667 : decode cL_law 667 = .ok (.iadd, 1) := by decide +kernel
theorem dL_law_668 : decode cL_law 668 = .ok (.iaload, 1) := by decide +kernel
set_option maxRecDepth 20000 in
theorem ggL_law_X5_minutes : GoodIn wsL_law wsX5_minutes := goodIn_r _ [541, 542, 120, 121, 5, 122, 543, 544, 545, 546, 547, 548, 549, 550, 80, 86, 88, 447, 448, 449, 450, 397, 398, 399, 400, 451, 452, 453, 454, 439, 440, 441, 442, 443, 444, 445, 446, 551, 552, 553, 505, 506, 507, 508, 554, 555, 556, 1075, 1076, 1077, 1078, 1079, 1080, 1081, 1082, 1083, 1084, 1085, 1086, 1087, 1088, 1089, 1090, 1091, 1092, 1093, 1094, 1095, 1096, 1097, 1098, 1099, 1100, 1101, 1102, 1103] (by decide +kernel) (by decide +kernel)
set_option maxRecDepth 20000 in
theorem gL_law_X5_minutes : GoodIn wsL_law (wsV RL 72 RX5 yX5_minutes wsX5_minutes) := goodIn_app (goodIn_of _ (by decide +kernel)) ggL_law_X5_minutes
theorem dL_law_669 : decode cL_law 669 = .ok (.invokevirtual 72, 3) := by decide +kernel
theorem dL_law_672 : decode cL_law 672 = .ok (.if_icmp .eq 953, 3) := by decide +kernel
theorem dL_law_446 : decode cL_law 446 = .ok (.aload_n 1, 1) := by decide +kernel
theorem dL_law_447 : decode cL_law 447 = .ok (.aload_n 0, 1) := by decide +kernel
theorem dL_law_448 : decode cL_law 448 = .ok (.iload_n 3, 1) := by decide +kernel
theorem dL_law_449 : decode cL_law 449 = .ok (.iconst 1, 1) := by decide +kernel
theorem dL_law_450 : decode cL_law 450 = .ok (.iadd, 1) := by decide +kernel
theorem dL_law_451 : decode cL_law 451 = .ok (.iaload, 1) := by decide +kernel
theorem dL_law_452 : decode cL_law 452 = .ok (.aload_n 0, 1) := by decide +kernel
theorem dL_law_453 : decode cL_law 453 = .ok (.iload_n 3, 1) := by decide +kernel
theorem dL_law_454 : decode cL_law 454 = .ok (.iconst 2, 1) := by decide +kernel
theorem dL_law_455 : decode cL_law 455 = .ok (.iadd, 1) := by decide +kernel
theorem dL_law_456 : decode cL_law 456 = .ok (.iaload, 1) := by decide +kernel
set_option maxRecDepth 20000 in
theorem ggL_law_X4_does : GoodIn wsL_law wsX4_does := goodIn_r _ [404, 16, 380, 381, 382, 15, 383, 55, 107, 2, 108, 405, 406, 407, 408, 42, 40, 39, 41, 409, 410, 411, 412, 413, 414, 415, 416, 57, 417, 418, 419, 420, 45, 421, 422, 423, 424, 44, 43, 425, 385, 386, 387, 56, 426, 427, 428, 429, 430, 431, 432, 433, 1064, 1065, 1066, 1067, 1068, 1069, 1070, 1071, 1072, 1073, 1074, 1104, 1105, 1106, 1107, 1108, 1109, 1110, 1111, 1112, 1113, 1114] (by decide +kernel) (by decide +kernel)
set_option maxRecDepth 20000 in
theorem gL_law_X4_does : GoodIn wsL_law (wsV RL 44 RX4 yX4_does wsX4_does) := goodIn_app (goodIn_of _ (by decide +kernel)) ggL_law_X4_does
theorem dL_law_457 : decode cL_law 457 = .ok (.invokevirtual 44, 3) := by decide +kernel
theorem dL_law_460 : decode cL_law 460 = .ok (.aload_n 2, 1) := by decide +kernel
theorem dL_law_461 : decode cL_law 461 = .ok (.aload_n 0, 1) := by decide +kernel
theorem dL_law_462 : decode cL_law 462 = .ok (.iload_n 3, 1) := by decide +kernel
theorem dL_law_463 : decode cL_law 463 = .ok (.iconst 1, 1) := by decide +kernel
theorem dL_law_464 : decode cL_law 464 = .ok (.iadd, 1) := by decide +kernel
theorem dL_law_465 : decode cL_law 465 = .ok (.iaload, 1) := by decide +kernel
theorem dL_law_466 : decode cL_law 466 = .ok (.aload_n 0, 1) := by decide +kernel
theorem dL_law_467 : decode cL_law 467 = .ok (.iload_n 3, 1) := by decide +kernel
theorem dL_law_468 : decode cL_law 468 = .ok (.iconst 2, 1) := by decide +kernel
theorem dL_law_469 : decode cL_law 469 = .ok (.iadd, 1) := by decide +kernel
theorem dL_law_470 : decode cL_law 470 = .ok (.iaload, 1) := by decide +kernel
set_option maxRecDepth 20000 in
theorem ggL_law_X5_does : GoodIn wsL_law wsX5_does := goodIn_r _ [437, 438, 393, 394, 395, 5, 396, 80, 120, 121, 122, 439, 440, 441, 442, 397, 398, 399, 400, 443, 444, 445, 446, 447, 448, 449, 450, 451, 452, 453, 454, 1075, 1076, 1077, 1078, 1079, 1080, 1081, 1082, 1083, 1084, 1085, 1086, 1087, 1088, 1089, 1090, 1091, 1092, 1093, 1094, 1095, 1096, 1097, 1098, 1099, 1100, 1101, 1102, 1103] (by decide +kernel) (by decide +kernel)
set_option maxRecDepth 20000 in
theorem gL_law_X5_does : GoodIn wsL_law (wsV RL 47 RX5 yX5_does wsX5_does) := goodIn_app (goodIn_of _ (by decide +kernel)) ggL_law_X5_does
theorem dL_law_471 : decode cL_law 471 = .ok (.invokevirtual 47, 3) := by decide +kernel
theorem dL_law_474 : decode cL_law 474 = .ok (.if_icmp .eq 1151, 3) := by decide +kernel
theorem dL_law_677 : decode cL_law 677 = .ok (.aload_n 1, 1) := by decide +kernel
theorem dL_law_678 : decode cL_law 678 = .ok (.aload_n 0, 1) := by decide +kernel
theorem dL_law_679 : decode cL_law 679 = .ok (.iload_n 3, 1) := by decide +kernel
theorem dL_law_680 : decode cL_law 680 = .ok (.iconst 1, 1) := by decide +kernel
theorem dL_law_681 : decode cL_law 681 = .ok (.iadd, 1) := by decide +kernel
theorem dL_law_682 : decode cL_law 682 = .ok (.iaload, 1) := by decide +kernel
set_option maxRecDepth 20000 in
theorem ggL_law_X4_seed : GoodIn wsL_law wsX4_seed := goodIn_r _ [560, 16, 127, 1064, 1065, 1066, 1067, 1068, 1069, 1070, 1071, 1072, 1073, 1074, 1104, 1105, 1106, 1107, 1108, 1109, 1110, 1111, 1112, 1113, 1114] (by decide +kernel) (by decide +kernel)
set_option maxRecDepth 20000 in
theorem gL_law_X4_seed : GoodIn wsL_law (wsV RL 73 RX4 yX4_seed wsX4_seed) := goodIn_app (goodIn_of _ (by decide +kernel)) ggL_law_X4_seed
theorem dL_law_683 : decode cL_law 683 = .ok (.invokevirtual 73, 3) := by decide +kernel
theorem dL_law_686 : decode cL_law 686 = .ok (.aload_n 2, 1) := by decide +kernel
theorem dL_law_687 : decode cL_law 687 = .ok (.aload_n 0, 1) := by decide +kernel
theorem dL_law_688 : decode cL_law 688 = .ok (.iload_n 3, 1) := by decide +kernel
theorem dL_law_689 : decode cL_law 689 = .ok (.iconst 1, 1) := by decide +kernel
theorem dL_law_690 : decode cL_law 690 = .ok (.iadd, 1) := by decide +kernel
theorem dL_law_691 : decode cL_law 691 = .ok (.iaload, 1) := by decide +kernel
set_option maxRecDepth 20000 in
theorem ggL_law_X5_seed : GoodIn wsL_law wsX5_seed := goodIn_r _ [564, 335, 336, 337, 5, 338, 80, 1075, 1076, 1077, 1078, 1079, 1080, 1081, 1082, 1083, 1084, 1085, 1086, 1087, 1088, 1089, 1090, 1091, 1092, 1093, 1094, 1095, 1096, 1097, 1098, 1099, 1100, 1101, 1102, 1103] (by decide +kernel) (by decide +kernel)
set_option maxRecDepth 20000 in
theorem gL_law_X5_seed : GoodIn wsL_law (wsV RL 76 RX5 yX5_seed wsX5_seed) := goodIn_app (goodIn_of _ (by decide +kernel)) ggL_law_X5_seed
theorem dL_law_692 : decode cL_law 692 = .ok (.invokevirtual 76, 3) := by decide +kernel
theorem dL_law_695 : decode cL_law 695 = .ok (.if_icmp .eq 930, 3) := by decide +kernel
section LAW
variable {p : Program} {l : Launch} {e : Env} {s : State} {m : MethodId} {below : List Frame} {meth : Method} {c : Code} {D : va_G} {q : Nat → ClassId} {tt : Nat → Nat} {b L : Nat} {xs : Nat → Int32}
variable {pc : Nat} {lv : List (Nat × Value)} {st : List Value} {ws : va_W} {cells slots : Nat}
set_option maxRecDepth 100000 in
set_option maxHeartbeats 4000000 in
theorem lw_pride {B : Nat → Nat → Nat} {a : Nat → Nat} {o : OC} {h1 h2 h3 : HC} {t : TC} {g : GC} {P : List PE} {v : MC} {N n rn c0 k : Nat} (X : Lx p s m meth c D q tt b L xs) (r : LR o h1 h3 t g P v N n rn c0) (hk : k + 5 ≤ L) (hc : cells + 10 ≤ 600000) (hs : slots + 60 ≤ 7302250) (kk : ∀ (o : OC) (h1 h2 h3 : HC) (t : TC) (g : GC) (P : List PE) (v : MC) (N n rn c0 c2 s2 : Nat), LR o h1 h3 t g P v N n rn c0 → c2 ≤ cells + 2 → s2 ≤ slots + 42 → GL p l e s m below meth c D b 1625 (lvk b B a k) [] ((ow q B o ++ (hw q (B 1) h1 ++ (hw q (B 2) h2 ++ (hw q (B 3) h3 ++ (tw q (B 4) t ++ (sw q (B 5) g)))))) ++ (pw q P ++ mw q a v)) c2 s2) : GL p l e s m below meth c D b 522 (lvk b B a k) [] ((ow q B o ++ (hw q (B 1) h1 ++ (hw q (B 2) h2 ++ (hw q (B 3) h3 ++ (tw q (B 4) t ++ (sw q (B 5) g)))))) ++ (pw q P ++ mw q a v)) cells slots := by
  refine g_aloadn X.1 dL_law_522 1 rfl rfl ?_
  refine g_scr X 1 dL_law_523 dL_law_524 dL_law_525 (by decide) dL_law_526 dL_law_527 (by omega) ?_
  refine g_scr X 2 dL_law_528 dL_law_529 dL_law_530 (by decide) dL_law_531 dL_law_532 (by omega) ?_
  refine g_callLi X.1 (rd_V X.1 (k_X4_pride l D q tt B o h1 h2 h3 t g (m_s v) N (xs (k + 1)) (xs (k + 2)) r.gd r.hr) gL_law_X4_pride rfl rfl rfl 2 ok_X4_pride rfl 0 rfl rfl (rest := []) rfl rfl (Nat.le_of_ble_eq_true rfl) dL_law_533 ⟨(Nat.le_of_ble_eq_true rfl), (Nat.le_of_ble_eq_true rfl)⟩ ⟨(show cells + _ ≤ 600000 by omega), (show slots + _ ≤ 7302250 by omega)⟩) (fun r1_ u1 h1_ => ?_)
  refine g_asc ?_
  refine g_aloadn X.1 dL_law_536 2 rfl rfl ?_
  refine g_scr X 1 dL_law_537 dL_law_538 dL_law_539 (by decide) dL_law_540 dL_law_541 (by omega) ?_
  refine g_scr X 2 dL_law_542 dL_law_543 dL_law_544 (by decide) dL_law_545 dL_law_546 (by omega) ?_
  refine g_callRi X.1 (rd_V X.1 (k_X5_pride l D q tt a v N (xs (k + 1)) (xs (k + 2)) r.gd) gL_law_X5_pride rfl rfl rfl 2 ok_X5_pride rfl 0 rfl rfl (rest := [.int r1_]) rfl rfl (Nat.le_of_ble_eq_true rfl) dL_law_547 ⟨(Nat.le_of_ble_eq_true rfl), (Nat.le_of_ble_eq_true rfl)⟩ ⟨(show cells + 0 + _ ≤ 600000 by omega), (show slots + 0 + _ ≤ 7302250 by omega)⟩) (fun r2_ u2 h2_ => ?_)
  refine g_asc' ?_
  obtain ⟨e1_, N2_, hg_, hh_⟩ := h1_
  have e_ : r1_ = r2_ := e1_.trans h2_.1.symm
  refine g_icmp_eq X.1 1625 dL_law_550 rfl (fun _ => ?_) (fun h_ => absurd e_ h_)
  exact kk _ _ _ _ _ _ _ _ _ _ _ _ _ _ (r.house (N2 := N2_) ⟨(show Gd u2 N2_ by rw [h2_.2]; exact hg_), (show HR u2 N2_ u1 by rw [h2_.2]; exact hh_)⟩ ⟨rfl, rfl, rfl, rfl, rfl, rfl, rfl, rfl, rfl, rfl, rfl, rfl, rfl, rfl⟩) (by omega) (by omega)

set_option maxRecDepth 100000 in
set_option maxHeartbeats 4000000 in
theorem lw_move {B : Nat → Nat → Nat} {a : Nat → Nat} {o : OC} {h1 h2 h3 : HC} {t : TC} {g : GC} {P : List PE} {v : MC} {N n rn c0 k : Nat} (X : Lx p s m meth c D q tt b L xs) (r : LR o h1 h3 t g P v N n rn c0) (hk : k + 5 ≤ L) (hc : cells + 10 ≤ 600000) (hs : slots + 60 ≤ 7302250) (kk : ∀ (o : OC) (h1 h2 h3 : HC) (t : TC) (g : GC) (P : List PE) (v : MC) (N n rn c0 c2 s2 : Nat), LR o h1 h3 t g P v N n rn c0 → c2 ≤ cells + 2 → s2 ≤ slots + 42 → GL p l e s m below meth c D b 1625 (lvk b B a k) [] ((ow q B o ++ (hw q (B 1) h1 ++ (hw q (B 2) h2 ++ (hw q (B 3) h3 ++ (tw q (B 4) t ++ (sw q (B 5) g)))))) ++ (pw q P ++ mw q a v)) c2 s2) : GL p l e s m below meth c D b 555 (lvk b B a k) [] ((ow q B o ++ (hw q (B 1) h1 ++ (hw q (B 2) h2 ++ (hw q (B 3) h3 ++ (tw q (B 4) t ++ (sw q (B 5) g)))))) ++ (pw q P ++ mw q a v)) cells slots := by
  refine g_aloadn X.1 dL_law_555 1 rfl rfl ?_
  refine g_scr X 1 dL_law_556 dL_law_557 dL_law_558 (by decide) dL_law_559 dL_law_560 (by omega) ?_
  refine g_scr X 2 dL_law_561 dL_law_562 dL_law_563 (by decide) dL_law_564 dL_law_565 (by omega) ?_
  refine g_callLi X.1 (rd_V X.1 (k_X4_move l D q tt B o h1 h2 h3 t g (m_s v) N (xs (k + 1)) (xs (k + 2)) r.gd r.hr) gL_law_X4_move rfl rfl rfl 2 ok_X4_move rfl 0 rfl rfl (rest := []) rfl rfl (Nat.le_of_ble_eq_true rfl) dL_law_566 ⟨(Nat.le_of_ble_eq_true rfl), (Nat.le_of_ble_eq_true rfl)⟩ ⟨(show cells + _ ≤ 600000 by omega), (show slots + _ ≤ 7302250 by omega)⟩) (fun r1_ u1 h1_ => ?_)
  refine g_asc ?_
  refine g_aloadn X.1 dL_law_569 2 rfl rfl ?_
  refine g_scr X 1 dL_law_570 dL_law_571 dL_law_572 (by decide) dL_law_573 dL_law_574 (by omega) ?_
  refine g_scr X 2 dL_law_575 dL_law_576 dL_law_577 (by decide) dL_law_578 dL_law_579 (by omega) ?_
  refine g_callRi X.1 (rd_V X.1 (k_X5_move l D q tt a v N (xs (k + 1)) (xs (k + 2)) r.gd) gL_law_X5_move rfl rfl rfl 2 ok_X5_move rfl 0 rfl rfl (rest := [.int r1_]) rfl rfl (Nat.le_of_ble_eq_true rfl) dL_law_580 ⟨(Nat.le_of_ble_eq_true rfl), (Nat.le_of_ble_eq_true rfl)⟩ ⟨(show cells + 0 + _ ≤ 600000 by omega), (show slots + 0 + _ ≤ 7302250 by omega)⟩) (fun r2_ u2 h2_ => ?_)
  refine g_asc' ?_
  obtain ⟨e1_, N2_, hg_, hh_⟩ := h1_
  have e_ : r1_ = r2_ := e1_.trans h2_.1.symm
  refine g_icmp_eq X.1 1625 dL_law_583 rfl (fun _ => ?_) (fun h_ => absurd e_ h_)
  exact kk _ _ _ _ _ _ _ _ _ _ _ _ _ _ (r.house (N2 := N2_) ⟨(show Gd u2 N2_ by rw [h2_.2]; exact hg_), (show HR u2 N2_ u1 by rw [h2_.2]; exact hh_)⟩ ⟨rfl, rfl, rfl, rfl, rfl, rfl, rfl, rfl, rfl, rfl, rfl, rfl, rfl, rfl⟩) (by omega) (by omega)

set_option maxRecDepth 100000 in
set_option maxHeartbeats 4000000 in
theorem lw_clap {B : Nat → Nat → Nat} {a : Nat → Nat} {o : OC} {h1 h2 h3 : HC} {t : TC} {g : GC} {P : List PE} {v : MC} {N n rn c0 k : Nat} (X : Lx p s m meth c D q tt b L xs) (r : LR o h1 h3 t g P v N n rn c0) (hk : k + 5 ≤ L) (hc : cells + 10 ≤ 600000) (hs : slots + 60 ≤ 7302250) (kk : ∀ (o : OC) (h1 h2 h3 : HC) (t : TC) (g : GC) (P : List PE) (v : MC) (N n rn c0 c2 s2 : Nat), LR o h1 h3 t g P v N n rn c0 → c2 ≤ cells + 2 → s2 ≤ slots + 42 → GL p l e s m below meth c D b 1625 (lvk b B a k) [] ((ow q B o ++ (hw q (B 1) h1 ++ (hw q (B 2) h2 ++ (hw q (B 3) h3 ++ (tw q (B 4) t ++ (sw q (B 5) g)))))) ++ (pw q P ++ mw q a v)) c2 s2) : GL p l e s m below meth c D b 588 (lvk b B a k) [] ((ow q B o ++ (hw q (B 1) h1 ++ (hw q (B 2) h2 ++ (hw q (B 3) h3 ++ (tw q (B 4) t ++ (sw q (B 5) g)))))) ++ (pw q P ++ mw q a v)) cells slots := by
  refine g_aloadn X.1 dL_law_588 1 rfl rfl ?_
  refine g_scr X 1 dL_law_589 dL_law_590 dL_law_591 (by decide) dL_law_592 dL_law_593 (by omega) ?_
  refine g_scr X 2 dL_law_594 dL_law_595 dL_law_596 (by decide) dL_law_597 dL_law_598 (by omega) ?_
  refine g_callLi X.1 (rd_V X.1 (k_X4_clap l D q tt B o h1 h2 h3 t g (m_s v) N (xs (k + 1)) (xs (k + 2)) r.gd r.hr) gL_law_X4_clap rfl rfl rfl 2 ok_X4_clap rfl 0 rfl rfl (rest := []) rfl rfl (Nat.le_of_ble_eq_true rfl) dL_law_599 ⟨(Nat.le_of_ble_eq_true rfl), (Nat.le_of_ble_eq_true rfl)⟩ ⟨(show cells + _ ≤ 600000 by omega), (show slots + _ ≤ 7302250 by omega)⟩) (fun r1_ u1 h1_ => ?_)
  refine g_asc ?_
  refine g_aloadn X.1 dL_law_602 2 rfl rfl ?_
  refine g_scr X 1 dL_law_603 dL_law_604 dL_law_605 (by decide) dL_law_606 dL_law_607 (by omega) ?_
  refine g_scr X 2 dL_law_608 dL_law_609 dL_law_610 (by decide) dL_law_611 dL_law_612 (by omega) ?_
  refine g_callRi X.1 (rd_V X.1 (k_X5_clap l D q tt a v N (xs (k + 1)) (xs (k + 2)) r.gd) gL_law_X5_clap rfl rfl rfl 2 ok_X5_clap rfl 0 rfl rfl (rest := [.int r1_]) rfl rfl (Nat.le_of_ble_eq_true rfl) dL_law_613 ⟨(Nat.le_of_ble_eq_true rfl), (Nat.le_of_ble_eq_true rfl)⟩ ⟨(show cells + 0 + _ ≤ 600000 by omega), (show slots + 0 + _ ≤ 7302250 by omega)⟩) (fun r2_ u2 h2_ => ?_)
  refine g_asc' ?_
  obtain ⟨e1_, N2_, hg_, hh_⟩ := h1_
  have e_ : r1_ = r2_ := e1_.trans h2_.1.symm
  refine g_icmp_eq X.1 1625 dL_law_616 rfl (fun _ => ?_) (fun h_ => absurd e_ h_)
  exact kk _ _ _ _ _ _ _ _ _ _ _ _ _ _ (r.house (N2 := N2_) ⟨(show Gd u2 N2_ by rw [h2_.2]; exact hg_), (show HR u2 N2_ u1 by rw [h2_.2]; exact hh_)⟩ ⟨rfl, rfl, rfl, rfl, rfl, rfl, rfl, rfl, rfl, rfl, rfl, rfl, rfl, rfl⟩) (by omega) (by omega)

set_option maxRecDepth 100000 in
set_option maxHeartbeats 4000000 in
theorem lw_minutes {B : Nat → Nat → Nat} {a : Nat → Nat} {o : OC} {h1 h2 h3 : HC} {t : TC} {g : GC} {P : List PE} {v : MC} {N n rn c0 k : Nat} (X : Lx p s m meth c D q tt b L xs) (r : LR o h1 h3 t g P v N n rn c0) (hk : k + 5 ≤ L) (hc : cells + 10 ≤ 600000) (hs : slots + 60 ≤ 7302250) (kk : ∀ (o : OC) (h1 h2 h3 : HC) (t : TC) (g : GC) (P : List PE) (v : MC) (N n rn c0 c2 s2 : Nat), LR o h1 h3 t g P v N n rn c0 → c2 ≤ cells + 2 → s2 ≤ slots + 42 → GL p l e s m below meth c D b 1625 (lvk b B a k) [] ((ow q B o ++ (hw q (B 1) h1 ++ (hw q (B 2) h2 ++ (hw q (B 3) h3 ++ (tw q (B 4) t ++ (sw q (B 5) g)))))) ++ (pw q P ++ mw q a v)) c2 s2) : GL p l e s m below meth c D b 654 (lvk b B a k) [] ((ow q B o ++ (hw q (B 1) h1 ++ (hw q (B 2) h2 ++ (hw q (B 3) h3 ++ (tw q (B 4) t ++ (sw q (B 5) g)))))) ++ (pw q P ++ mw q a v)) cells slots := by
  refine g_aloadn X.1 dL_law_654 1 rfl rfl ?_
  refine g_scr X 1 dL_law_655 dL_law_656 dL_law_657 (by decide) dL_law_658 dL_law_659 (by omega) ?_
  refine g_callLi X.1 (rd_V X.1 (k_X4_minutes l D q tt B o h1 h2 h3 t g (m_s v) N (xs (k + 1)) r.gd r.hr) gL_law_X4_minutes rfl rfl rfl 1 ok_X4_minutes rfl 0 rfl rfl (rest := []) rfl rfl (Nat.le_of_ble_eq_true rfl) dL_law_660 ⟨(Nat.le_of_ble_eq_true rfl), (Nat.le_of_ble_eq_true rfl)⟩ ⟨(show cells + _ ≤ 600000 by omega), (show slots + _ ≤ 7302250 by omega)⟩) (fun r1_ u1 h1_ => ?_)
  refine g_asc ?_
  refine g_aloadn X.1 dL_law_663 2 rfl rfl ?_
  refine g_scr X 1 dL_law_664 dL_law_665 dL_law_666 (by decide) dL_law_667 dL_law_668 (by omega) ?_
  refine g_callRi X.1 (rd_V X.1 (k_X5_minutes l D q tt a v N (xs (k + 1)) r.gd) gL_law_X5_minutes rfl rfl rfl 1 ok_X5_minutes rfl 0 rfl rfl (rest := [.int r1_]) rfl rfl (Nat.le_of_ble_eq_true rfl) dL_law_669 ⟨(Nat.le_of_ble_eq_true rfl), (Nat.le_of_ble_eq_true rfl)⟩ ⟨(show cells + 0 + _ ≤ 600000 by omega), (show slots + 0 + _ ≤ 7302250 by omega)⟩) (fun r2_ u2 h2_ => ?_)
  refine g_asc' ?_
  obtain ⟨e1_, N2_, hg_, hh_⟩ := h1_
  have e_ : r1_ = r2_ := e1_.trans h2_.1.symm
  refine g_icmp_eq X.1 1625 dL_law_672 rfl (fun _ => ?_) (fun h_ => absurd e_ h_)
  exact kk _ _ _ _ _ _ _ _ _ _ _ _ _ _ (r.house (N2 := N2_) ⟨(show Gd u2.1 N2_ by rw [h2_.2]; exact hg_), (show HR u2.1 N2_ u1 by rw [h2_.2]; exact hh_)⟩ ⟨rfl, rfl, rfl, rfl, rfl, rfl, rfl, rfl, rfl, rfl, rfl, rfl, rfl, rfl⟩) (by omega) (by omega)

set_option maxRecDepth 100000 in
set_option maxHeartbeats 4000000 in
theorem lw_does {B : Nat → Nat → Nat} {a : Nat → Nat} {o : OC} {h1 h2 h3 : HC} {t : TC} {g : GC} {P : List PE} {v : MC} {N n rn c0 k : Nat} (X : Lx p s m meth c D q tt b L xs) (r : LR o h1 h3 t g P v N n rn c0) (hk : k + 5 ≤ L) (hc : cells + 10 ≤ 600000) (hs : slots + 60 ≤ 7302250) (kk : ∀ (o : OC) (h1 h2 h3 : HC) (t : TC) (g : GC) (P : List PE) (v : MC) (N n rn c0 c2 s2 : Nat), LR o h1 h3 t g P v N n rn c0 → c2 ≤ cells + 2 → s2 ≤ slots + 42 → GL p l e s m below meth c D b 1625 (lvk b B a k) [] ((ow q B o ++ (hw q (B 1) h1 ++ (hw q (B 2) h2 ++ (hw q (B 3) h3 ++ (tw q (B 4) t ++ (sw q (B 5) g)))))) ++ (pw q P ++ mw q a v)) c2 s2) : GL p l e s m below meth c D b 446 (lvk b B a k) [] ((ow q B o ++ (hw q (B 1) h1 ++ (hw q (B 2) h2 ++ (hw q (B 3) h3 ++ (tw q (B 4) t ++ (sw q (B 5) g)))))) ++ (pw q P ++ mw q a v)) cells slots := by
  refine g_aloadn X.1 dL_law_446 1 rfl rfl ?_
  refine g_scr X 1 dL_law_447 dL_law_448 dL_law_449 (by decide) dL_law_450 dL_law_451 (by omega) ?_
  refine g_scr X 2 dL_law_452 dL_law_453 dL_law_454 (by decide) dL_law_455 dL_law_456 (by omega) ?_
  refine g_callLi X.1 (rd_V X.1 (k_X4_does l D q tt B o h1 h2 h3 t g (m_s v) N (xs (k + 1)) (xs (k + 2)) r.gd r.hr) gL_law_X4_does rfl rfl rfl 2 ok_X4_does rfl 0 rfl rfl (rest := []) rfl rfl (Nat.le_of_ble_eq_true rfl) dL_law_457 ⟨(Nat.le_of_ble_eq_true rfl), (Nat.le_of_ble_eq_true rfl)⟩ ⟨(show cells + _ ≤ 600000 by omega), (show slots + _ ≤ 7302250 by omega)⟩) (fun r1_ u1 h1_ => ?_)
  refine g_asc ?_
  refine g_aloadn X.1 dL_law_460 2 rfl rfl ?_
  refine g_scr X 1 dL_law_461 dL_law_462 dL_law_463 (by decide) dL_law_464 dL_law_465 (by omega) ?_
  refine g_scr X 2 dL_law_466 dL_law_467 dL_law_468 (by decide) dL_law_469 dL_law_470 (by omega) ?_
  refine g_callRi X.1 (rd_V X.1 (k_X5_does l D q tt a v N (xs (k + 1)) (xs (k + 2)) r.gd) gL_law_X5_does rfl rfl rfl 2 ok_X5_does rfl 0 rfl rfl (rest := [.int r1_]) rfl rfl (Nat.le_of_ble_eq_true rfl) dL_law_471 ⟨(Nat.le_of_ble_eq_true rfl), (Nat.le_of_ble_eq_true rfl)⟩ ⟨(show cells + 0 + _ ≤ 600000 by omega), (show slots + 0 + _ ≤ 7302250 by omega)⟩) (fun r2_ u2 h2_ => ?_)
  refine g_asc' ?_
  obtain ⟨e1_, N2_, hg_, hh_⟩ := h1_
  have e_ : r1_ = r2_ := e1_.trans h2_.symm
  refine g_icmp_eq X.1 1625 dL_law_474 rfl (fun _ => ?_) (fun h_ => absurd e_ h_)
  exact kk _ _ _ _ _ _ _ _ _ _ _ _ _ _ (r.house ⟨hg_, hh_⟩ ⟨rfl, rfl, rfl, rfl, rfl, rfl, rfl, rfl, rfl, rfl, rfl, rfl, rfl, rfl⟩) (by omega) (by omega)

set_option maxRecDepth 100000 in
set_option maxHeartbeats 4000000 in
theorem lw_seed {B : Nat → Nat → Nat} {a : Nat → Nat} {o : OC} {h1 h2 h3 : HC} {t : TC} {g : GC} {P : List PE} {v : MC} {N n rn c0 k : Nat} (X : Lx p s m meth c D q tt b L xs) (r : LR o h1 h3 t g P v N n rn c0) (hk : k + 5 ≤ L) (hc : cells + 10 ≤ 600000) (hs : slots + 60 ≤ 7302250) (kk : ∀ (o : OC) (h1 h2 h3 : HC) (t : TC) (g : GC) (P : List PE) (v : MC) (N n rn c0 c2 s2 : Nat), LR o h1 h3 t g P v N n rn c0 → c2 ≤ cells + 2 → s2 ≤ slots + 42 → GL p l e s m below meth c D b 1625 (lvk b B a k) [] ((ow q B o ++ (hw q (B 1) h1 ++ (hw q (B 2) h2 ++ (hw q (B 3) h3 ++ (tw q (B 4) t ++ (sw q (B 5) g)))))) ++ (pw q P ++ mw q a v)) c2 s2) : GL p l e s m below meth c D b 677 (lvk b B a k) [] ((ow q B o ++ (hw q (B 1) h1 ++ (hw q (B 2) h2 ++ (hw q (B 3) h3 ++ (tw q (B 4) t ++ (sw q (B 5) g)))))) ++ (pw q P ++ mw q a v)) cells slots := by
  refine g_aloadn X.1 dL_law_677 1 rfl rfl ?_
  refine g_scr X 1 dL_law_678 dL_law_679 dL_law_680 (by decide) dL_law_681 dL_law_682 (by omega) ?_
  refine g_callLi X.1 (rd_V X.1 (k_X4_seed l D q tt B o h1 h2 h3 t g (m_s v) N (xs (k + 1)) r.gd r.hr) gL_law_X4_seed rfl rfl rfl 1 ok_X4_seed rfl 0 rfl rfl (rest := []) rfl rfl (Nat.le_of_ble_eq_true rfl) dL_law_683 ⟨(Nat.le_of_ble_eq_true rfl), (Nat.le_of_ble_eq_true rfl)⟩ ⟨(show cells + _ ≤ 600000 by omega), (show slots + _ ≤ 7302250 by omega)⟩) (fun r1_ u1 h1_ => ?_)
  refine g_asc ?_
  refine g_aloadn X.1 dL_law_686 2 rfl rfl ?_
  refine g_scr X 1 dL_law_687 dL_law_688 dL_law_689 (by decide) dL_law_690 dL_law_691 (by omega) ?_
  refine g_callRi X.1 (rd_V X.1 (k_X5_seed l D q tt a v (xs (k + 1))) gL_law_X5_seed rfl rfl rfl 1 ok_X5_seed rfl 0 rfl rfl (rest := [.int r1_]) rfl rfl (Nat.le_of_ble_eq_true rfl) dL_law_692 ⟨(Nat.le_of_ble_eq_true rfl), (Nat.le_of_ble_eq_true rfl)⟩ ⟨(show cells + 0 + _ ≤ 600000 by omega), (show slots + 0 + _ ≤ 7302250 by omega)⟩) (fun r2_ u2 h2_ => ?_)
  refine g_asc' ?_
  obtain ⟨e1_, N2_, hg_, hh_⟩ := h1_
  have e_ : r1_ = r2_ := e1_.trans h2_.symm
  refine g_icmp_eq X.1 1625 dL_law_695 rfl (fun _ => ?_) (fun h_ => absurd e_ h_)
  exact kk _ _ _ _ _ _ _ _ _ _ _ _ _ _ (r.house ⟨hg_, hh_⟩ ⟨rfl, rfl, rfl, rfl, rfl, rfl, rfl, rfl, rfl, rfl, rfl, rfl, rfl, rfl⟩) (by omega) (by omega)
end LAW
