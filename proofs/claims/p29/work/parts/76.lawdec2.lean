/-! ===== by program (wip/p29/lawdec.py): the law's instructions ===== -/
theorem dL_refuses_518 : decode cL_refuses 518 = .ok (.ldc 15, 2) := by decide +kernel
theorem dL_refuses_520 : decode cL_refuses 520 = .ok (.if_icmp .ne 7, 3) := by decide +kernel
theorem dL_refuses_523 : decode cL_refuses 523 = .ok (.iconst 1, 1) := by decide +kernel
theorem dL_refuses_524 : decode cL_refuses 524 = .ok (.goto 4, 3) := by decide +kernel
theorem dL_refuses_527 : decode cL_refuses 527 = .ok (.iconst 0, 1) := by decide +kernel
theorem dL_refuses_528 : decode cL_refuses 528 = .ok (.istore 6, 2) := by decide +kernel
theorem dL_refuses_530 : decode cL_refuses 530 = .ok (.iload_n 1, 1) := by decide +kernel
theorem dL_refuses_531 : decode cL_refuses 531 = .ok (.bipush 40, 2) := by decide +kernel
theorem dL_refuses_533 : decode cL_refuses 533 = .ok (.irem, 1) := by decide +kernel
theorem dL_refuses_534 : decode cL_refuses 534 = .ok (.istore 7, 2) := by decide +kernel
theorem dL_refuses_536 : decode cL_refuses 536 = .ok (.iload 6, 2) := by decide +kernel
theorem dL_refuses_538 : decode cL_refuses 538 = .ok (.ifCond .eq 115, 3) := by decide +kernel
theorem dL_refuses_541 : decode cL_refuses 541 = .ok (.aload_n 0, 1) := by decide +kernel
theorem dL_refuses_542 : decode cL_refuses 542 = .ok (.iload_n 1, 1) := by decide +kernel
theorem dL_refuses_543 : decode cL_refuses 543 = .ok (.iconst 3, 1) := by decide +kernel
theorem dL_refuses_544 : decode cL_refuses 544 = .ok (.irem, 1) := by decide +kernel
theorem dL_refuses_545 : decode cL_refuses 545 = .ok (.iload 7, 2) := by decide +kernel
theorem dL_refuses_547 : decode cL_refuses 547 = .ok (.invokestatic 118, 3) := by decide +kernel
theorem dL_refuses_550 : decode cL_refuses 550 = .ok (.ifCond .eq 22, 3) := by decide +kernel
theorem dL_refuses_553 : decode cL_refuses 553 = .ok (.aload_n 0, 1) := by decide +kernel
theorem dL_refuses_554 : decode cL_refuses 554 = .ok (.iload_n 1, 1) := by decide +kernel
theorem dL_refuses_555 : decode cL_refuses 555 = .ok (.iconst 3, 1) := by decide +kernel
theorem dL_refuses_556 : decode cL_refuses 556 = .ok (.irem, 1) := by decide +kernel
theorem dL_refuses_557 : decode cL_refuses 557 = .ok (.iload_n 1, 1) := by decide +kernel
theorem dL_refuses_558 : decode cL_refuses 558 = .ok (.iconst 3, 1) := by decide +kernel
theorem dL_refuses_559 : decode cL_refuses 559 = .ok (.idiv, 1) := by decide +kernel
theorem dL_refuses_560 : decode cL_refuses 560 = .ok (.iconst 2, 1) := by decide +kernel
theorem dL_refuses_561 : decode cL_refuses 561 = .ok (.irem, 1) := by decide +kernel
theorem dL_refuses_562 : decode cL_refuses 562 = .ok (.iload 7, 2) := by decide +kernel
theorem dL_refuses_564 : decode cL_refuses 564 = .ok (.invokestatic 112, 3) := by decide +kernel
theorem dL_refuses_567 : decode cL_refuses 567 = .ok (.ldc 28, 2) := by decide +kernel
theorem dL_refuses_569 : decode cL_refuses 569 = .ok (.if_icmp .ne 84, 3) := by decide +kernel
theorem dL_refuses_572 : decode cL_refuses 572 = .ok (.aload_n 0, 1) := by decide +kernel
theorem dL_refuses_573 : decode cL_refuses 573 = .ok (.iload_n 1, 1) := by decide +kernel
theorem dL_refuses_574 : decode cL_refuses 574 = .ok (.iconst 3, 1) := by decide +kernel
theorem dL_refuses_575 : decode cL_refuses 575 = .ok (.irem, 1) := by decide +kernel
theorem dL_refuses_576 : decode cL_refuses 576 = .ok (.iconst 0, 1) := by decide +kernel
theorem dL_refuses_577 : decode cL_refuses 577 = .ok (.iconst 0, 1) := by decide +kernel
theorem dL_refuses_578 : decode cL_refuses 578 = .ok (.invokestatic 115, 3) := by decide +kernel
theorem dL_refuses_581 : decode cL_refuses 581 = .ok (.ifCond .lt 15, 3) := by decide +kernel
theorem dL_refuses_584 : decode cL_refuses 584 = .ok (.aload_n 0, 1) := by decide +kernel
theorem dL_refuses_585 : decode cL_refuses 585 = .ok (.iload_n 1, 1) := by decide +kernel
theorem dL_refuses_586 : decode cL_refuses 586 = .ok (.iconst 3, 1) := by decide +kernel
theorem dL_refuses_587 : decode cL_refuses 587 = .ok (.irem, 1) := by decide +kernel
theorem dL_refuses_588 : decode cL_refuses 588 = .ok (.iconst 1, 1) := by decide +kernel
theorem dL_refuses_589 : decode cL_refuses 589 = .ok (.iconst 0, 1) := by decide +kernel
theorem dL_refuses_590 : decode cL_refuses 590 = .ok (.invokestatic 115, 3) := by decide +kernel
theorem dL_refuses_593 : decode cL_refuses 593 = .ok (.ifCond .ge 29, 3) := by decide +kernel
theorem dL_refuses_596 : decode cL_refuses 596 = .ok (.aload_n 0, 1) := by decide +kernel
theorem dL_refuses_597 : decode cL_refuses 597 = .ok (.iload_n 1, 1) := by decide +kernel
theorem dL_refuses_598 : decode cL_refuses 598 = .ok (.iconst 3, 1) := by decide +kernel
theorem dL_refuses_599 : decode cL_refuses 599 = .ok (.irem, 1) := by decide +kernel
theorem dL_refuses_600 : decode cL_refuses 600 = .ok (.iconst 0, 1) := by decide +kernel
theorem dL_refuses_601 : decode cL_refuses 601 = .ok (.invokestatic 106, 3) := by decide +kernel
theorem dL_refuses_604 : decode cL_refuses 604 = .ok (.ldc 28, 2) := by decide +kernel
theorem dL_refuses_606 : decode cL_refuses 606 = .ok (.if_icmp .ne 47, 3) := by decide +kernel
theorem dL_refuses_609 : decode cL_refuses 609 = .ok (.aload_n 0, 1) := by decide +kernel
theorem dL_refuses_610 : decode cL_refuses 610 = .ok (.iload_n 1, 1) := by decide +kernel
theorem dL_refuses_611 : decode cL_refuses 611 = .ok (.iconst 3, 1) := by decide +kernel
theorem dL_refuses_612 : decode cL_refuses 612 = .ok (.irem, 1) := by decide +kernel
theorem dL_refuses_613 : decode cL_refuses 613 = .ok (.iconst 1, 1) := by decide +kernel
theorem dL_refuses_614 : decode cL_refuses 614 = .ok (.invokestatic 106, 3) := by decide +kernel
theorem dL_refuses_617 : decode cL_refuses 617 = .ok (.ldc 28, 2) := by decide +kernel
theorem dL_refuses_619 : decode cL_refuses 619 = .ok (.if_icmp .ne 34, 3) := by decide +kernel
theorem dL_refuses_622 : decode cL_refuses 622 = .ok (.aload_n 0, 1) := by decide +kernel
theorem dL_refuses_623 : decode cL_refuses 623 = .ok (.iload_n 1, 1) := by decide +kernel
theorem dL_refuses_624 : decode cL_refuses 624 = .ok (.iconst 3, 1) := by decide +kernel
theorem dL_refuses_625 : decode cL_refuses 625 = .ok (.irem, 1) := by decide +kernel
theorem dL_refuses_626 : decode cL_refuses 626 = .ok (.iconst 1, 1) := by decide +kernel
theorem dL_refuses_627 : decode cL_refuses 627 = .ok (.iconst 0, 1) := by decide +kernel
theorem dL_refuses_628 : decode cL_refuses 628 = .ok (.invokestatic 115, 3) := by decide +kernel
theorem dL_refuses_631 : decode cL_refuses 631 = .ok (.ldc 28, 2) := by decide +kernel
theorem dL_refuses_633 : decode cL_refuses 633 = .ok (.if_icmp .eq 16, 3) := by decide +kernel
theorem dL_refuses_636 : decode cL_refuses 636 = .ok (.aload_n 0, 1) := by decide +kernel
theorem dL_refuses_637 : decode cL_refuses 637 = .ok (.iload_n 1, 1) := by decide +kernel
theorem dL_refuses_638 : decode cL_refuses 638 = .ok (.iconst 3, 1) := by decide +kernel
theorem dL_refuses_639 : decode cL_refuses 639 = .ok (.irem, 1) := by decide +kernel
theorem dL_refuses_640 : decode cL_refuses 640 = .ok (.iconst 1, 1) := by decide +kernel
theorem dL_refuses_641 : decode cL_refuses 641 = .ok (.invokestatic 109, 3) := by decide +kernel
theorem dL_refuses_644 : decode cL_refuses 644 = .ok (.ldc 28, 2) := by decide +kernel
theorem dL_refuses_646 : decode cL_refuses 646 = .ok (.if_icmp .ne 7, 3) := by decide +kernel
theorem dL_refuses_649 : decode cL_refuses 649 = .ok (.iconst 1, 1) := by decide +kernel
theorem dL_refuses_650 : decode cL_refuses 650 = .ok (.goto 4, 3) := by decide +kernel
theorem dL_refuses_653 : decode cL_refuses 653 = .ok (.iconst 0, 1) := by decide +kernel
theorem dL_refuses_654 : decode cL_refuses 654 = .ok (.ireturn, 1) := by decide +kernel
theorem dL_act_0 : decode cL_act 0 = .ok (.iload_n 1, 1) := by decide +kernel
theorem dL_act_1 : decode cL_act 1 = .ok (.bipush 16, 2) := by decide +kernel
theorem dL_act_3 : decode cL_act 3 = .ok (.idiv, 1) := by decide +kernel
theorem dL_act_4 : decode cL_act 4 = .ok (.istore 4, 2) := by decide +kernel
theorem dL_act_6 : decode cL_act 6 = .ok (.iload 4, 2) := by decide +kernel
theorem dL_act_8 : decode cL_act 8 = .ok (.iload_n 1, 1) := by decide +kernel
theorem dL_act_9 : decode cL_act 9 = .ok (.iconst 3, 1) := by decide +kernel
theorem dL_act_10 : decode cL_act 10 = .ok (.irem, 1) := by decide +kernel
theorem dL_act_11 : decode cL_act 11 = .ok (.ifCond .ne 8, 3) := by decide +kernel
theorem dL_act_14 : decode cL_act 14 = .ok (.bipush 48, 2) := by decide +kernel
theorem dL_act_16 : decode cL_act 16 = .ok (.goto 5, 3) := by decide +kernel
theorem dL_act_19 : decode cL_act 19 = .ok (.bipush 20, 2) := by decide +kernel
theorem dL_act_21 : decode cL_act 21 = .ok (.irem, 1) := by decide +kernel
theorem dL_act_22 : decode cL_act 22 = .ok (.istore 5, 2) := by decide +kernel
theorem dL_act_24 : decode cL_act 24 = .ok (.iload 4, 2) := by decide +kernel
theorem dL_act_26 : decode cL_act 26 = .ok (.iconst 3, 1) := by decide +kernel
theorem dL_act_27 : decode cL_act 27 = .ok (.irem, 1) := by decide +kernel
theorem dL_act_28 : decode cL_act 28 = .ok (.istore 6, 2) := by decide +kernel
theorem dL_act_30 : decode cL_act 30 = .ok (.iload 4, 2) := by decide +kernel
theorem dL_act_32 : decode cL_act 32 = .ok (.iconst 3, 1) := by decide +kernel
theorem dL_act_33 : decode cL_act 33 = .ok (.idiv, 1) := by decide +kernel
theorem dL_act_34 : decode cL_act 34 = .ok (.iconst 2, 1) := by decide +kernel
theorem dL_act_35 : decode cL_act 35 = .ok (.irem, 1) := by decide +kernel
theorem dL_act_36 : decode cL_act 36 = .ok (.istore 7, 2) := by decide +kernel
theorem dL_act_38 : decode cL_act 38 = .ok (.iload_n 1, 1) := by decide +kernel
theorem dL_act_39 : decode cL_act 39 = .ok (.bipush 16, 2) := by decide +kernel
theorem dL_act_41 : decode cL_act 41 = .ok (.irem, 1) := by decide +kernel
theorem dL_act_42 : decode cL_act 42 = .ok (.tableswitch 334 0 14 #[74, 74, 74, 74, 108, 181, 200, 200, 200, 238, 288, 288, 288, 316, 325], 74) := by decide +kernel
theorem dL_act_116 : decode cL_act 116 = .ok (.aload_n 2, 1) := by decide +kernel
theorem dL_act_117 : decode cL_act 117 = .ok (.iload 5, 2) := by decide +kernel
theorem dL_act_119 : decode cL_act 119 = .ok (.iconst 1, 1) := by decide +kernel
theorem dL_act_120 : decode cL_act 120 = .ok (.iload 4, 2) := by decide +kernel
theorem dL_act_122 : decode cL_act 122 = .ok (.bipush 48, 2) := by decide +kernel
theorem dL_act_124 : decode cL_act 124 = .ok (.idiv, 1) := by decide +kernel
theorem dL_act_125 : decode cL_act 125 = .ok (.sipush 9999, 3) := by decide +kernel
theorem dL_act_128 : decode cL_act 128 = .ok (.irem, 1) := by decide +kernel
theorem dL_act_129 : decode cL_act 129 = .ok (.iadd, 1) := by decide +kernel
theorem dL_act_130 : decode cL_act 130 = .ok (.iastore, 1) := by decide +kernel
theorem dL_act_131 : decode cL_act 131 = .ok (.aload_n 0, 1) := by decide +kernel
theorem dL_act_132 : decode cL_act 132 = .ok (.iload 5, 2) := by decide +kernel
theorem dL_act_134 : decode cL_act 134 = .ok (.bipush 12, 2) := by decide +kernel
theorem dL_act_136 : decode cL_act 136 = .ok (.idiv, 1) := by decide +kernel
theorem dL_act_137 : decode cL_act 137 = .ok (.iload 5, 2) := by decide +kernel
theorem dL_act_139 : decode cL_act 139 = .ok (.bipush 12, 2) := by decide +kernel
theorem dL_act_141 : decode cL_act 141 = .ok (.irem, 1) := by decide +kernel
theorem dL_act_142 : decode cL_act 142 = .ok (.aload_n 2, 1) := by decide +kernel
theorem dL_act_143 : decode cL_act 143 = .ok (.iload 5, 2) := by decide +kernel
theorem dL_act_145 : decode cL_act 145 = .ok (.iaload, 1) := by decide +kernel
theorem dL_act_146 : decode cL_act 146 = .ok (.invokestatic 84, 3) := by decide +kernel
theorem dL_act_149 : decode cL_act 149 = .ok (.ireturn, 1) := by decide +kernel
theorem dL_act_150 : decode cL_act 150 = .ok (.iload 5, 2) := by decide +kernel
theorem dL_act_152 : decode cL_act 152 = .ok (.bipush 12, 2) := by decide +kernel
theorem dL_act_154 : decode cL_act 154 = .ok (.irem, 1) := by decide +kernel
theorem dL_act_155 : decode cL_act 155 = .ok (.iload 4, 2) := by decide +kernel
theorem dL_act_157 : decode cL_act 157 = .ok (.bipush 48, 2) := by decide +kernel
theorem dL_act_159 : decode cL_act 159 = .ok (.idiv, 1) := by decide +kernel
theorem dL_act_160 : decode cL_act 160 = .ok (.bipush 12, 2) := by decide +kernel
theorem dL_act_162 : decode cL_act 162 = .ok (.iload 5, 2) := by decide +kernel
theorem dL_act_164 : decode cL_act 164 = .ok (.bipush 12, 2) := by decide +kernel
theorem dL_act_166 : decode cL_act 166 = .ok (.irem, 1) := by decide +kernel
theorem dL_act_167 : decode cL_act 167 = .ok (.isub, 1) := by decide +kernel
theorem dL_act_168 : decode cL_act 168 = .ok (.irem, 1) := by decide +kernel
theorem dL_act_169 : decode cL_act 169 = .ok (.iadd, 1) := by decide +kernel
theorem dL_act_170 : decode cL_act 170 = .ok (.istore 8, 2) := by decide +kernel
theorem dL_act_172 : decode cL_act 172 = .ok (.iload 5, 2) := by decide +kernel
theorem dL_act_174 : decode cL_act 174 = .ok (.bipush 12, 2) := by decide +kernel
theorem dL_act_176 : decode cL_act 176 = .ok (.irem, 1) := by decide +kernel
theorem dL_act_177 : decode cL_act 177 = .ok (.istore 9, 2) := by decide +kernel
theorem dL_act_179 : decode cL_act 179 = .ok (.iload 9, 2) := by decide +kernel
theorem dL_act_181 : decode cL_act 181 = .ok (.iload 8, 2) := by decide +kernel
