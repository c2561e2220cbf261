theorem dL_isSo_638 : decode cL_isSo 638 = .ok (.bipush 7, 2) := by decide +kernel
theorem dL_isSo_640 : decode cL_isSo 640 = .ok (.invokevirtual 35, 3) := by decide +kernel
theorem dL_isSo_643 : decode cL_isSo 643 = .ok (.aload 5, 2) := by decide +kernel
theorem dL_isSo_645 : decode cL_isSo 645 = .ok (.iconst 2, 1) := by decide +kernel
theorem dL_isSo_646 : decode cL_isSo 646 = .ok (.iaload, 1) := by decide +kernel
theorem dL_isSo_647 : decode cL_isSo 647 = .ok (.if_icmp .ne 42, 3) := by decide +kernel
theorem dL_isSo_650 : decode cL_isSo 650 = .ok (.aload_n 0, 1) := by decide +kernel
theorem dL_isSo_651 : decode cL_isSo 651 = .ok (.bipush 8, 2) := by decide +kernel
theorem dL_isSo_653 : decode cL_isSo 653 = .ok (.invokevirtual 35, 3) := by decide +kernel
theorem dL_isSo_656 : decode cL_isSo 656 = .ok (.aload 5, 2) := by decide +kernel
theorem dL_isSo_658 : decode cL_isSo 658 = .ok (.iconst 3, 1) := by decide +kernel
theorem dL_isSo_659 : decode cL_isSo 659 = .ok (.iaload, 1) := by decide +kernel
theorem dL_isSo_660 : decode cL_isSo 660 = .ok (.if_icmp .ne 29, 3) := by decide +kernel
theorem dL_isSo_663 : decode cL_isSo 663 = .ok (.aload_n 0, 1) := by decide +kernel
theorem dL_isSo_664 : decode cL_isSo 664 = .ok (.invokevirtual 84, 3) := by decide +kernel
theorem dL_isSo_667 : decode cL_isSo 667 = .ok (.iload 6, 2) := by decide +kernel
theorem dL_isSo_669 : decode cL_isSo 669 = .ok (.i2d, 1) := by decide +kernel
theorem dL_isSo_670 : decode cL_isSo 670 = .ok (.dmul, 1) := by decide +kernel
theorem dL_isSo_671 : decode cL_isSo 671 = .ok (.iload 7, 2) := by decide +kernel
theorem dL_isSo_673 : decode cL_isSo 673 = .ok (.i2d, 1) := by decide +kernel
theorem dL_isSo_674 : decode cL_isSo 674 = .ok (.dsub, 1) := by decide +kernel
theorem dL_isSo_675 : decode cL_isSo 675 = .ok (.invokestatic 88, 3) := by decide +kernel
theorem dL_isSo_678 : decode cL_isSo 678 = .ok (.ldc2_w 92, 3) := by decide +kernel
theorem dL_isSo_681 : decode cL_isSo 681 = .ok (.dcmp .g, 1) := by decide +kernel
theorem dL_isSo_682 : decode cL_isSo 682 = .ok (.ifCond .ge 7, 3) := by decide +kernel
theorem dL_isSo_685 : decode cL_isSo 685 = .ok (.iconst 1, 1) := by decide +kernel
theorem dL_isSo_686 : decode cL_isSo 686 = .ok (.goto 4, 3) := by decide +kernel
theorem dL_isSo_689 : decode cL_isSo 689 = .ok (.iconst 0, 1) := by decide +kernel
theorem dL_isSo_690 : decode cL_isSo 690 = .ok (.ireturn, 1) := by decide +kernel
