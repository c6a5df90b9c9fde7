theorem dX12_changes_579 : decode cX12_changes 579 = .ok (.invokevirtual 67, 3) := by decide +kernel
theorem dX12_changes_582 : decode cX12_changes 582 = .ok (.lstore 10, 2) := by decide +kernel
theorem dX12_changes_584 : decode cX12_changes 584 = .ok (.aload_n 0, 1) := by decide +kernel
theorem dX12_changes_585 : decode cX12_changes 585 = .ok (.invokevirtual 70, 3) := by decide +kernel
theorem dX12_changes_588 : decode cX12_changes 588 = .ok (.lstore 12, 2) := by decide +kernel
theorem dX12_changes_590 : decode cX12_changes 590 = .ok (.iload 9, 2) := by decide +kernel
theorem dX12_changes_592 : decode cX12_changes 592 = .ok (.iload 5, 2) := by decide +kernel
theorem dX12_changes_594 : decode cX12_changes 594 = .ok (.iadd, 1) := by decide +kernel
theorem dX12_changes_595 : decode cX12_changes 595 = .ok (.ldc 97, 2) := by decide +kernel
theorem dX12_changes_597 : decode cX12_changes 597 = .ok (.if_icmp .gt 23, 3) := by decide +kernel
theorem dX12_changes_600 : decode cX12_changes 600 = .ok (.aload_n 0, 1) := by decide +kernel
theorem dX12_changes_601 : decode cX12_changes 601 = .ok (.iconst 5, 1) := by decide +kernel
theorem dX12_changes_602 : decode cX12_changes 602 = .ok (.iload 6, 2) := by decide +kernel
theorem dX12_changes_604 : decode cX12_changes 604 = .ok (.invokevirtual 116, 3) := by decide +kernel
theorem dX12_changes_607 : decode cX12_changes 607 = .ok (.iconst 1, 1) := by decide +kernel
theorem dX12_changes_608 : decode cX12_changes 608 = .ok (.if_icmp .lt 12, 3) := by decide +kernel
theorem dX12_changes_611 : decode cX12_changes 611 = .ok (.aload_n 0, 1) := by decide +kernel
theorem dX12_changes_612 : decode cX12_changes 612 = .ok (.iload 5, 2) := by decide +kernel
theorem dX12_changes_614 : decode cX12_changes 614 = .ok (.invokevirtual 94, 3) := by decide +kernel
theorem dX12_changes_617 : decode cX12_changes 617 = .ok (.ifCond .ge 19, 3) := by decide +kernel
theorem dX12_changes_620 : decode cX12_changes 620 = .ok (.iload 9, 2) := by decide +kernel
theorem dX12_changes_622 : decode cX12_changes 622 = .ok (.iload 5, 2) := by decide +kernel
theorem dX12_changes_624 : decode cX12_changes 624 = .ok (.iadd, 1) := by decide +kernel
theorem dX12_changes_625 : decode cX12_changes 625 = .ok (.ldc 97, 2) := by decide +kernel
theorem dX12_changes_627 : decode cX12_changes 627 = .ok (.if_icmp .le 7, 3) := by decide +kernel
theorem dX12_changes_630 : decode cX12_changes 630 = .ok (.iconst 1, 1) := by decide +kernel
theorem dX12_changes_631 : decode cX12_changes 631 = .ok (.goto 4, 3) := by decide +kernel
theorem dX12_changes_634 : decode cX12_changes 634 = .ok (.iconst 0, 1) := by decide +kernel
theorem dX12_changes_635 : decode cX12_changes 635 = .ok (.ireturn, 1) := by decide +kernel
theorem dX12_changes_636 : decode cX12_changes 636 = .ok (.aload_n 0, 1) := by decide +kernel
theorem dX12_changes_637 : decode cX12_changes 637 = .ok (.invokevirtual 67, 3) := by decide +kernel
theorem dX12_changes_640 : decode cX12_changes 640 = .ok (.lstore 14, 2) := by decide +kernel
theorem dX12_changes_642 : decode cX12_changes 642 = .ok (.aload_n 0, 1) := by decide +kernel
theorem dX12_changes_643 : decode cX12_changes 643 = .ok (.invokevirtual 70, 3) := by decide +kernel
theorem dX12_changes_646 : decode cX12_changes 646 = .ok (.lstore 16, 2) := by decide +kernel
theorem dX12_changes_648 : decode cX12_changes 648 = .ok (.aload_n 0, 1) := by decide +kernel
theorem dX12_changes_649 : decode cX12_changes 649 = .ok (.invokevirtual 139, 3) := by decide +kernel
theorem dX12_changes_652 : decode cX12_changes 652 = .ok (.ifCond .lt 43, 3) := by decide +kernel
theorem dX12_changes_655 : decode cX12_changes 655 = .ok (.aload_n 0, 1) := by decide +kernel
theorem dX12_changes_656 : decode cX12_changes 656 = .ok (.invokevirtual 67, 3) := by decide +kernel
theorem dX12_changes_659 : decode cX12_changes 659 = .ok (.lload 10, 2) := by decide +kernel
theorem dX12_changes_661 : decode cX12_changes 661 = .ok (.lcmp, 1) := by decide +kernel
theorem dX12_changes_662 : decode cX12_changes 662 = .ok (.ifCond .ne 33, 3) := by decide +kernel
theorem dX12_changes_665 : decode cX12_changes 665 = .ok (.aload_n 0, 1) := by decide +kernel
theorem dX12_changes_666 : decode cX12_changes 666 = .ok (.invokevirtual 70, 3) := by decide +kernel
theorem dX12_changes_669 : decode cX12_changes 669 = .ok (.lload 12, 2) := by decide +kernel
theorem dX12_changes_671 : decode cX12_changes 671 = .ok (.lcmp, 1) := by decide +kernel
theorem dX12_changes_672 : decode cX12_changes 672 = .ok (.ifCond .ne 23, 3) := by decide +kernel
theorem dX12_changes_675 : decode cX12_changes 675 = .ok (.aload_n 0, 1) := by decide +kernel
theorem dX12_changes_676 : decode cX12_changes 676 = .ok (.iconst 5, 1) := by decide +kernel
theorem dX12_changes_677 : decode cX12_changes 677 = .ok (.iload 7, 2) := by decide +kernel
theorem dX12_changes_679 : decode cX12_changes 679 = .ok (.invokevirtual 116, 3) := by decide +kernel
theorem dX12_changes_682 : decode cX12_changes 682 = .ok (.iconst 1, 1) := by decide +kernel
theorem dX12_changes_683 : decode cX12_changes 683 = .ok (.if_icmp .lt 12, 3) := by decide +kernel
theorem dX12_changes_686 : decode cX12_changes 686 = .ok (.aload_n 0, 1) := by decide +kernel
theorem dX12_changes_687 : decode cX12_changes 687 = .ok (.iload 5, 2) := by decide +kernel
theorem dX12_changes_689 : decode cX12_changes 689 = .ok (.invokevirtual 94, 3) := by decide +kernel
theorem dX12_changes_692 : decode cX12_changes 692 = .ok (.ifCond .ge 5, 3) := by decide +kernel
theorem dX12_changes_695 : decode cX12_changes 695 = .ok (.iconst 0, 1) := by decide +kernel
theorem dX12_changes_696 : decode cX12_changes 696 = .ok (.ireturn, 1) := by decide +kernel
theorem dX12_changes_697 : decode cX12_changes 697 = .ok (.lload 14, 2) := by decide +kernel
theorem dX12_changes_699 : decode cX12_changes 699 = .ok (.aload_n 0, 1) := by decide +kernel
theorem dX12_changes_700 : decode cX12_changes 700 = .ok (.invokevirtual 67, 3) := by decide +kernel
theorem dX12_changes_703 : decode cX12_changes 703 = .ok (.lcmp, 1) := by decide +kernel
theorem dX12_changes_704 : decode cX12_changes 704 = .ok (.ifCond .lt 40, 3) := by decide +kernel
theorem dX12_changes_707 : decode cX12_changes 707 = .ok (.lload 14, 2) := by decide +kernel
theorem dX12_changes_709 : decode cX12_changes 709 = .ok (.aload_n 0, 1) := by decide +kernel
theorem dX12_changes_710 : decode cX12_changes 710 = .ok (.invokevirtual 67, 3) := by decide +kernel
theorem dX12_changes_713 : decode cX12_changes 713 = .ok (.lcmp, 1) := by decide +kernel
theorem dX12_changes_714 : decode cX12_changes 714 = .ok (.ifCond .ne 34, 3) := by decide +kernel
theorem dX12_changes_717 : decode cX12_changes 717 = .ok (.lload 16, 2) := by decide +kernel
theorem dX12_changes_719 : decode cX12_changes 719 = .ok (.aload_n 0, 1) := by decide +kernel
theorem dX12_changes_720 : decode cX12_changes 720 = .ok (.invokevirtual 70, 3) := by decide +kernel
theorem dX12_changes_723 : decode cX12_changes 723 = .ok (.lcmp, 1) := by decide +kernel
theorem dX12_changes_724 : decode cX12_changes 724 = .ok (.ifCond .lt 20, 3) := by decide +kernel
